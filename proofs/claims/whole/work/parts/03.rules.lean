theorem K.iconst {Λ : kL} {X : kX} {μ : kMi} {mc ms : Nat} {Z : State → Prop} {bc bs : Nat} {σ : kh} {pc : Nat} {L : List (Option Value)} {st : List Value} {j : Int} {v : Int32} (hd : decode μ.2.1 pc = .ok (.iconst j, 1)) (hv : Int32.ofInt j = v) (k : K Λ X μ mc ms Z bc bs σ (pc + 1) L (.int v :: st)) : K Λ X μ mc ms Z bc bs σ pc L st := by
  obtain ⟨p, e, R, s, m, args, below, meth, c⟩ := X
  intro F H locs k1 n1 ls h1 h2 h3 h4 h5 h6
  exact lv_iconst F.1 F.2.1 hd hv (k F H locs k1 n1 ls h1 h2 h3 h4 h5 h6)
theorem K.bipush {Λ : kL} {X : kX} {μ : kMi} {mc ms : Nat} {Z : State → Prop} {bc bs : Nat} {σ : kh} {pc : Nat} {L : List (Option Value)} {st : List Value} {j : Int} {v : Int32} (hd : decode μ.2.1 pc = .ok (.bipush j, 2)) (hv : (Int8.ofInt j).toInt32 = v) (k : K Λ X μ mc ms Z bc bs σ (pc + 2) L (.int v :: st)) : K Λ X μ mc ms Z bc bs σ pc L st := by
  obtain ⟨p, e, R, s, m, args, below, meth, c⟩ := X
  intro F H locs k1 n1 ls h1 h2 h3 h4 h5 h6
  exact lv_bipush F.1 F.2.1 hd hv (k F H locs k1 n1 ls h1 h2 h3 h4 h5 h6)
theorem K.sipush {Λ : kL} {X : kX} {μ : kMi} {mc ms : Nat} {Z : State → Prop} {bc bs : Nat} {σ : kh} {pc : Nat} {L : List (Option Value)} {st : List Value} {j : Int} {v : Int32} (hd : decode μ.2.1 pc = .ok (.sipush j, 3)) (hv : (Int16.ofInt j).toInt32 = v) (k : K Λ X μ mc ms Z bc bs σ (pc + 3) L (.int v :: st)) : K Λ X μ mc ms Z bc bs σ pc L st := by
  obtain ⟨p, e, R, s, m, args, below, meth, c⟩ := X
  intro F H locs k1 n1 ls h1 h2 h3 h4 h5 h6
  exact lv_sipush F.1 F.2.1 hd hv (k F H locs k1 n1 ls h1 h2 h3 h4 h5 h6)
theorem K.lconst {Λ : kL} {X : kX} {μ : kMi} {mc ms : Nat} {Z : State → Prop} {bc bs : Nat} {σ : kh} {pc : Nat} {L : List (Option Value)} {st : List Value} {j : Fin 2} {v : Int64} (hd : decode μ.2.1 pc = .ok (.lconst j, 1)) (hv : Int64.ofNat (j : Nat) = v) (k : K Λ X μ mc ms Z bc bs σ (pc + 1) L (.long v :: st)) : K Λ X μ mc ms Z bc bs σ pc L st := by
  obtain ⟨p, e, R, s, m, args, below, meth, c⟩ := X
  intro F H locs k1 n1 ls h1 h2 h3 h4 h5 h6
  exact lv_lconst F.1 F.2.1 hd hv (k F H locs k1 n1 ls h1 h2 h3 h4 h5 h6)
theorem K.iload {Λ : kL} {X : kX} {μ : kMi} {mc ms : Nat} {Z : State → Prop} {bc bs : Nat} {σ : kh} {pc : Nat} {L : List (Option Value)} {st : List Value} {i : Nat} {x : Int32} (hd : decode μ.2.1 pc = .ok (.iload i, 2)) (hl : L[i]? = some (some (.int x))) (k : K Λ X μ mc ms Z bc bs σ (pc + 2) L (.int x :: st)) : K Λ X μ mc ms Z bc bs σ pc L st := by
  obtain ⟨p, e, R, s, m, args, below, meth, c⟩ := X
  intro F H locs k1 n1 ls h1 h2 h3 h4 h5 h6
  exact lv_iload F.1 F.2.1 hd (h6.at hl) (k F H locs k1 n1 ls h1 h2 h3 h4 h5 h6)
theorem K.iload_n {Λ : kL} {X : kX} {μ : kMi} {mc ms : Nat} {Z : State → Prop} {bc bs : Nat} {σ : kh} {pc : Nat} {L : List (Option Value)} {st : List Value} {i : Fin 4} {x : Int32} (hd : decode μ.2.1 pc = .ok (.iload_n i, 1)) (hl : L[(i : Nat)]? = some (some (.int x))) (k : K Λ X μ mc ms Z bc bs σ (pc + 1) L (.int x :: st)) : K Λ X μ mc ms Z bc bs σ pc L st := by
  obtain ⟨p, e, R, s, m, args, below, meth, c⟩ := X
  intro F H locs k1 n1 ls h1 h2 h3 h4 h5 h6
  exact lv_iload_n F.1 F.2.1 hd rfl (h6.at hl) (k F H locs k1 n1 ls h1 h2 h3 h4 h5 h6)
theorem K.lload {Λ : kL} {X : kX} {μ : kMi} {mc ms : Nat} {Z : State → Prop} {bc bs : Nat} {σ : kh} {pc : Nat} {L : List (Option Value)} {st : List Value} {i : Nat} {x : Int64} (hd : decode μ.2.1 pc = .ok (.lload i, 2)) (hl : L[i]? = some (some (.long x))) (k : K Λ X μ mc ms Z bc bs σ (pc + 2) L (.long x :: st)) : K Λ X μ mc ms Z bc bs σ pc L st := by
  obtain ⟨p, e, R, s, m, args, below, meth, c⟩ := X
  intro F H locs k1 n1 ls h1 h2 h3 h4 h5 h6
  exact lv_lload F.1 F.2.1 hd (h6.at hl) (k F H locs k1 n1 ls h1 h2 h3 h4 h5 h6)
theorem K.lload_n {Λ : kL} {X : kX} {μ : kMi} {mc ms : Nat} {Z : State → Prop} {bc bs : Nat} {σ : kh} {pc : Nat} {L : List (Option Value)} {st : List Value} {i : Fin 4} {x : Int64} (hd : decode μ.2.1 pc = .ok (.lload_n i, 1)) (hl : L[(i : Nat)]? = some (some (.long x))) (k : K Λ X μ mc ms Z bc bs σ (pc + 1) L (.long x :: st)) : K Λ X μ mc ms Z bc bs σ pc L st := by
  obtain ⟨p, e, R, s, m, args, below, meth, c⟩ := X
  intro F H locs k1 n1 ls h1 h2 h3 h4 h5 h6
  exact lv_lload_n F.1 F.2.1 hd rfl (h6.at hl) (k F H locs k1 n1 ls h1 h2 h3 h4 h5 h6)
theorem K.aload {Λ : kL} {X : kX} {μ : kMi} {mc ms : Nat} {Z : State → Prop} {bc bs : Nat} {σ : kh} {pc : Nat} {L : List (Option Value)} {st : List Value} {i : Nat} {r : Option Nat} (hd : decode μ.2.1 pc = .ok (.aload i, 2)) (hl : L[i]? = some (some (va_rf r))) (k : K Λ X μ mc ms Z bc bs σ (pc + 2) L (va_rf r :: st)) : K Λ X μ mc ms Z bc bs σ pc L st := by
  obtain ⟨p, e, R, s, m, args, below, meth, c⟩ := X
  intro F H locs k1 n1 ls h1 h2 h3 h4 h5 h6
  cases r with
  | none => exact lv_aloadN F.1 F.2.1 hd (h6.at hl) (k F H locs k1 n1 ls h1 h2 h3 h4 h5 h6)
  | some x => exact lv_aload F.1 F.2.1 hd (h6.at hl) (k F H locs k1 n1 ls h1 h2 h3 h4 h5 h6)
theorem K.aload_n {Λ : kL} {X : kX} {μ : kMi} {mc ms : Nat} {Z : State → Prop} {bc bs : Nat} {σ : kh} {pc : Nat} {L : List (Option Value)} {st : List Value} {i : Fin 4} {r : Option Nat} (hd : decode μ.2.1 pc = .ok (.aload_n i, 1)) (hl : L[(i : Nat)]? = some (some (va_rf r))) (k : K Λ X μ mc ms Z bc bs σ (pc + 1) L (va_rf r :: st)) : K Λ X μ mc ms Z bc bs σ pc L st := by
  obtain ⟨p, e, R, s, m, args, below, meth, c⟩ := X
  intro F H locs k1 n1 ls h1 h2 h3 h4 h5 h6
  cases r with
  | none => exact lv_aload_nN F.1 F.2.1 hd rfl (h6.at hl) (k F H locs k1 n1 ls h1 h2 h3 h4 h5 h6)
  | some x => exact lv_aload_n F.1 F.2.1 hd rfl (h6.at hl) (k F H locs k1 n1 ls h1 h2 h3 h4 h5 h6)
theorem K.aloadR {Λ : kL} {X : kX} {μ : kMi} {mc ms : Nat} {Z : State → Prop} {bc bs : Nat} {σ : kh} {pc : Nat} {L : List (Option Value)} {st : List Value} {i : Nat} {x : Nat} (hd : decode μ.2.1 pc = .ok (.aload i, 2)) (hl : L[i]? = some (some (.ref x))) (k : K Λ X μ mc ms Z bc bs σ (pc + 2) L ((.ref x) :: st)) : K Λ X μ mc ms Z bc bs σ pc L st := K.aload (r := (some x)) hd hl k
theorem K.aloadN {Λ : kL} {X : kX} {μ : kMi} {mc ms : Nat} {Z : State → Prop} {bc bs : Nat} {σ : kh} {pc : Nat} {L : List (Option Value)} {st : List Value} {i : Nat} (hd : decode μ.2.1 pc = .ok (.aload i, 2)) (hl : L[i]? = some (some .null)) (k : K Λ X μ mc ms Z bc bs σ (pc + 2) L (.null :: st)) : K Λ X μ mc ms Z bc bs σ pc L st := K.aload (r := none) hd hl k
theorem K.aload_nR {Λ : kL} {X : kX} {μ : kMi} {mc ms : Nat} {Z : State → Prop} {bc bs : Nat} {σ : kh} {pc : Nat} {L : List (Option Value)} {st : List Value} {i : Fin 4} {x : Nat} (hd : decode μ.2.1 pc = .ok (.aload_n i, 1)) (hl : L[(i : Nat)]? = some (some (.ref x))) (k : K Λ X μ mc ms Z bc bs σ (pc + 1) L ((.ref x) :: st)) : K Λ X μ mc ms Z bc bs σ pc L st := K.aload_n (r := (some x)) hd hl k
theorem K.aload_nN {Λ : kL} {X : kX} {μ : kMi} {mc ms : Nat} {Z : State → Prop} {bc bs : Nat} {σ : kh} {pc : Nat} {L : List (Option Value)} {st : List Value} {i : Fin 4} (hd : decode μ.2.1 pc = .ok (.aload_n i, 1)) (hl : L[(i : Nat)]? = some (some .null)) (k : K Λ X μ mc ms Z bc bs σ (pc + 1) L (.null :: st)) : K Λ X μ mc ms Z bc bs σ pc L st := K.aload_n (r := none) hd hl k
theorem K.istore {Λ : kL} {X : kX} {μ : kMi} {mc ms : Nat} {Z : State → Prop} {bc bs : Nat} {σ : kh} {pc : Nat} {L : List (Option Value)} {st : List Value} {i : Nat} {x : Int32} {L' : List (Option Value)} (hd : decode μ.2.1 pc = .ok (.istore i, 2)) (hi : i < μ.2.2.1) (hp : kprev L i = true) (hL : L.set i (some (.int x)) = L') (k : K Λ X μ mc ms Z bc bs σ (pc + 2) L' st) : K Λ X μ mc ms Z bc bs σ pc L (.int x :: st) := by
  obtain ⟨p, e, R, s, m, args, below, meth, c⟩ := X
  intro F H locs k1 n1 ls h1 h2 h3 h4 h5 h6
  exact lv_istore F.1 F.2.1 hd h6.has hi rfl (fun ls' hl' => k F H locs k1 n1 ls' h1 h2 h3 h4 h5 (kLs.st hl' hp hL))
theorem K.istore_n {Λ : kL} {X : kX} {μ : kMi} {mc ms : Nat} {Z : State → Prop} {bc bs : Nat} {σ : kh} {pc : Nat} {L : List (Option Value)} {st : List Value} {i : Fin 4} {x : Int32} {L' : List (Option Value)} (hd : decode μ.2.1 pc = .ok (.istore_n i, 1)) (hi : (i : Nat) < μ.2.2.1) (hp : kprev L (i : Nat) = true) (hL : L.set (i : Nat) (some (.int x)) = L') (k : K Λ X μ mc ms Z bc bs σ (pc + 1) L' st) : K Λ X μ mc ms Z bc bs σ pc L (.int x :: st) := by
  obtain ⟨p, e, R, s, m, args, below, meth, c⟩ := X
  intro F H locs k1 n1 ls h1 h2 h3 h4 h5 h6
  exact lv_istore_n F.1 F.2.1 hd rfl h6.has hi rfl (fun ls' hl' => k F H locs k1 n1 ls' h1 h2 h3 h4 h5 (kLs.st hl' hp hL))
theorem K.astore {Λ : kL} {X : kX} {μ : kMi} {mc ms : Nat} {Z : State → Prop} {bc bs : Nat} {σ : kh} {pc : Nat} {L : List (Option Value)} {st : List Value} {i : Nat} {x : Nat} {L' : List (Option Value)} (hd : decode μ.2.1 pc = .ok (.astore i, 2)) (hi : i < μ.2.2.1) (hp : kprev L i = true) (hL : L.set i (some (.ref x)) = L') (k : K Λ X μ mc ms Z bc bs σ (pc + 2) L' st) : K Λ X μ mc ms Z bc bs σ pc L (.ref x :: st) := by
  obtain ⟨p, e, R, s, m, args, below, meth, c⟩ := X
  intro F H locs k1 n1 ls h1 h2 h3 h4 h5 h6
  exact lv_astore F.1 F.2.1 hd h6.has hi rfl (fun ls' hl' => k F H locs k1 n1 ls' h1 h2 h3 h4 h5 (kLs.st hl' hp hL))
theorem K.astore_n {Λ : kL} {X : kX} {μ : kMi} {mc ms : Nat} {Z : State → Prop} {bc bs : Nat} {σ : kh} {pc : Nat} {L : List (Option Value)} {st : List Value} {i : Fin 4} {x : Nat} {L' : List (Option Value)} (hd : decode μ.2.1 pc = .ok (.astore_n i, 1)) (hi : (i : Nat) < μ.2.2.1) (hp : kprev L (i : Nat) = true) (hL : L.set (i : Nat) (some (.ref x)) = L') (k : K Λ X μ mc ms Z bc bs σ (pc + 1) L' st) : K Λ X μ mc ms Z bc bs σ pc L (.ref x :: st) := by
  obtain ⟨p, e, R, s, m, args, below, meth, c⟩ := X
  intro F H locs k1 n1 ls h1 h2 h3 h4 h5 h6
  exact lv_astore_n F.1 F.2.1 hd rfl h6.has hi rfl (fun ls' hl' => k F H locs k1 n1 ls' h1 h2 h3 h4 h5 (kLs.st hl' hp hL))
theorem K.astoreN {Λ : kL} {X : kX} {μ : kMi} {mc ms : Nat} {Z : State → Prop} {bc bs : Nat} {σ : kh} {pc : Nat} {L : List (Option Value)} {st : List Value} {i : Nat} {L' : List (Option Value)} (hd : decode μ.2.1 pc = .ok (.astore i, 2)) (hi : i < μ.2.2.1) (hp : kprev L i = true) (hL : L.set i (some (.null)) = L') (k : K Λ X μ mc ms Z bc bs σ (pc + 2) L' st) : K Λ X μ mc ms Z bc bs σ pc L (.null :: st) := by
  obtain ⟨p, e, R, s, m, args, below, meth, c⟩ := X
  intro F H locs k1 n1 ls h1 h2 h3 h4 h5 h6
  exact lv_astoreN F.1 F.2.1 hd h6.has hi rfl (fun ls' hl' => k F H locs k1 n1 ls' h1 h2 h3 h4 h5 (kLs.st hl' hp hL))
theorem K.astore_nN {Λ : kL} {X : kX} {μ : kMi} {mc ms : Nat} {Z : State → Prop} {bc bs : Nat} {σ : kh} {pc : Nat} {L : List (Option Value)} {st : List Value} {i : Fin 4} {L' : List (Option Value)} (hd : decode μ.2.1 pc = .ok (.astore_n i, 1)) (hi : (i : Nat) < μ.2.2.1) (hp : kprev L (i : Nat) = true) (hL : L.set (i : Nat) (some (.null)) = L') (k : K Λ X μ mc ms Z bc bs σ (pc + 1) L' st) : K Λ X μ mc ms Z bc bs σ pc L (.null :: st) := by
  obtain ⟨p, e, R, s, m, args, below, meth, c⟩ := X
  intro F H locs k1 n1 ls h1 h2 h3 h4 h5 h6
  exact lv_astore_nN F.1 F.2.1 hd rfl h6.has hi rfl (fun ls' hl' => k F H locs k1 n1 ls' h1 h2 h3 h4 h5 (kLs.st hl' hp hL))
theorem K.lstore {Λ : kL} {X : kX} {μ : kMi} {mc ms : Nat} {Z : State → Prop} {bc bs : Nat} {σ : kh} {pc : Nat} {L : List (Option Value)} {st : List Value} {i : Nat} {x : Int64} {L' : List (Option Value)} (hd : decode μ.2.1 pc = .ok (.lstore i, 2)) (hi : i + 1 < μ.2.2.1) (hp : kprev L i = true) (hL : (L.set i (some (.long x))).set (i + 1) none = L') (k : K Λ X μ mc ms Z bc bs σ (pc + 2) L' st) : K Λ X μ mc ms Z bc bs σ pc L (.long x :: st) := by
  obtain ⟨p, e, R, s, m, args, below, meth, c⟩ := X
  intro F H locs k1 n1 ls h1 h2 h3 h4 h5 h6
  exact lv_lstore F.1 F.2.1 hd h6.has hi rfl (fun ls' hl' => k F H locs k1 n1 ls' h1 h2 h3 h4 h5 (kLs.stl hl' hp hL))
theorem K.lstore_n {Λ : kL} {X : kX} {μ : kMi} {mc ms : Nat} {Z : State → Prop} {bc bs : Nat} {σ : kh} {pc : Nat} {L : List (Option Value)} {st : List Value} {i : Fin 4} {x : Int64} {L' : List (Option Value)} (hd : decode μ.2.1 pc = .ok (.lstore_n i, 1)) (hi : (i : Nat) + 1 < μ.2.2.1) (hp : kprev L (i : Nat) = true) (hL : (L.set (i : Nat) (some (.long x))).set ((i : Nat) + 1) none = L') (k : K Λ X μ mc ms Z bc bs σ (pc + 1) L' st) : K Λ X μ mc ms Z bc bs σ pc L (.long x :: st) := by
  obtain ⟨p, e, R, s, m, args, below, meth, c⟩ := X
  intro F H locs k1 n1 ls h1 h2 h3 h4 h5 h6
  exact lv_lstore_n F.1 F.2.1 hd rfl h6.has hi rfl (fun ls' hl' => k F H locs k1 n1 ls' h1 h2 h3 h4 h5 (kLs.stl hl' hp hL))
theorem K.iinc {Λ : kL} {X : kX} {μ : kMi} {mc ms : Nat} {Z : State → Prop} {bc bs : Nat} {σ : kh} {pc : Nat} {L : List (Option Value)} {st : List Value} {i : Nat} {j : Int} {x v : Int32} {L' : List (Option Value)} (hd : decode μ.2.1 pc = .ok (.iinc i j, 3)) (hx : L[i]? = some (some (.int x))) (hv : x + Int32.ofInt j = v) (hi : i < μ.2.2.1) (hp : kprev L i = true) (hL : L.set i (some (.int v)) = L') (k : K Λ X μ mc ms Z bc bs σ (pc + 3) L' st) : K Λ X μ mc ms Z bc bs σ pc L st := by
  obtain ⟨p, e, R, s, m, args, below, meth, c⟩ := X
  intro F H locs k1 n1 ls h1 h2 h3 h4 h5 h6
  obtain ⟨k9, hk9⟩ := kLs.place hx
  exact lv_iinc F.1 F.2.1 hd h6.has hk9 hv hi rfl (fun ls' hl' => k F H locs k1 n1 ls' h1 h2 h3 h4 h5 (kLs.st hl' hp hL))
theorem K.iadd {Λ : kL} {X : kX} {μ : kMi} {mc ms : Nat} {Z : State → Prop} {bc bs : Nat} {σ : kh} {pc : Nat} {L : List (Option Value)} {st : List Value} {x y : Int32} (hd : decode μ.2.1 pc = .ok (.iadd, 1))  (k : K Λ X μ mc ms Z bc bs σ (pc + 1) L (.int (x + y) :: st)) : K Λ X μ mc ms Z bc bs σ pc L (.int y :: .int x :: st) := by
  obtain ⟨p, e, R, s, m, args, below, meth, c⟩ := X
  intro F H locs k1 n1 ls h1 h2 h3 h4 h5 h6
  exact lv_iadd F.1 F.2.1 hd (k F H locs k1 n1 ls h1 h2 h3 h4 h5 h6)
theorem K.isub {Λ : kL} {X : kX} {μ : kMi} {mc ms : Nat} {Z : State → Prop} {bc bs : Nat} {σ : kh} {pc : Nat} {L : List (Option Value)} {st : List Value} {x y : Int32} (hd : decode μ.2.1 pc = .ok (.isub, 1))  (k : K Λ X μ mc ms Z bc bs σ (pc + 1) L (.int (x - y) :: st)) : K Λ X μ mc ms Z bc bs σ pc L (.int y :: .int x :: st) := by
  obtain ⟨p, e, R, s, m, args, below, meth, c⟩ := X
  intro F H locs k1 n1 ls h1 h2 h3 h4 h5 h6
  exact lv_isub F.1 F.2.1 hd (k F H locs k1 n1 ls h1 h2 h3 h4 h5 h6)
theorem K.imul {Λ : kL} {X : kX} {μ : kMi} {mc ms : Nat} {Z : State → Prop} {bc bs : Nat} {σ : kh} {pc : Nat} {L : List (Option Value)} {st : List Value} {x y : Int32} (hd : decode μ.2.1 pc = .ok (.imul, 1))  (k : K Λ X μ mc ms Z bc bs σ (pc + 1) L (.int (x * y) :: st)) : K Λ X μ mc ms Z bc bs σ pc L (.int y :: .int x :: st) := by
  obtain ⟨p, e, R, s, m, args, below, meth, c⟩ := X
  intro F H locs k1 n1 ls h1 h2 h3 h4 h5 h6
  exact lv_imul F.1 F.2.1 hd (k F H locs k1 n1 ls h1 h2 h3 h4 h5 h6)
theorem K.iand {Λ : kL} {X : kX} {μ : kMi} {mc ms : Nat} {Z : State → Prop} {bc bs : Nat} {σ : kh} {pc : Nat} {L : List (Option Value)} {st : List Value} {x y : Int32} (hd : decode μ.2.1 pc = .ok (.iand, 1))  (k : K Λ X μ mc ms Z bc bs σ (pc + 1) L (.int (x &&& y) :: st)) : K Λ X μ mc ms Z bc bs σ pc L (.int y :: .int x :: st) := by
  obtain ⟨p, e, R, s, m, args, below, meth, c⟩ := X
  intro F H locs k1 n1 ls h1 h2 h3 h4 h5 h6
  exact lv_iand F.1 F.2.1 hd (k F H locs k1 n1 ls h1 h2 h3 h4 h5 h6)
theorem K.ior {Λ : kL} {X : kX} {μ : kMi} {mc ms : Nat} {Z : State → Prop} {bc bs : Nat} {σ : kh} {pc : Nat} {L : List (Option Value)} {st : List Value} {x y : Int32} (hd : decode μ.2.1 pc = .ok (.ior, 1))  (k : K Λ X μ mc ms Z bc bs σ (pc + 1) L (.int (x ||| y) :: st)) : K Λ X μ mc ms Z bc bs σ pc L (.int y :: .int x :: st) := by
  obtain ⟨p, e, R, s, m, args, below, meth, c⟩ := X
  intro F H locs k1 n1 ls h1 h2 h3 h4 h5 h6
  exact lv_ior F.1 F.2.1 hd (k F H locs k1 n1 ls h1 h2 h3 h4 h5 h6)
theorem K.ixor {Λ : kL} {X : kX} {μ : kMi} {mc ms : Nat} {Z : State → Prop} {bc bs : Nat} {σ : kh} {pc : Nat} {L : List (Option Value)} {st : List Value} {x y : Int32} (hd : decode μ.2.1 pc = .ok (.ixor, 1))  (k : K Λ X μ mc ms Z bc bs σ (pc + 1) L (.int (x ^^^ y) :: st)) : K Λ X μ mc ms Z bc bs σ pc L (.int y :: .int x :: st) := by
  obtain ⟨p, e, R, s, m, args, below, meth, c⟩ := X
  intro F H locs k1 n1 ls h1 h2 h3 h4 h5 h6
  exact lv_ixor F.1 F.2.1 hd (k F H locs k1 n1 ls h1 h2 h3 h4 h5 h6)
theorem K.ishl {Λ : kL} {X : kX} {μ : kMi} {mc ms : Nat} {Z : State → Prop} {bc bs : Nat} {σ : kh} {pc : Nat} {L : List (Option Value)} {st : List Value} {x y : Int32} (hd : decode μ.2.1 pc = .ok (.ishl, 1))  (k : K Λ X μ mc ms Z bc bs σ (pc + 1) L (.int (x <<< (y &&& 31)) :: st)) : K Λ X μ mc ms Z bc bs σ pc L (.int y :: .int x :: st) := by
  obtain ⟨p, e, R, s, m, args, below, meth, c⟩ := X
  intro F H locs k1 n1 ls h1 h2 h3 h4 h5 h6
  exact lv_ishl F.1 F.2.1 hd (k F H locs k1 n1 ls h1 h2 h3 h4 h5 h6)
theorem K.ishr {Λ : kL} {X : kX} {μ : kMi} {mc ms : Nat} {Z : State → Prop} {bc bs : Nat} {σ : kh} {pc : Nat} {L : List (Option Value)} {st : List Value} {x y : Int32} (hd : decode μ.2.1 pc = .ok (.ishr, 1))  (k : K Λ X μ mc ms Z bc bs σ (pc + 1) L (.int (x >>> (y &&& 31)) :: st)) : K Λ X μ mc ms Z bc bs σ pc L (.int y :: .int x :: st) := by
  obtain ⟨p, e, R, s, m, args, below, meth, c⟩ := X
  intro F H locs k1 n1 ls h1 h2 h3 h4 h5 h6
  exact lv_ishr F.1 F.2.1 hd (k F H locs k1 n1 ls h1 h2 h3 h4 h5 h6)
theorem K.iushr {Λ : kL} {X : kX} {μ : kMi} {mc ms : Nat} {Z : State → Prop} {bc bs : Nat} {σ : kh} {pc : Nat} {L : List (Option Value)} {st : List Value} {x y v : Int32} (hd : decode μ.2.1 pc = .ok (.iushr, 1)) (hv : (x.toUInt32 >>> (y.toUInt32 &&& Int32.toUInt32 31)).toInt32 = v) (k : K Λ X μ mc ms Z bc bs σ (pc + 1) L (.int v :: st)) : K Λ X μ mc ms Z bc bs σ pc L (.int y :: .int x :: st) := by
  obtain ⟨p, e, R, s, m, args, below, meth, c⟩ := X
  intro F H locs k1 n1 ls h1 h2 h3 h4 h5 h6
  exact lv_iushr F.1 F.2.1 hd hv (k F H locs k1 n1 ls h1 h2 h3 h4 h5 h6)
theorem K.idiv {Λ : kL} {X : kX} {μ : kMi} {mc ms : Nat} {Z : State → Prop} {bc bs : Nat} {σ : kh} {pc : Nat} {L : List (Option Value)} {st : List Value} {x y : Int32} (hd : decode μ.2.1 pc = .ok (.idiv, 1)) (hne : ¬ y = 0) (k : K Λ X μ mc ms Z bc bs σ (pc + 1) L (.int (x / y) :: st)) : K Λ X μ mc ms Z bc bs σ pc L (.int y :: .int x :: st) := by
  obtain ⟨p, e, R, s, m, args, below, meth, c⟩ := X
  intro F H locs k1 n1 ls h1 h2 h3 h4 h5 h6
  exact lv_idiv F.1 F.2.1 hd hne (k F H locs k1 n1 ls h1 h2 h3 h4 h5 h6)
theorem K.irem {Λ : kL} {X : kX} {μ : kMi} {mc ms : Nat} {Z : State → Prop} {bc bs : Nat} {σ : kh} {pc : Nat} {L : List (Option Value)} {st : List Value} {x y : Int32} (hd : decode μ.2.1 pc = .ok (.irem, 1)) (hne : ¬ y = 0) (k : K Λ X μ mc ms Z bc bs σ (pc + 1) L (.int (x - x / y * y) :: st)) : K Λ X μ mc ms Z bc bs σ pc L (.int y :: .int x :: st) := by
  obtain ⟨p, e, R, s, m, args, below, meth, c⟩ := X
  intro F H locs k1 n1 ls h1 h2 h3 h4 h5 h6
  exact lv_irem F.1 F.2.1 hd hne (k F H locs k1 n1 ls h1 h2 h3 h4 h5 h6)
theorem K.ladd {Λ : kL} {X : kX} {μ : kMi} {mc ms : Nat} {Z : State → Prop} {bc bs : Nat} {σ : kh} {pc : Nat} {L : List (Option Value)} {st : List Value} {x y : Int64} (hd : decode μ.2.1 pc = .ok (.ladd, 1))  (k : K Λ X μ mc ms Z bc bs σ (pc + 1) L (.long (x + y) :: st)) : K Λ X μ mc ms Z bc bs σ pc L (.long y :: .long x :: st) := by
  obtain ⟨p, e, R, s, m, args, below, meth, c⟩ := X
  intro F H locs k1 n1 ls h1 h2 h3 h4 h5 h6
  exact lv_ladd F.1 F.2.1 hd (k F H locs k1 n1 ls h1 h2 h3 h4 h5 h6)
theorem K.land {Λ : kL} {X : kX} {μ : kMi} {mc ms : Nat} {Z : State → Prop} {bc bs : Nat} {σ : kh} {pc : Nat} {L : List (Option Value)} {st : List Value} {x y : Int64} (hd : decode μ.2.1 pc = .ok (.land, 1))  (k : K Λ X μ mc ms Z bc bs σ (pc + 1) L (.long (x &&& y) :: st)) : K Λ X μ mc ms Z bc bs σ pc L (.long y :: .long x :: st) := by
  obtain ⟨p, e, R, s, m, args, below, meth, c⟩ := X
  intro F H locs k1 n1 ls h1 h2 h3 h4 h5 h6
  exact lv_land F.1 F.2.1 hd (k F H locs k1 n1 ls h1 h2 h3 h4 h5 h6)
theorem K.lor {Λ : kL} {X : kX} {μ : kMi} {mc ms : Nat} {Z : State → Prop} {bc bs : Nat} {σ : kh} {pc : Nat} {L : List (Option Value)} {st : List Value} {x y : Int64} (hd : decode μ.2.1 pc = .ok (.lor, 1))  (k : K Λ X μ mc ms Z bc bs σ (pc + 1) L (.long (x ||| y) :: st)) : K Λ X μ mc ms Z bc bs σ pc L (.long y :: .long x :: st) := by
  obtain ⟨p, e, R, s, m, args, below, meth, c⟩ := X
  intro F H locs k1 n1 ls h1 h2 h3 h4 h5 h6
  exact lv_lor F.1 F.2.1 hd (k F H locs k1 n1 ls h1 h2 h3 h4 h5 h6)
theorem K.lshl {Λ : kL} {X : kX} {μ : kMi} {mc ms : Nat} {Z : State → Prop} {bc bs : Nat} {σ : kh} {pc : Nat} {L : List (Option Value)} {st : List Value} {x v : Int64} {y : Int32} (hd : decode μ.2.1 pc = .ok (.lshl, 1)) (hv : x <<< (y.toInt64 &&& 63) = v) (k : K Λ X μ mc ms Z bc bs σ (pc + 1) L (.long v :: st)) : K Λ X μ mc ms Z bc bs σ pc L (.int y :: .long x :: st) := by
  obtain ⟨p, e, R, s, m, args, below, meth, c⟩ := X
  intro F H locs k1 n1 ls h1 h2 h3 h4 h5 h6
  exact lv_lshl F.1 F.2.1 hd hv (k F H locs k1 n1 ls h1 h2 h3 h4 h5 h6)
theorem K.lushr {Λ : kL} {X : kX} {μ : kMi} {mc ms : Nat} {Z : State → Prop} {bc bs : Nat} {σ : kh} {pc : Nat} {L : List (Option Value)} {st : List Value} {x v : Int64} {y : Int32} (hd : decode μ.2.1 pc = .ok (.lushr, 1)) (hv : (x.toUInt64 >>> (y.toInt64.toUInt64 &&& Int64.toUInt64 63)).toInt64 = v) (k : K Λ X μ mc ms Z bc bs σ (pc + 1) L (.long v :: st)) : K Λ X μ mc ms Z bc bs σ pc L (.int y :: .long x :: st) := by
  obtain ⟨p, e, R, s, m, args, below, meth, c⟩ := X
  intro F H locs k1 n1 ls h1 h2 h3 h4 h5 h6
  exact lv_lushr F.1 F.2.1 hd hv (k F H locs k1 n1 ls h1 h2 h3 h4 h5 h6)
theorem K.i2l {Λ : kL} {X : kX} {μ : kMi} {mc ms : Nat} {Z : State → Prop} {bc bs : Nat} {σ : kh} {pc : Nat} {L : List (Option Value)} {st : List Value} {x : Int32} (hd : decode μ.2.1 pc = .ok (.i2l, 1))  (k : K Λ X μ mc ms Z bc bs σ (pc + 1) L (.long x.toInt64 :: st)) : K Λ X μ mc ms Z bc bs σ pc L (.int x :: st) := by
  obtain ⟨p, e, R, s, m, args, below, meth, c⟩ := X
  intro F H locs k1 n1 ls h1 h2 h3 h4 h5 h6
  exact lv_i2l F.1 F.2.1 hd rfl (k F H locs k1 n1 ls h1 h2 h3 h4 h5 h6)
theorem K.l2i {Λ : kL} {X : kX} {μ : kMi} {mc ms : Nat} {Z : State → Prop} {bc bs : Nat} {σ : kh} {pc : Nat} {L : List (Option Value)} {st : List Value} {x : Int64} (hd : decode μ.2.1 pc = .ok (.l2i, 1))  (k : K Λ X μ mc ms Z bc bs σ (pc + 1) L (.int x.toInt32 :: st)) : K Λ X μ mc ms Z bc bs σ pc L (.long x :: st) := by
  obtain ⟨p, e, R, s, m, args, below, meth, c⟩ := X
  intro F H locs k1 n1 ls h1 h2 h3 h4 h5 h6
  exact lv_l2i F.1 F.2.1 hd rfl (k F H locs k1 n1 ls h1 h2 h3 h4 h5 h6)
theorem K.i2b {Λ : kL} {X : kX} {μ : kMi} {mc ms : Nat} {Z : State → Prop} {bc bs : Nat} {σ : kh} {pc : Nat} {L : List (Option Value)} {st : List Value} {x : Int32} (hd : decode μ.2.1 pc = .ok (.i2b, 1))  (k : K Λ X μ mc ms Z bc bs σ (pc + 1) L (.int x.toInt8.toInt32 :: st)) : K Λ X μ mc ms Z bc bs σ pc L (.int x :: st) := by
  obtain ⟨p, e, R, s, m, args, below, meth, c⟩ := X
  intro F H locs k1 n1 ls h1 h2 h3 h4 h5 h6
  exact lv_i2b F.1 F.2.1 hd rfl (k F H locs k1 n1 ls h1 h2 h3 h4 h5 h6)
theorem K.i2c {Λ : kL} {X : kX} {μ : kMi} {mc ms : Nat} {Z : State → Prop} {bc bs : Nat} {σ : kh} {pc : Nat} {L : List (Option Value)} {st : List Value} {x : Int32} (hd : decode μ.2.1 pc = .ok (.i2c, 1))  (k : K Λ X μ mc ms Z bc bs σ (pc + 1) L (.int (x.toUInt32 % 65536).toInt32 :: st)) : K Λ X μ mc ms Z bc bs σ pc L (.int x :: st) := by
  obtain ⟨p, e, R, s, m, args, below, meth, c⟩ := X
  intro F H locs k1 n1 ls h1 h2 h3 h4 h5 h6
  exact lv_i2c F.1 F.2.1 hd rfl (k F H locs k1 n1 ls h1 h2 h3 h4 h5 h6)
theorem K.dup {Λ : kL} {X : kX} {μ : kMi} {mc ms : Nat} {Z : State → Prop} {bc bs : Nat} {σ : kh} {pc : Nat} {L : List (Option Value)} {st : List Value} {v : Value} (hd : decode μ.2.1 pc = .ok (.dup, 1)) (hv : v.category = 1) (k : K Λ X μ mc ms Z bc bs σ (pc + 1) L (v :: v :: st)) : K Λ X μ mc ms Z bc bs σ pc L (v :: st) := by
  obtain ⟨p, e, R, s, m, args, below, meth, c⟩ := X
  intro F H locs k1 n1 ls h1 h2 h3 h4 h5 h6
  exact lv_dup F.1 F.2.1 hd hv (k F H locs k1 n1 ls h1 h2 h3 h4 h5 h6)
theorem K.pop {Λ : kL} {X : kX} {μ : kMi} {mc ms : Nat} {Z : State → Prop} {bc bs : Nat} {σ : kh} {pc : Nat} {L : List (Option Value)} {st : List Value} {v : Value} (hd : decode μ.2.1 pc = .ok (.pop, 1)) (hv : v.category = 1) (k : K Λ X μ mc ms Z bc bs σ (pc + 1) L st) : K Λ X μ mc ms Z bc bs σ pc L (v :: st) := by
  obtain ⟨p, e, R, s, m, args, below, meth, c⟩ := X
  intro F H locs k1 n1 ls h1 h2 h3 h4 h5 h6
  exact lv_pop F.1 F.2.1 hd hv (k F H locs k1 n1 ls h1 h2 h3 h4 h5 h6)
theorem K.dup_x1 {Λ : kL} {X : kX} {μ : kMi} {mc ms : Nat} {Z : State → Prop} {bc bs : Nat} {σ : kh} {pc : Nat} {L : List (Option Value)} {st : List Value} {v w : Value} (hd : decode μ.2.1 pc = .ok (.dup_x1, 1)) (hv : v.category = 1) (hw : w.category = 1) (k : K Λ X μ mc ms Z bc bs σ (pc + 1) L (v :: w :: v :: st)) : K Λ X μ mc ms Z bc bs σ pc L (v :: w :: st) := by
  obtain ⟨p, e, R, s, m, args, below, meth, c⟩ := X
  intro F H locs k1 n1 ls h1 h2 h3 h4 h5 h6
  exact lv_dup_x1 F.1 F.2.1 hd hv hw (k F H locs k1 n1 ls h1 h2 h3 h4 h5 h6)
theorem K.dup2 {Λ : kL} {X : kX} {μ : kMi} {mc ms : Nat} {Z : State → Prop} {bc bs : Nat} {σ : kh} {pc : Nat} {L : List (Option Value)} {st : List Value} {v w : Value} (hd : decode μ.2.1 pc = .ok (.dup2, 1)) (hv : v.category = 1) (hw : w.category = 1) (k : K Λ X μ mc ms Z bc bs σ (pc + 1) L (v :: w :: v :: w :: st)) : K Λ X μ mc ms Z bc bs σ pc L (v :: w :: st) := by
  obtain ⟨p, e, R, s, m, args, below, meth, c⟩ := X
  intro F H locs k1 n1 ls h1 h2 h3 h4 h5 h6
  exact lv_dup2_11 F.1 F.2.1 hd hv hw (k F H locs k1 n1 ls h1 h2 h3 h4 h5 h6)
theorem K.goto {Λ : kL} {X : kX} {μ : kMi} {mc ms : Nat} {Z : State → Prop} {bc bs : Nat} {σ : kh} {pc : Nat} {L : List (Option Value)} {st : List Value} {off : Int} {tgt : Nat} (hd : decode μ.2.1 pc = .ok (.goto off, 3)) (ht : (pc : Int) + off = (tgt : Int)) (k : K Λ X μ mc ms Z bc bs σ tgt L st) : K Λ X μ mc ms Z bc bs σ pc L st := by
  obtain ⟨p, e, R, s, m, args, below, meth, c⟩ := X
  intro F H locs k1 n1 ls h1 h2 h3 h4 h5 h6
  exact lv_goto F.1 F.2.1 hd ht (k F H locs k1 n1 ls h1 h2 h3 h4 h5 h6)
theorem K.if_eq {Λ : kL} {X : kX} {μ : kMi} {mc ms : Nat} {Z : State → Prop} {bc bs : Nat} {σ : kh} {pc : Nat} {L : List (Option Value)} {st : List Value} {x : Int32} {off : Int} {tgt : Nat} (hd : decode μ.2.1 pc = .ok (.ifCond .eq off, 3)) (ht : (pc : Int) + off = (tgt : Int)) (kt : x = 0 → K Λ X μ mc ms Z bc bs σ tgt L st) (kf : ¬ (x = 0) → K Λ X μ mc ms Z bc bs σ (pc + 3) L st) : K Λ X μ mc ms Z bc bs σ pc L (.int x :: st) := by
  obtain ⟨p, e, R, s, m, args, below, meth, c⟩ := X
  intro F H locs k1 n1 ls h1 h2 h3 h4 h5 h6
  exact lv_if_eq F.1 F.2.1 hd ht (fun h9 => kt h9 F H locs k1 n1 ls h1 h2 h3 h4 h5 h6) (fun h9 => kf h9 F H locs k1 n1 ls h1 h2 h3 h4 h5 h6)
theorem K.if_ne {Λ : kL} {X : kX} {μ : kMi} {mc ms : Nat} {Z : State → Prop} {bc bs : Nat} {σ : kh} {pc : Nat} {L : List (Option Value)} {st : List Value} {x : Int32} {off : Int} {tgt : Nat} (hd : decode μ.2.1 pc = .ok (.ifCond .ne off, 3)) (ht : (pc : Int) + off = (tgt : Int)) (kt : ¬ x = 0 → K Λ X μ mc ms Z bc bs σ tgt L st) (kf : x = 0 → K Λ X μ mc ms Z bc bs σ (pc + 3) L st) : K Λ X μ mc ms Z bc bs σ pc L (.int x :: st) := by
  obtain ⟨p, e, R, s, m, args, below, meth, c⟩ := X
  intro F H locs k1 n1 ls h1 h2 h3 h4 h5 h6
  exact lv_if_ne F.1 F.2.1 hd ht (fun h9 => kt h9 F H locs k1 n1 ls h1 h2 h3 h4 h5 h6) (fun h9 => kf h9 F H locs k1 n1 ls h1 h2 h3 h4 h5 h6)
theorem K.if_lt {Λ : kL} {X : kX} {μ : kMi} {mc ms : Nat} {Z : State → Prop} {bc bs : Nat} {σ : kh} {pc : Nat} {L : List (Option Value)} {st : List Value} {x : Int32} {off : Int} {tgt : Nat} (hd : decode μ.2.1 pc = .ok (.ifCond .lt off, 3)) (ht : (pc : Int) + off = (tgt : Int)) (kt : x < 0 → K Λ X μ mc ms Z bc bs σ tgt L st) (kf : ¬ (x < 0) → K Λ X μ mc ms Z bc bs σ (pc + 3) L st) : K Λ X μ mc ms Z bc bs σ pc L (.int x :: st) := by
  obtain ⟨p, e, R, s, m, args, below, meth, c⟩ := X
  intro F H locs k1 n1 ls h1 h2 h3 h4 h5 h6
  exact lv_if_lt F.1 F.2.1 hd ht (fun h9 => kt h9 F H locs k1 n1 ls h1 h2 h3 h4 h5 h6) (fun h9 => kf h9 F H locs k1 n1 ls h1 h2 h3 h4 h5 h6)
theorem K.if_ge {Λ : kL} {X : kX} {μ : kMi} {mc ms : Nat} {Z : State → Prop} {bc bs : Nat} {σ : kh} {pc : Nat} {L : List (Option Value)} {st : List Value} {x : Int32} {off : Int} {tgt : Nat} (hd : decode μ.2.1 pc = .ok (.ifCond .ge off, 3)) (ht : (pc : Int) + off = (tgt : Int)) (kt : 0 ≤ x → K Λ X μ mc ms Z bc bs σ tgt L st) (kf : ¬ (0 ≤ x) → K Λ X μ mc ms Z bc bs σ (pc + 3) L st) : K Λ X μ mc ms Z bc bs σ pc L (.int x :: st) := by
  obtain ⟨p, e, R, s, m, args, below, meth, c⟩ := X
  intro F H locs k1 n1 ls h1 h2 h3 h4 h5 h6
  exact lv_if_ge F.1 F.2.1 hd ht (fun h9 => kt h9 F H locs k1 n1 ls h1 h2 h3 h4 h5 h6) (fun h9 => kf h9 F H locs k1 n1 ls h1 h2 h3 h4 h5 h6)
theorem K.if_gt {Λ : kL} {X : kX} {μ : kMi} {mc ms : Nat} {Z : State → Prop} {bc bs : Nat} {σ : kh} {pc : Nat} {L : List (Option Value)} {st : List Value} {x : Int32} {off : Int} {tgt : Nat} (hd : decode μ.2.1 pc = .ok (.ifCond .gt off, 3)) (ht : (pc : Int) + off = (tgt : Int)) (kt : 0 < x → K Λ X μ mc ms Z bc bs σ tgt L st) (kf : ¬ (0 < x) → K Λ X μ mc ms Z bc bs σ (pc + 3) L st) : K Λ X μ mc ms Z bc bs σ pc L (.int x :: st) := by
  obtain ⟨p, e, R, s, m, args, below, meth, c⟩ := X
  intro F H locs k1 n1 ls h1 h2 h3 h4 h5 h6
  exact lv_if_gt F.1 F.2.1 hd ht (fun h9 => kt h9 F H locs k1 n1 ls h1 h2 h3 h4 h5 h6) (fun h9 => kf h9 F H locs k1 n1 ls h1 h2 h3 h4 h5 h6)
theorem K.if_le {Λ : kL} {X : kX} {μ : kMi} {mc ms : Nat} {Z : State → Prop} {bc bs : Nat} {σ : kh} {pc : Nat} {L : List (Option Value)} {st : List Value} {x : Int32} {off : Int} {tgt : Nat} (hd : decode μ.2.1 pc = .ok (.ifCond .le off, 3)) (ht : (pc : Int) + off = (tgt : Int)) (kt : x ≤ 0 → K Λ X μ mc ms Z bc bs σ tgt L st) (kf : ¬ (x ≤ 0) → K Λ X μ mc ms Z bc bs σ (pc + 3) L st) : K Λ X μ mc ms Z bc bs σ pc L (.int x :: st) := by
  obtain ⟨p, e, R, s, m, args, below, meth, c⟩ := X
  intro F H locs k1 n1 ls h1 h2 h3 h4 h5 h6
  exact lv_if_le F.1 F.2.1 hd ht (fun h9 => kt h9 F H locs k1 n1 ls h1 h2 h3 h4 h5 h6) (fun h9 => kf h9 F H locs k1 n1 ls h1 h2 h3 h4 h5 h6)
theorem K.icmp_eq {Λ : kL} {X : kX} {μ : kMi} {mc ms : Nat} {Z : State → Prop} {bc bs : Nat} {σ : kh} {pc : Nat} {L : List (Option Value)} {st : List Value} {x y : Int32} {off : Int} {tgt : Nat} (hd : decode μ.2.1 pc = .ok (.if_icmp .eq off, 3)) (ht : (pc : Int) + off = (tgt : Int)) (kt : x = y → K Λ X μ mc ms Z bc bs σ tgt L st) (kf : ¬ (x = y) → K Λ X μ mc ms Z bc bs σ (pc + 3) L st) : K Λ X μ mc ms Z bc bs σ pc L (.int y :: .int x :: st) := by
  obtain ⟨p, e, R, s, m, args, below, meth, c⟩ := X
  intro F H locs k1 n1 ls h1 h2 h3 h4 h5 h6
  exact lv_icmp_eq F.1 F.2.1 hd ht (fun h9 => kt h9 F H locs k1 n1 ls h1 h2 h3 h4 h5 h6) (fun h9 => kf h9 F H locs k1 n1 ls h1 h2 h3 h4 h5 h6)
theorem K.icmp_ne {Λ : kL} {X : kX} {μ : kMi} {mc ms : Nat} {Z : State → Prop} {bc bs : Nat} {σ : kh} {pc : Nat} {L : List (Option Value)} {st : List Value} {x y : Int32} {off : Int} {tgt : Nat} (hd : decode μ.2.1 pc = .ok (.if_icmp .ne off, 3)) (ht : (pc : Int) + off = (tgt : Int)) (kt : ¬ x = y → K Λ X μ mc ms Z bc bs σ tgt L st) (kf : x = y → K Λ X μ mc ms Z bc bs σ (pc + 3) L st) : K Λ X μ mc ms Z bc bs σ pc L (.int y :: .int x :: st) := by
  obtain ⟨p, e, R, s, m, args, below, meth, c⟩ := X
  intro F H locs k1 n1 ls h1 h2 h3 h4 h5 h6
  exact lv_icmp_ne F.1 F.2.1 hd ht (fun h9 => kt h9 F H locs k1 n1 ls h1 h2 h3 h4 h5 h6) (fun h9 => kf h9 F H locs k1 n1 ls h1 h2 h3 h4 h5 h6)
theorem K.icmp_lt {Λ : kL} {X : kX} {μ : kMi} {mc ms : Nat} {Z : State → Prop} {bc bs : Nat} {σ : kh} {pc : Nat} {L : List (Option Value)} {st : List Value} {x y : Int32} {off : Int} {tgt : Nat} (hd : decode μ.2.1 pc = .ok (.if_icmp .lt off, 3)) (ht : (pc : Int) + off = (tgt : Int)) (kt : x < y → K Λ X μ mc ms Z bc bs σ tgt L st) (kf : ¬ (x < y) → K Λ X μ mc ms Z bc bs σ (pc + 3) L st) : K Λ X μ mc ms Z bc bs σ pc L (.int y :: .int x :: st) := by
  obtain ⟨p, e, R, s, m, args, below, meth, c⟩ := X
  intro F H locs k1 n1 ls h1 h2 h3 h4 h5 h6
  exact lv_icmp_lt F.1 F.2.1 hd ht (fun h9 => kt h9 F H locs k1 n1 ls h1 h2 h3 h4 h5 h6) (fun h9 => kf h9 F H locs k1 n1 ls h1 h2 h3 h4 h5 h6)
theorem K.icmp_ge {Λ : kL} {X : kX} {μ : kMi} {mc ms : Nat} {Z : State → Prop} {bc bs : Nat} {σ : kh} {pc : Nat} {L : List (Option Value)} {st : List Value} {x y : Int32} {off : Int} {tgt : Nat} (hd : decode μ.2.1 pc = .ok (.if_icmp .ge off, 3)) (ht : (pc : Int) + off = (tgt : Int)) (kt : y ≤ x → K Λ X μ mc ms Z bc bs σ tgt L st) (kf : ¬ (y ≤ x) → K Λ X μ mc ms Z bc bs σ (pc + 3) L st) : K Λ X μ mc ms Z bc bs σ pc L (.int y :: .int x :: st) := by
  obtain ⟨p, e, R, s, m, args, below, meth, c⟩ := X
  intro F H locs k1 n1 ls h1 h2 h3 h4 h5 h6
  exact lv_icmp_ge F.1 F.2.1 hd ht (fun h9 => kt h9 F H locs k1 n1 ls h1 h2 h3 h4 h5 h6) (fun h9 => kf h9 F H locs k1 n1 ls h1 h2 h3 h4 h5 h6)
theorem K.icmp_gt {Λ : kL} {X : kX} {μ : kMi} {mc ms : Nat} {Z : State → Prop} {bc bs : Nat} {σ : kh} {pc : Nat} {L : List (Option Value)} {st : List Value} {x y : Int32} {off : Int} {tgt : Nat} (hd : decode μ.2.1 pc = .ok (.if_icmp .gt off, 3)) (ht : (pc : Int) + off = (tgt : Int)) (kt : y < x → K Λ X μ mc ms Z bc bs σ tgt L st) (kf : ¬ (y < x) → K Λ X μ mc ms Z bc bs σ (pc + 3) L st) : K Λ X μ mc ms Z bc bs σ pc L (.int y :: .int x :: st) := by
  obtain ⟨p, e, R, s, m, args, below, meth, c⟩ := X
  intro F H locs k1 n1 ls h1 h2 h3 h4 h5 h6
  exact lv_icmp_gt F.1 F.2.1 hd ht (fun h9 => kt h9 F H locs k1 n1 ls h1 h2 h3 h4 h5 h6) (fun h9 => kf h9 F H locs k1 n1 ls h1 h2 h3 h4 h5 h6)
theorem K.icmp_le {Λ : kL} {X : kX} {μ : kMi} {mc ms : Nat} {Z : State → Prop} {bc bs : Nat} {σ : kh} {pc : Nat} {L : List (Option Value)} {st : List Value} {x y : Int32} {off : Int} {tgt : Nat} (hd : decode μ.2.1 pc = .ok (.if_icmp .le off, 3)) (ht : (pc : Int) + off = (tgt : Int)) (kt : x ≤ y → K Λ X μ mc ms Z bc bs σ tgt L st) (kf : ¬ (x ≤ y) → K Λ X μ mc ms Z bc bs σ (pc + 3) L st) : K Λ X μ mc ms Z bc bs σ pc L (.int y :: .int x :: st) := by
  obtain ⟨p, e, R, s, m, args, below, meth, c⟩ := X
  intro F H locs k1 n1 ls h1 h2 h3 h4 h5 h6
  exact lv_icmp_le F.1 F.2.1 hd ht (fun h9 => kt h9 F H locs k1 n1 ls h1 h2 h3 h4 h5 h6) (fun h9 => kf h9 F H locs k1 n1 ls h1 h2 h3 h4 h5 h6)
theorem K.ifnullR {Λ : kL} {X : kX} {μ : kMi} {mc ms : Nat} {Z : State → Prop} {bc bs : Nat} {σ : kh} {pc : Nat} {L : List (Option Value)} {st : List Value} {x : Nat} {off : Int} (hd : decode μ.2.1 pc = .ok (.ifnull off, 3)) (k : K Λ X μ mc ms Z bc bs σ (pc + 3) L st) : K Λ X μ mc ms Z bc bs σ pc L (.ref x :: st) := by
  obtain ⟨p, e, R, s, m, args, below, meth, c⟩ := X
  intro F H locs k1 n1 ls h1 h2 h3 h4 h5 h6
  exact lv_ifnull F.1 F.2.1 hd (k F H locs k1 n1 ls h1 h2 h3 h4 h5 h6)
theorem K.ifnullN {Λ : kL} {X : kX} {μ : kMi} {mc ms : Nat} {Z : State → Prop} {bc bs : Nat} {σ : kh} {pc : Nat} {L : List (Option Value)} {st : List Value} {off : Int} {tgt : Nat} (hd : decode μ.2.1 pc = .ok (.ifnull off, 3)) (ht : (pc : Int) + off = (tgt : Int)) (k : K Λ X μ mc ms Z bc bs σ tgt L st) : K Λ X μ mc ms Z bc bs σ pc L (.null :: st) := by
  obtain ⟨p, e, R, s, m, args, below, meth, c⟩ := X
  intro F H locs k1 n1 ls h1 h2 h3 h4 h5 h6
  exact lv_ifnullN F.1 F.2.1 hd ht (k F H locs k1 n1 ls h1 h2 h3 h4 h5 h6)
theorem K.ifnonnullR {Λ : kL} {X : kX} {μ : kMi} {mc ms : Nat} {Z : State → Prop} {bc bs : Nat} {σ : kh} {pc : Nat} {L : List (Option Value)} {st : List Value} {x : Nat} {off : Int} {tgt : Nat} (hd : decode μ.2.1 pc = .ok (.ifnonnull off, 3)) (ht : (pc : Int) + off = (tgt : Int)) (k : K Λ X μ mc ms Z bc bs σ tgt L st) : K Λ X μ mc ms Z bc bs σ pc L (.ref x :: st) := by
  obtain ⟨p, e, R, s, m, args, below, meth, c⟩ := X
  intro F H locs k1 n1 ls h1 h2 h3 h4 h5 h6
  exact lv_ifnonnull F.1 F.2.1 hd ht (k F H locs k1 n1 ls h1 h2 h3 h4 h5 h6)
theorem K.ifnonnullN {Λ : kL} {X : kX} {μ : kMi} {mc ms : Nat} {Z : State → Prop} {bc bs : Nat} {σ : kh} {pc : Nat} {L : List (Option Value)} {st : List Value} {off : Int} (hd : decode μ.2.1 pc = .ok (.ifnonnull off, 3)) (k : K Λ X μ mc ms Z bc bs σ (pc + 3) L st) : K Λ X μ mc ms Z bc bs σ pc L (.null :: st) := by
  obtain ⟨p, e, R, s, m, args, below, meth, c⟩ := X
  intro F H locs k1 n1 ls h1 h2 h3 h4 h5 h6
  exact lv_ifnonnullN F.1 F.2.1 hd (k F H locs k1 n1 ls h1 h2 h3 h4 h5 h6)
theorem K.tableOut {Λ : kL} {X : kX} {μ : kMi} {mc ms : Nat} {Z : State → Prop} {bc bs : Nat} {σ : kh} {pc : Nat} {L : List (Option Value)} {st : List Value} {dflt lo hi : Int} {offs : Array Int} {len : Nat} {x : Int32} {tgt : Nat} (hd : decode μ.2.1 pc = .ok (.tableswitch dflt lo hi offs, len)) (h : x.toInt < lo ∨ hi < x.toInt) (ht : (pc : Int) + dflt = (tgt : Int)) (k : K Λ X μ mc ms Z bc bs σ tgt L st) : K Λ X μ mc ms Z bc bs σ pc L (.int x :: st) := by
  obtain ⟨p, e, R, s, m, args, below, meth, c⟩ := X
  intro F H locs k1 n1 ls h1 h2 h3 h4 h5 h6
  exact lv_tableOut F.1 F.2.1 hd h ht (k F H locs k1 n1 ls h1 h2 h3 h4 h5 h6)
theorem K.tableIn {Λ : kL} {X : kX} {μ : kMi} {mc ms : Nat} {Z : State → Prop} {bc bs : Nat} {σ : kh} {pc : Nat} {L : List (Option Value)} {st : List Value} {dflt lo hi : Int} {offs : Array Int} {len : Nat} {x : Int32} {off : Int} {tgt : Nat} (hd : decode μ.2.1 pc = .ok (.tableswitch dflt lo hi offs, len)) (g1 : ¬ x.toInt < lo) (g2 : ¬ hi < x.toInt) (ho : offs[(x.toInt - lo).toNat]? = some off) (ht : (pc : Int) + off = (tgt : Int)) (k : K Λ X μ mc ms Z bc bs σ tgt L st) : K Λ X μ mc ms Z bc bs σ pc L (.int x :: st) := by
  obtain ⟨p, e, R, s, m, args, below, meth, c⟩ := X
  intro F H locs k1 n1 ls h1 h2 h3 h4 h5 h6
  exact lv_tableIn F.1 F.2.1 hd g1 g2 ho ht (k F H locs k1 n1 ls h1 h2 h3 h4 h5 h6)
theorem K.ldc {Λ : kL} {X : kX} {μ : kMi} {mc ms : Nat} {Z : State → Prop} {bc bs : Nat} {σ : kh} {pc : Nat} {L : List (Option Value)} {st : List Value} {ix : Nat} {v : Int32} (hd : decode μ.2.1 pc = .ok (.ldc ix, 2)) (hw : Cond.constant μ.1.cls ix v ∈ lw_tbl) (k : K Λ X μ mc ms Z bc bs σ (pc + 2) L (.int v :: st)) : K Λ X μ mc ms Z bc bs σ pc L st := by
  obtain ⟨p, e, R, s, m, args, below, meth, c⟩ := X
  intro F H locs k1 n1 ls h1 h2 h3 h4 h5 h6
  exact lv_ldc F.1 F.2.1 F.2.2.2.1 (F.2.2.2.2.2.2.2.2.1.w hw rfl F.2.2.2.2.2.2.2.2.2) hd (k F H locs k1 n1 ls h1 h2 h3 h4 h5 h6)
theorem K.ldc2 {Λ : kL} {X : kX} {μ : kMi} {mc ms : Nat} {Z : State → Prop} {bc bs : Nat} {σ : kh} {pc : Nat} {L : List (Option Value)} {st : List Value} {ix : Nat} {v : Int64} (hd : decode μ.2.1 pc = .ok (.ldc2_w ix, 3)) (hw : Cond.constantLong μ.1.cls ix v ∈ lw_tbl) (k : K Λ X μ mc ms Z bc bs σ (pc + 3) L (.long v :: st)) : K Λ X μ mc ms Z bc bs σ pc L st := by
  obtain ⟨p, e, R, s, m, args, below, meth, c⟩ := X
  intro F H locs k1 n1 ls h1 h2 h3 h4 h5 h6
  exact lv_ldc2 F.1 F.2.1 F.2.2.2.1 (F.2.2.2.2.2.2.2.2.1.w hw rfl F.2.2.2.2.2.2.2.2.2) hd (k F H locs k1 n1 ls h1 h2 h3 h4 h5 h6)
theorem K.less {Λ : kL} {X : kX} {μ : kMi} {mc ms : Nat} {Z : State → Prop} {bc bs : Nat} {σ : kh} {pc : Nat} {L : List (Option Value)} {st : List Value} {bc' bs' : Nat} (hc : bc' ≤ bc) (hs : bs' ≤ bs) (k : K Λ X μ mc ms Z bc' bs' σ pc L st) : K Λ X μ mc ms Z bc bs σ pc L st := by
  obtain ⟨p, e, R, s, m, args, below, meth, c⟩ := X
  intro F H locs k1 n1 ls h1 h2 h3 h4 h5 h6
  exact k F H locs k1 n1 ls h1 h2 h3 (by omega) (by omega) h6
theorem K.sub {Λ : kL} {X : kX} {μ : kMi} {mc ms : Nat} {Z : State → Prop} {bc bs : Nat} {σ : kh} {pc : Nat} {L : List (Option Value)} {st : List Value} {σ' : kh} (h : ∀ a c, σ' a = some c → σ a = some c) (k : K Λ X μ mc ms Z bc bs σ' pc L st) : K Λ X μ mc ms Z bc bs σ pc L st := by
  obtain ⟨p, e, R, s, m, args, below, meth, c⟩ := X
  intro F H locs k1 n1 ls h1 h2 h3 h4 h5 h6
  exact k F H locs k1 n1 ls h1 h2 (fun a c ha => h3 a c (h a c ha)) h4 h5 h6
