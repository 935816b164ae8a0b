/-! arrays, calls, ends -/
/-- array cells: of bytes, ints, booleans, longs, references -/
abbrev aB (n : Nat) (f : Nat → Int32) : kc := .inl (0, n, .inl f)
abbrev aI (n : Nat) (f : Nat → Int32) : kc := .inl (1, n, .inl f)
abbrev aZ (n : Nat) (f : Nat → Int32) : kc := .inl (2, n, .inl f)
abbrev aL (n : Nat) (f : Nat → Int64) : kc := .inl (3, n, .inr (.inl f))
abbrev aO (n : Nat) (f : Nat → Option Nat) : kc := .inl (4, n, .inr (.inr (.inr (.inr f))))
theorem K.baload {Λ : kL} {X : kX} {μ : kMi} {mc ms : Nat} {Z : State → Prop} {bc bs : Nat} {σ : kh} {pc : Nat} {L : List (Option Value)} {st : List Value} {a j n : Nat} {f : Nat → Int32} {x : Int32} (hd : decode μ.2.1 pc = .ok (.baload, 1)) (h : σ a = some (aB n f)) (hx : x = nI j) (hj : j < n) (hn : n < 2 ^ 31) (k : K Λ X μ mc ms Z bc bs σ (pc + 1) L (.int (f j) :: st)) : K Λ X μ mc ms Z bc bs σ pc L (.int x :: .ref a :: st) := by
  subst hx
  obtain ⟨p, e, R, s, m, args, below, meth, c⟩ := X
  intro F H locs k1 n1 ls h1 h2 h3 h4 h5 h6
  have hok := F.2.2.2.2.2.2.2.2.1
  have hW := F.2.2.2.2.2.2.2.2.2
  have hin : vp_in (nI j) n := vp_in_nI hj hn
  refine va_bald F.1 F.2.1 (hok.K hW) (k1P (h3 a _ h).2) 0 0 rfl rfl hin hd ?_
  rw [nI_clamp (by omega)]
  exact k F H locs k1 n1 ls h1 h2 h3 h4 h5 h6
theorem K.iaload {Λ : kL} {X : kX} {μ : kMi} {mc ms : Nat} {Z : State → Prop} {bc bs : Nat} {σ : kh} {pc : Nat} {L : List (Option Value)} {st : List Value} {a j n : Nat} {f : Nat → Int32} {x : Int32} (hd : decode μ.2.1 pc = .ok (.iaload, 1)) (h : σ a = some (aI n f)) (hx : x = nI j) (hj : j < n) (hn : n < 2 ^ 31) (k : K Λ X μ mc ms Z bc bs σ (pc + 1) L (.int (f j) :: st)) : K Λ X μ mc ms Z bc bs σ pc L (.int x :: .ref a :: st) := by
  subst hx
  obtain ⟨p, e, R, s, m, args, below, meth, c⟩ := X
  intro F H locs k1 n1 ls h1 h2 h3 h4 h5 h6
  have hok := F.2.2.2.2.2.2.2.2.1
  have hW := F.2.2.2.2.2.2.2.2.2
  have hin : vp_in (nI j) n := vp_in_nI hj hn
  refine va_iald F.1 F.2.1 (hok.K hW) (k1P (h3 a _ h).2) 0 1 rfl rfl hin hd ?_
  rw [nI_clamp (by omega)]
  exact k F H locs k1 n1 ls h1 h2 h3 h4 h5 h6
theorem K.zaload {Λ : kL} {X : kX} {μ : kMi} {mc ms : Nat} {Z : State → Prop} {bc bs : Nat} {σ : kh} {pc : Nat} {L : List (Option Value)} {st : List Value} {a j n : Nat} {f : Nat → Int32} {x : Int32} (hd : decode μ.2.1 pc = .ok (.baload, 1)) (h : σ a = some (aZ n f)) (hx : x = nI j) (hj : j < n) (hn : n < 2 ^ 31) (k : K Λ X μ mc ms Z bc bs σ (pc + 1) L (.int (f j) :: st)) : K Λ X μ mc ms Z bc bs σ pc L (.int x :: .ref a :: st) := by
  subst hx
  obtain ⟨p, e, R, s, m, args, below, meth, c⟩ := X
  intro F H locs k1 n1 ls h1 h2 h3 h4 h5 h6
  have hok := F.2.2.2.2.2.2.2.2.1
  have hW := F.2.2.2.2.2.2.2.2.2
  have hin : vp_in (nI j) n := vp_in_nI hj hn
  refine va_zald F.1 F.2.1 (hok.K hW) (k1P (h3 a _ h).2) 0 2 rfl rfl hin hd ?_
  rw [nI_clamp (by omega)]
  exact k F H locs k1 n1 ls h1 h2 h3 h4 h5 h6
theorem K.laload {Λ : kL} {X : kX} {μ : kMi} {mc ms : Nat} {Z : State → Prop} {bc bs : Nat} {σ : kh} {pc : Nat} {L : List (Option Value)} {st : List Value} {a j n : Nat} {f : Nat → Int64} {x : Int32} (hd : decode μ.2.1 pc = .ok (.laload, 1)) (h : σ a = some (aL n f)) (hx : x = nI j) (hj : j < n) (hn : n < 2 ^ 31) (k : K Λ X μ mc ms Z bc bs σ (pc + 1) L (.long (f j) :: st)) : K Λ X μ mc ms Z bc bs σ pc L (.int x :: .ref a :: st) := by
  subst hx
  obtain ⟨p, e, R, s, m, args, below, meth, c⟩ := X
  intro F H locs k1 n1 ls h1 h2 h3 h4 h5 h6
  have hok := F.2.2.2.2.2.2.2.2.1
  have hW := F.2.2.2.2.2.2.2.2.2
  have hin : vp_in (nI j) n := vp_in_nI hj hn
  refine va_lald F.1 F.2.1 (hok.K hW) (k1P (h3 a _ h).2) 0 3 rfl rfl hin hd ?_
  rw [nI_clamp (by omega)]
  exact k F H locs k1 n1 ls h1 h2 h3 h4 h5 h6
theorem K.aaload {Λ : kL} {X : kX} {μ : kMi} {mc ms : Nat} {Z : State → Prop} {bc bs : Nat} {σ : kh} {pc : Nat} {L : List (Option Value)} {st : List Value} {a j n : Nat} {f : Nat → Option Nat} {x : Int32} (hd : decode μ.2.1 pc = .ok (.aaload, 1)) (h : σ a = some (aO n f)) (hx : x = nI j) (hj : j < n) (hn : n < 2 ^ 31) (k : K Λ X μ mc ms Z bc bs σ (pc + 1) L (va_rf (f j) :: st)) : K Λ X μ mc ms Z bc bs σ pc L (.int x :: .ref a :: st) := by
  subst hx
  obtain ⟨p, e, R, s, m, args, below, meth, c⟩ := X
  intro F H locs k1 n1 ls h1 h2 h3 h4 h5 h6
  have hok := F.2.2.2.2.2.2.2.2.1
  have hW := F.2.2.2.2.2.2.2.2.2
  have hin : vp_in (nI j) n := vp_in_nI hj hn
  refine va_aldq F.1 F.2.1 (hok.K hW) (k1P (h3 a _ h).2) 0 4 rfl rfl hin hd ?_
  rw [nI_clamp (by omega)]
  exact k F H locs k1 n1 ls h1 h2 h3 h4 h5 h6
theorem K.bastore {Λ : kL} {X : kX} {μ : kMi} {mc ms : Nat} {Z : State → Prop} {bc bs : Nat} {σ : kh} {pc : Nat} {L : List (Option Value)} {st : List Value} {a j n : Nat} {f : Nat → Int32} {i : Int32} {x : Int32} (hd : decode μ.2.1 pc = .ok (.bastore, 1)) (h : σ a = some (aB n f)) (hx : i = nI j) (hj : j < n) (hn : n < 2 ^ 31) (k : K Λ X μ mc ms Z bc bs (kup σ a (aB n (upd f j (vp_nar .byte x)))) (pc + 1) L st) : K Λ X μ mc ms Z bc bs σ pc L (.int x :: .int i :: .ref a :: st) := by
  subst hx
  obtain ⟨p, e, R, s, m, args, below, meth, c⟩ := X
  intro F H locs k1 n1 ls h1 h2 h3 h4 h5 h6
  have hok := F.2.2.2.2.2.2.2.2.1
  have hW := F.2.2.2.2.2.2.2.2.2
  have hin : vp_in (nI j) n := vp_in_nI hj hn
  have hcl : (nI j).toNatClampNeg = j := nI_clamp (by omega)
  have hK := hok.K hW
  have hat : H[a]? = some (vp_cell (kac Λ 0) (n, .inl f)) := (h3 a _ h).2
  refine W.bast F.1 F.2.1 hat ((hK.2 0 _ (kT_at Λ (by decide))).1 n (fun j => .int (f j))) (fun q => by cases q) (by show ¬ (nI j < 0 ∨ (arrV _ _ _).slots.size ≤ _); rw [arrV_size]; exact hin) rfl rfl hd fun H1 e1 z oq => ?_
  refine k F H1 _ k1 n1 ls (h1.up (h3 a _ h).1 (Nat.le_of_eq z.symm) (fun q hq _ => oq q hq)) (fun z hz => ?_) (h3.up (h3 a _ h).1 ?_ (fun q hq _ => oq q hq)) h4 h5 h6
  · rcases List.mem_append.mp hz with hz | hz
    · exact h2 z hz
    · rcases List.mem_singleton.mp hz with rfl
      exact (h3 a _ h).1
  · show H1[a]? = some (vp_cell _ _)
    rw [e1, hcl, vp_cell_i, vp_cell_i, arrV_store]
    congr 2
    funext q
    by_cases hq : q = j
    · subst hq
      simp [updV, upd, vp_nar]
      try rfl
    · simp [updV, upd, vp_nar, hq]
theorem K.iastore {Λ : kL} {X : kX} {μ : kMi} {mc ms : Nat} {Z : State → Prop} {bc bs : Nat} {σ : kh} {pc : Nat} {L : List (Option Value)} {st : List Value} {a j n : Nat} {f : Nat → Int32} {i : Int32} {x : Int32} (hd : decode μ.2.1 pc = .ok (.iastore, 1)) (h : σ a = some (aI n f)) (hx : i = nI j) (hj : j < n) (hn : n < 2 ^ 31) (k : K Λ X μ mc ms Z bc bs (kup σ a (aI n (upd f j x))) (pc + 1) L st) : K Λ X μ mc ms Z bc bs σ pc L (.int x :: .int i :: .ref a :: st) := by
  subst hx
  obtain ⟨p, e, R, s, m, args, below, meth, c⟩ := X
  intro F H locs k1 n1 ls h1 h2 h3 h4 h5 h6
  have hok := F.2.2.2.2.2.2.2.2.1
  have hW := F.2.2.2.2.2.2.2.2.2
  have hin : vp_in (nI j) n := vp_in_nI hj hn
  have hcl : (nI j).toNatClampNeg = j := nI_clamp (by omega)
  have hK := hok.K hW
  have hat : H[a]? = some (vp_cell (kac Λ 1) (n, .inl f)) := (h3 a _ h).2
  refine W.iast F.1 F.2.1 hat ((hK.2 1 _ (kT_at Λ (by decide))).1 n (fun j => .int (f j))) (fun q => by cases q) (by show ¬ (nI j < 0 ∨ (arrV _ _ _).slots.size ≤ _); rw [arrV_size]; exact hin) rfl rfl hd fun H1 e1 z oq => ?_
  refine k F H1 _ k1 n1 ls (h1.up (h3 a _ h).1 (Nat.le_of_eq z.symm) (fun q hq _ => oq q hq)) (fun z hz => ?_) (h3.up (h3 a _ h).1 ?_ (fun q hq _ => oq q hq)) h4 h5 h6
  · rcases List.mem_append.mp hz with hz | hz
    · exact h2 z hz
    · rcases List.mem_singleton.mp hz with rfl
      exact (h3 a _ h).1
  · show H1[a]? = some (vp_cell _ _)
    rw [e1, hcl, vp_cell_i, vp_cell_i, arrV_store]
    congr 2
    funext q
    by_cases hq : q = j
    · subst hq
      simp [updV, upd]
      try rfl
    · simp [updV, upd, hq]
theorem K.zastore {Λ : kL} {X : kX} {μ : kMi} {mc ms : Nat} {Z : State → Prop} {bc bs : Nat} {σ : kh} {pc : Nat} {L : List (Option Value)} {st : List Value} {a j n : Nat} {f : Nat → Int32} {i : Int32} {x : Int32} (hd : decode μ.2.1 pc = .ok (.bastore, 1)) (h : σ a = some (aZ n f)) (hx : i = nI j) (hj : j < n) (hn : n < 2 ^ 31) (k : K Λ X μ mc ms Z bc bs (kup σ a (aZ n (upd f j (vp_nar .boolean x)))) (pc + 1) L st) : K Λ X μ mc ms Z bc bs σ pc L (.int x :: .int i :: .ref a :: st) := by
  subst hx
  obtain ⟨p, e, R, s, m, args, below, meth, c⟩ := X
  intro F H locs k1 n1 ls h1 h2 h3 h4 h5 h6
  have hok := F.2.2.2.2.2.2.2.2.1
  have hW := F.2.2.2.2.2.2.2.2.2
  have hin : vp_in (nI j) n := vp_in_nI hj hn
  have hcl : (nI j).toNatClampNeg = j := nI_clamp (by omega)
  have hK := hok.K hW
  have hat : H[a]? = some (vp_cell (kac Λ 2) (n, .inl f)) := (h3 a _ h).2
  refine W.zast F.1 F.2.1 hat ((hK.2 2 _ (kT_at Λ (by decide))).1 n (fun j => .int (f j))) (fun q => by cases q) (by show ¬ (nI j < 0 ∨ (arrV _ _ _).slots.size ≤ _); rw [arrV_size]; exact hin) rfl rfl hd fun H1 e1 z oq => ?_
  refine k F H1 _ k1 n1 ls (h1.up (h3 a _ h).1 (Nat.le_of_eq z.symm) (fun q hq _ => oq q hq)) (fun z hz => ?_) (h3.up (h3 a _ h).1 ?_ (fun q hq _ => oq q hq)) h4 h5 h6
  · rcases List.mem_append.mp hz with hz | hz
    · exact h2 z hz
    · rcases List.mem_singleton.mp hz with rfl
      exact (h3 a _ h).1
  · show H1[a]? = some (vp_cell _ _)
    rw [e1, hcl, vp_cell_i, vp_cell_i, arrV_store]
    congr 2
    funext q
    by_cases hq : q = j
    · subst hq
      simp [updV, upd, vp_nar]
      try rfl
    · simp [updV, upd, vp_nar, hq]
theorem K.lastore {Λ : kL} {X : kX} {μ : kMi} {mc ms : Nat} {Z : State → Prop} {bc bs : Nat} {σ : kh} {pc : Nat} {L : List (Option Value)} {st : List Value} {a j n : Nat} {f : Nat → Int64} {i : Int32} {x : Int64} (hd : decode μ.2.1 pc = .ok (.lastore, 1)) (h : σ a = some (aL n f)) (hx : i = nI j) (hj : j < n) (hn : n < 2 ^ 31) (k : K Λ X μ mc ms Z bc bs (kup σ a (aL n (vp_updL f j x))) (pc + 1) L st) : K Λ X μ mc ms Z bc bs σ pc L (.long x :: .int i :: .ref a :: st) := by
  subst hx
  obtain ⟨p, e, R, s, m, args, below, meth, c⟩ := X
  intro F H locs k1 n1 ls h1 h2 h3 h4 h5 h6
  have hok := F.2.2.2.2.2.2.2.2.1
  have hW := F.2.2.2.2.2.2.2.2.2
  have hin : vp_in (nI j) n := vp_in_nI hj hn
  have hcl : (nI j).toNatClampNeg = j := nI_clamp (by omega)
  have hK := hok.K hW
  have hat : H[a]? = some (vp_cell (kac Λ 3) (n, .inr (.inl f))) := (h3 a _ h).2
  refine W.last F.1 F.2.1 hat ((hK.2 3 _ (kT_at Λ (by decide))).1 n (fun j => .long (f j))) (fun q => by cases q) (by show ¬ (nI j < 0 ∨ (arrV _ _ _).slots.size ≤ _); rw [arrV_size]; exact hin) rfl rfl hd fun H1 e1 z oq => ?_
  refine k F H1 _ k1 n1 ls (h1.up (h3 a _ h).1 (Nat.le_of_eq z.symm) (fun q hq _ => oq q hq)) (fun z hz => ?_) (h3.up (h3 a _ h).1 ?_ (fun q hq _ => oq q hq)) h4 h5 h6
  · rcases List.mem_append.mp hz with hz | hz
    · exact h2 z hz
    · rcases List.mem_singleton.mp hz with rfl
      exact (h3 a _ h).1
  · show H1[a]? = some (vp_cell _ _)
    rw [e1, hcl, vp_cell_l, vp_cell_l, arrV_store]
    congr 2
    funext q
    by_cases hq : q = j
    · subst hq
      simp [updV, vp_updL]
      try rfl
    · simp [updV, vp_updL, hq]
theorem K.alen {Λ : kL} {X : kX} {μ : kMi} {mc ms : Nat} {Z : State → Prop} {bc bs : Nat} {σ : kh} {pc : Nat} {L : List (Option Value)} {st : List Value} {a t : Nat} {x : vp_A} {v : Int32} (hd : decode μ.2.1 pc = .ok (.arraylength, 1)) (h : σ a = some (.inl (t, x))) (ht : t < 5) (hv : nI x.1 = v) (k : K Λ X μ mc ms Z bc bs σ (pc + 1) L (.int v :: st)) : K Λ X μ mc ms Z bc bs σ pc L (.ref a :: st) := by
  obtain ⟨p, e, R, s, m, args, below, meth, c⟩ := X
  intro F H locs k1 n1 ls h1 h2 h3 h4 h5 h6
  have hok := F.2.2.2.2.2.2.2.2.1
  have hW := F.2.2.2.2.2.2.2.2.2
  exact va_alen F.1 F.2.1 (hok.K hW) (k1P (h3 a _ h).2) 0 t rfl (kT_at Λ ht) hv hd (k F H locs k1 n1 ls h1 h2 h3 h4 h5 h6)
theorem K.newB {Λ : kL} {X : kX} {μ : kMi} {mc ms : Nat} {Z : State → Prop} {bc bs : Nat} {σ : kh} {pc : Nat} {L : List (Option Value)} {st : List Value} {x : Int32} {n : Nat} (hd : decode μ.2.1 pc = .ok (.newarray .byte, 2)) (hw : Cond.arrayClass (kty 0) ∈ lw_tbl) (hx : x = nI n) (hn : n ≤ 1000000) (k : ∀ q : Nat, kB Λ ≤ q → (∀ a c, σ a = some c → a < q) → K Λ X μ mc ms Z bc bs (kup σ q (aB n (fun _ => 0))) (pc + 2) L (.ref q :: st)) : K Λ X μ mc ms Z (bc + 1) (bs + n) σ pc L (.int x :: st) := by
  subst hx
  obtain ⟨p, e, R, s, m, args, below, meth, c⟩ := X
  intro F H locs k1 n1 ls h1 h2 h3 h4 h5 h6
  have hok := F.2.2.2.2.2.2.2.2.1
  have hW := F.2.2.2.2.2.2.2.2.2
  have hR : R = kRm μ mc ms := F.2.2.2.2.2.2.2.1
  have hK := hok.K hW
  refine va_newaK F.1 F.2.1 (atype := .byte) (hok.w hw rfl hW) rfl hd rfl (nI_pos (by omega)) (nI_clamp (by omega)) (by simp [newarray.typeOf, componentBytes]; try omega) (by rw [hR]; show k1 + 1 ≤ mc; omega) (by rw [hR]; show n1 + n ≤ ms; omega) rfl fun H1 cA e1 z1 o1 hAr hNm => ?_
  have hcA : cA = kac Λ 0 := Option.some.inj (hNm.symm.trans (hK.2 0 _ (kT_at Λ (by decide))).2)
  subst hcA
  have hq : kB Λ ≤ H.size := h1.1
  exact k H.size hq (fun a c ha => h3.lt ha) F H1 locs (k1 + 1) (n1 + n) ls (h1.up hq (by omega) (fun q _ h => o1 q h)) h2 (h3.up hq e1 (fun q _ h => o1 q h)) (by omega) (by omega) h6
theorem K.newI {Λ : kL} {X : kX} {μ : kMi} {mc ms : Nat} {Z : State → Prop} {bc bs : Nat} {σ : kh} {pc : Nat} {L : List (Option Value)} {st : List Value} {x : Int32} {n : Nat} (hd : decode μ.2.1 pc = .ok (.newarray .int, 2)) (hw : Cond.arrayClass (kty 1) ∈ lw_tbl) (hx : x = nI n) (hn : n ≤ 1000000) (k : ∀ q : Nat, kB Λ ≤ q → (∀ a c, σ a = some c → a < q) → K Λ X μ mc ms Z bc bs (kup σ q (aI n (fun _ => 0))) (pc + 2) L (.ref q :: st)) : K Λ X μ mc ms Z (bc + 1) (bs + n) σ pc L (.int x :: st) := by
  subst hx
  obtain ⟨p, e, R, s, m, args, below, meth, c⟩ := X
  intro F H locs k1 n1 ls h1 h2 h3 h4 h5 h6
  have hok := F.2.2.2.2.2.2.2.2.1
  have hW := F.2.2.2.2.2.2.2.2.2
  have hR : R = kRm μ mc ms := F.2.2.2.2.2.2.2.1
  have hK := hok.K hW
  refine va_newaK F.1 F.2.1 (atype := .int) (hok.w hw rfl hW) rfl hd rfl (nI_pos (by omega)) (nI_clamp (by omega)) (by simp [newarray.typeOf, componentBytes]; try omega) (by rw [hR]; show k1 + 1 ≤ mc; omega) (by rw [hR]; show n1 + n ≤ ms; omega) rfl fun H1 cA e1 z1 o1 hAr hNm => ?_
  have hcA : cA = kac Λ 1 := Option.some.inj (hNm.symm.trans (hK.2 1 _ (kT_at Λ (by decide))).2)
  subst hcA
  have hq : kB Λ ≤ H.size := h1.1
  exact k H.size hq (fun a c ha => h3.lt ha) F H1 locs (k1 + 1) (n1 + n) ls (h1.up hq (by omega) (fun q _ h => o1 q h)) h2 (h3.up hq e1 (fun q _ h => o1 q h)) (by omega) (by omega) h6
theorem K.newZ {Λ : kL} {X : kX} {μ : kMi} {mc ms : Nat} {Z : State → Prop} {bc bs : Nat} {σ : kh} {pc : Nat} {L : List (Option Value)} {st : List Value} {x : Int32} {n : Nat} (hd : decode μ.2.1 pc = .ok (.newarray .boolean, 2)) (hw : Cond.arrayClass (kty 2) ∈ lw_tbl) (hx : x = nI n) (hn : n ≤ 1000000) (k : ∀ q : Nat, kB Λ ≤ q → (∀ a c, σ a = some c → a < q) → K Λ X μ mc ms Z bc bs (kup σ q (aZ n (fun _ => 0))) (pc + 2) L (.ref q :: st)) : K Λ X μ mc ms Z (bc + 1) (bs + n) σ pc L (.int x :: st) := by
  subst hx
  obtain ⟨p, e, R, s, m, args, below, meth, c⟩ := X
  intro F H locs k1 n1 ls h1 h2 h3 h4 h5 h6
  have hok := F.2.2.2.2.2.2.2.2.1
  have hW := F.2.2.2.2.2.2.2.2.2
  have hR : R = kRm μ mc ms := F.2.2.2.2.2.2.2.1
  have hK := hok.K hW
  refine va_newaK F.1 F.2.1 (atype := .boolean) (hok.w hw rfl hW) rfl hd rfl (nI_pos (by omega)) (nI_clamp (by omega)) (by simp [newarray.typeOf, componentBytes]; try omega) (by rw [hR]; show k1 + 1 ≤ mc; omega) (by rw [hR]; show n1 + n ≤ ms; omega) rfl fun H1 cA e1 z1 o1 hAr hNm => ?_
  have hcA : cA = kac Λ 2 := Option.some.inj (hNm.symm.trans (hK.2 2 _ (kT_at Λ (by decide))).2)
  subst hcA
  have hq : kB Λ ≤ H.size := h1.1
  exact k H.size hq (fun a c ha => h3.lt ha) F H1 locs (k1 + 1) (n1 + n) ls (h1.up hq (by omega) (fun q _ h => o1 q h)) h2 (h3.up hq e1 (fun q _ h => o1 q h)) (by omega) (by omega) h6
theorem K.newL {Λ : kL} {X : kX} {μ : kMi} {mc ms : Nat} {Z : State → Prop} {bc bs : Nat} {σ : kh} {pc : Nat} {L : List (Option Value)} {st : List Value} {x : Int32} {n : Nat} (hd : decode μ.2.1 pc = .ok (.newarray .long, 2)) (hw : Cond.arrayClass (kty 3) ∈ lw_tbl) (hx : x = nI n) (hn : n ≤ 1000000) (k : ∀ q : Nat, kB Λ ≤ q → (∀ a c, σ a = some c → a < q) → K Λ X μ mc ms Z bc bs (kup σ q (aL n (fun _ => 0))) (pc + 2) L (.ref q :: st)) : K Λ X μ mc ms Z (bc + 1) (bs + n) σ pc L (.int x :: st) := by
  subst hx
  obtain ⟨p, e, R, s, m, args, below, meth, c⟩ := X
  intro F H locs k1 n1 ls h1 h2 h3 h4 h5 h6
  have hok := F.2.2.2.2.2.2.2.2.1
  have hW := F.2.2.2.2.2.2.2.2.2
  have hR : R = kRm μ mc ms := F.2.2.2.2.2.2.2.1
  have hK := hok.K hW
  refine va_newaK F.1 F.2.1 (atype := .long) (hok.w hw rfl hW) rfl hd rfl (nI_pos (by omega)) (nI_clamp (by omega)) (by simp [newarray.typeOf, componentBytes]; try omega) (by rw [hR]; show k1 + 1 ≤ mc; omega) (by rw [hR]; show n1 + n ≤ ms; omega) rfl fun H1 cA e1 z1 o1 hAr hNm => ?_
  have hcA : cA = kac Λ 3 := Option.some.inj (hNm.symm.trans (hK.2 3 _ (kT_at Λ (by decide))).2)
  subst hcA
  have hq : kB Λ ≤ H.size := h1.1
  exact k H.size hq (fun a c ha => h3.lt ha) F H1 locs (k1 + 1) (n1 + n) ls (h1.up hq (by omega) (fun q _ h => o1 q h)) h2 (h3.up hq e1 (fun q _ h => o1 q h)) (by omega) (by omega) h6
/-- a method as a callee: its code is in the tables, its class stands, n parameters -/
def kMd (ν : kMi) (n : Nat) : Prop := Cond.code ν.1 ν.2.1 ν.2.2.1 ν.2.2.2.1 ∈ lw_tbl ∧ Cond.initialized ν.1.cls ∈ lw_tbl ∧ (ν.1.cls ≠ "java/lang/invoke/MethodHandle" ∧ ν.1.cls ≠ "java/lang/invoke/VarHandle") ∧ (parseMethodDescriptor ν.1.desc).map (fun d => d.parameters.length) = some n
/-- entry ix of own's pool is the method y -/
def kLk (own : String) (ix : Nat) (y : MethodName) : Prop := Cond.methodLink own ix y ∈ lw_tbl ∨ ∃ host : String, Cond.methodLinkNest own ix y host ∈ lw_tbl
/-- the callee's frames and locals fit the caller's -/
def kFit (ν μ : kMi) : Bool := Nat.ble (ν.2.2.2.2.1 + 1) μ.2.2.2.2.1 && Nat.ble (8 + (ν.2.2.1 + 11) + ν.2.2.2.2.2) μ.2.2.2.2.2
def kCat (st : List Value) : Bool := Nat.ble (st.map fun v => v.category).sum 8
theorem kFit.ok {ν μ : kMi} {c1 s1 mc ms : Nat} (h : kFit ν μ = true) : (kRm ν c1 s1).frames + 1 ≤ (kRm μ mc ms).frames ∧ 8 + (ν.2.2.1 + 11) + (kRm ν c1 s1).locals ≤ (kRm μ mc ms).locals := by
  simp only [kFit, Bool.and_eq_true, Nat.ble_eq] at h
  exact h
theorem kcont {Λ : kL} {p : Program} {e : Env} {R : Room} {s : State} {m : MethodId} {args : Array Value} {below : List Frame} {meth : Method} {c : Code} {H : Heap} {locs : List Loc} {k1 n1 c1 s1 pc : Nat} {ls : Array Slot} {st0 rest : List Value} {Q : Option Value → kh → Prop} {a : Array Value} {Z : State → Prop}
    (hr : va_Run p Λ.1 e R s m args below meth c H locs k1 n1 c1 s1 (F0 m pc ls st0) rest (kQc Λ Q a) (fun q => kB Λ ≤ q))
    (kk : ∀ (r : Option Value) (σ' : kh) (H' : Heap) (L' : List Loc), Q r σ' → kOld Λ H' → kRep Λ σ' H' → (∀ z ∈ L', kB Λ ≤ z.base) → W p Λ.1 e R s m args below meth c H' (locs ++ L') (k1 + c1) (n1 + s1) Z (F0 m (pc + 3) ls (r.toList ++ rest))) :
    W p Λ.1 e R s m args below meth c H locs k1 n1 Z (F0 m pc ls st0) := by
  intro T hT X
  obtain ⟨v, st9, t, T', L', e0, X', hL, e1, e2, ⟨r, σ', ho, hq, hg⟩, hgo⟩ := hr T hT X
  cases ho
  obtain ⟨t2, a1, b1⟩ := kk v σ' T'.heap L' hq (by rw [e1]; exact hg.2.2.1) (by rw [e1]; exact hg.2.2.2) hL T' rfl X'
  exact ⟨t2, hgo t2 a1, b1⟩
theorem kPc.mk {Λ : kL} {σ : kh} {H : Heap} {s : State} (hok : kOK Λ) (hW : (kS Λ).WarmedH s.vm) (h1 : kOld Λ H) (h3 : kRep Λ σ H) (av : List Value) : ∀ U : State, U.heap = H → s.WarmedH U.vm → kPc Λ av σ av.toArray U :=
  fun _ hU hWU => ⟨rfl, hok, State.WarmedH.trans hW hWU, by rw [hU]; exact h1, by rw [hU]; exact h3⟩
theorem kArgs {av : List Value} : av.toArray = av.toArray := rfl
theorem K.callS {Λ : kL} {X : kX} {μ : kMi} {mc ms : Nat} {Z : State → Prop} {bc bs : Nat} {σ : kh} {pc : Nat} {L : List (Option Value)} {st : List Value} {ν : kMi} {ix n c1 s1 b : Nat} {rest : List Value} {Q : Option Value → kh → Prop} (As : List Value) (hd : decode μ.2.1 pc = .ok (.invokestatic ix, 3)) (hm : kMd ν n) (hs : Cond.static ν.1 ∈ lw_tbl) (hlk : kLk μ.1.cls ix ν.1) (hfr : kFit ν μ = true) (hn : As.length = n) (hst : As.reverse ++ rest = st) (hc : kCat rest = true)
    (hct : kCt Λ ν c1 s1 As σ Q) (kk : ∀ (r : Option Value) (σ' : kh), Q r σ' → K Λ X μ mc ms Z bc bs σ' (pc + 3) L (r.toList ++ rest)) : K Λ X μ mc ms Z (bc + c1) (bs + s1) σ pc L st := by
  subst hst
  obtain ⟨p, e, R, s, m, args, below, meth, c⟩ := X
  intro F H locs k1 n1 ls h1 h2 h3 h4 h5 h6
  have hok := F.2.2.2.2.2.2.2.2.1
  have hW := F.2.2.2.2.2.2.2.2.2
  obtain ⟨hm1, hm2, hm3, hm4⟩ := hm
  have hR : R = kRm μ mc ms := F.2.2.2.2.2.2.2.1
  have hcode : ∀ w ∈ [Cond.code ν.1 ν.2.1 ν.2.2.1 ν.2.2.2.1], ∀ (a' : Array Value) (U : State), s.WarmedH U.vm → w.before a' U = true := by
    intro w hw a' U hU
    rcases List.mem_singleton.mp hw with rfl
    exact word_at hU (good_of_word rfl) (hok.w (args := args) hm1 rfl hW)
  have hdesc : ∀ sig, parseMethodDescriptor ν.1.desc = some sig → As.length = sig.parameters.length := fun sig hs => by
    rw [hs] at hm4
    exact hn.trans (Option.some.inj hm4).symm
  have hfit := kFit.ok (c1 := c1) (s1 := s1) (mc := mc) (ms := ms) hfr
  have hcat : 2 * (F0 m pc ls (As.reverse ++ rest)).monitorRoom + (rest.map fun v => v.category).sum ≤ 8 := by
    simp only [kCat, Nat.ble_eq] at hc
    show 2 * 0 + _ ≤ 8
    omega
  have hS : CallFix p m c μ.2.1 μ.2.2.1 s args [] μ.1.cls := ⟨F.1, F.2.1, F.2.2.1, F.2.2.2.1, fun w h => by cases h⟩
  have hf : k1 + c1 ≤ R.cells ∧ n1 + s1 ≤ R.slots := by rw [hR]; exact ⟨show k1 + c1 ≤ mc by omega, show n1 + s1 ≤ ms by omega⟩
  have hgo : ∀ (r : Option Value) (σ' : kh) (H' : Heap) (L' : List Loc), Q r σ' → kOld Λ H' → kRep Λ σ' H' → (∀ z ∈ L', kB Λ ≤ z.base) → W p Λ.1 e R s m args below meth c H' (locs ++ L') (k1 + c1) (n1 + s1) Z (F0 m (pc + 3) ls (r.toList ++ rest)) := fun r σ' H' L' hq g1 g3 gL =>
    kk r σ' hq F H' (locs ++ L') (k1 + c1) (n1 + s1) ls g1 (fun z hz => (List.mem_append.mp hz).elim (h2 z) (gL z)) g3 (by omega) (by omega) h6
  have hps : PreS s H (kPc Λ As σ) As := ⟨kPc.blind Λ As σ, kPc.mk hok hW h1 h3 As⟩
  rcases hlk with hlk | ⟨host, hlk⟩
  · exact kcont (va_runS hS hct ⟨⟨rfl, rfl, by rw [hR]; exact hfit.1, by rw [hR]; exact hfit.2, hcode, List.mem_singleton.mpr rfl, hok.w hm1 rfl hW, hok.w hm2 rfl hW, hm3, hdesc, hok.w hlk rfl hW⟩, hok.w hs rfl hW⟩ hps rfl rfl h6.1 rfl hcat hd hf) hgo
  · exact kcont (va_runSN hS hct ⟨⟨⟨rfl, rfl, by rw [hR]; exact hfit.1, by rw [hR]; exact hfit.2, hcode, List.mem_singleton.mpr rfl⟩, hok.w hm1 rfl hW, hok.w hm2 rfl hW, hm3, hdesc, hok.nestM hlk hW⟩, hok.w hs rfl hW, trivial⟩ hps rfl rfl h6.1 rfl hcat hd hf) hgo
theorem K.callI {Λ : kL} {X : kX} {μ : kMi} {mc ms : Nat} {Z : State → Prop} {bc bs : Nat} {σ : kh} {pc : Nat} {L : List (Option Value)} {st : List Value} {ν : kMi} {ix n c1 s1 b : Nat} {rest : List Value} {Q : Option Value → kh → Prop} (As : List Value) (hd : decode μ.2.1 pc = .ok (.invokespecial ix, 3)) (hm : kMd ν n) (hs : ν.1.name = "<init>" ∧ ν.2.2.2.1 = none) (hi : Cond.instanceMethod ν.1 ∈ lw_tbl) (hlk : kLk μ.1.cls ix ν.1) (hfr : kFit ν μ = true) (hn : As.length = n) (hst : As.reverse ++ .ref b :: rest = st) (hc : kCat rest = true)
    (hct : kCt Λ ν c1 s1 (.ref b :: As) σ Q) (kk : ∀ (r : Option Value) (σ' : kh), Q r σ' → K Λ X μ mc ms Z bc bs σ' (pc + 3) L (r.toList ++ rest)) : K Λ X μ mc ms Z (bc + c1) (bs + s1) σ pc L st := by
  subst hst
  obtain ⟨p, e, R, s, m, args, below, meth, c⟩ := X
  intro F H locs k1 n1 ls h1 h2 h3 h4 h5 h6
  have hok := F.2.2.2.2.2.2.2.2.1
  have hW := F.2.2.2.2.2.2.2.2.2
  obtain ⟨hm1, hm2, hm3, hm4⟩ := hm
  have hR : R = kRm μ mc ms := F.2.2.2.2.2.2.2.1
  have hcode : ∀ w ∈ [Cond.code ν.1 ν.2.1 ν.2.2.1 ν.2.2.2.1], ∀ (a' : Array Value) (U : State), s.WarmedH U.vm → w.before a' U = true := by
    intro w hw a' U hU
    rcases List.mem_singleton.mp hw with rfl
    exact word_at hU (good_of_word rfl) (hok.w (args := args) hm1 rfl hW)
  have hdesc : ∀ sig, parseMethodDescriptor ν.1.desc = some sig → As.length = sig.parameters.length := fun sig hs => by
    rw [hs] at hm4
    exact hn.trans (Option.some.inj hm4).symm
  have hfit := kFit.ok (c1 := c1) (s1 := s1) (mc := mc) (ms := ms) hfr
  have hcat : 2 * (F0 m pc ls (As.reverse ++ .ref b :: rest)).monitorRoom + (rest.map fun v => v.category).sum ≤ 8 := by
    simp only [kCat, Nat.ble_eq] at hc
    show 2 * 0 + _ ≤ 8
    omega
  have hS : CallFix p m c μ.2.1 μ.2.2.1 s args [] μ.1.cls := ⟨F.1, F.2.1, F.2.2.1, F.2.2.2.1, fun w h => by cases h⟩
  have hf : k1 + c1 ≤ R.cells ∧ n1 + s1 ≤ R.slots := by rw [hR]; exact ⟨show k1 + c1 ≤ mc by omega, show n1 + s1 ≤ ms by omega⟩
  have hgo : ∀ (r : Option Value) (σ' : kh) (H' : Heap) (L' : List Loc), Q r σ' → kOld Λ H' → kRep Λ σ' H' → (∀ z ∈ L', kB Λ ≤ z.base) → W p Λ.1 e R s m args below meth c H' (locs ++ L') (k1 + c1) (n1 + s1) Z (F0 m (pc + 3) ls (r.toList ++ rest)) := fun r σ' H' L' hq g1 g3 gL =>
    kk r σ' hq F H' (locs ++ L') (k1 + c1) (n1 + s1) ls g1 (fun z hz => (List.mem_append.mp hz).elim (h2 z) (gL z)) g3 (by omega) (by omega) h6
  have hps : PreS s H (kPc Λ (.ref b :: As) σ) (.ref b :: As) := ⟨kPc.blind Λ (.ref b :: As) σ, kPc.mk hok hW h1 h3 (.ref b :: As)⟩
  obtain ⟨y, bytes, nl, ret, fr, lo⟩ := ν
  obtain ⟨hs1, hs2⟩ := hs
  dsimp only at hs2
  subst hs2
  rcases hlk with hlk | ⟨host, hlk⟩
  · exact kcont (va_runI hS hct ⟨⟨rfl, rfl, by rw [hR]; exact hfit.1, by rw [hR]; exact hfit.2, hcode, List.mem_singleton.mpr rfl, hok.w hm1 rfl hW, hok.w hm2 rfl hW, hm3, hdesc, hok.w hlk rfl hW⟩, hs1, hok.w hi rfl hW⟩ hps rfl rfl h6.1 rfl hcat hd hf) hgo
  · exact kcont (va_runIN hS hct ⟨⟨⟨rfl, rfl, by rw [hR]; exact hfit.1, by rw [hR]; exact hfit.2, hcode, List.mem_singleton.mpr rfl⟩, hok.w hm1 rfl hW, hok.w hm2 rfl hW, hm3, hdesc, hok.nestM hlk hW⟩, hs1, hok.w hi rfl hW⟩ hps rfl rfl h6.1 rfl hcat hd hf) hgo
theorem K.callV {Λ : kL} {X : kX} {μ : kMi} {mc ms : Nat} {Z : State → Prop} {bc bs : Nat} {σ : kh} {pc : Nat} {L : List (Option Value)} {st : List Value} {ν : kMi} {ix n c1 s1 b : Nat} {rest : List Value} {Q : Option Value → kh → Prop} (As : List Value) (hd : decode μ.2.1 pc = .ok (.invokevirtual ix, 3)) (hm : kMd ν n) {C : String} {T : u_T} {N ci : Nat} {fs : List Value} (hi : Cond.instanceMethod ν.1 ∈ lw_tbl) (hsel : Cond.selects C ν.1 ν.1 ∈ lw_tbl) (hcl : vwCl[ci]? = some (C, T, N)) (hb : σ b = some (.inr (ci, fs))) (hlk : kLk μ.1.cls ix ν.1) (hfr : kFit ν μ = true) (hn : As.length = n) (hst : As.reverse ++ .ref b :: rest = st) (hc : kCat rest = true)
    (hct : kCt Λ ν c1 s1 (.ref b :: As) σ Q) (kk : ∀ (r : Option Value) (σ' : kh), Q r σ' → K Λ X μ mc ms Z bc bs σ' (pc + 3) L (r.toList ++ rest)) : K Λ X μ mc ms Z (bc + c1) (bs + s1) σ pc L st := by
  subst hst
  obtain ⟨p, e, R, s, m, args, below, meth, c⟩ := X
  intro F H locs k1 n1 ls h1 h2 h3 h4 h5 h6
  have hok := F.2.2.2.2.2.2.2.2.1
  have hW := F.2.2.2.2.2.2.2.2.2
  obtain ⟨hm1, hm2, hm3, hm4⟩ := hm
  have hR : R = kRm μ mc ms := F.2.2.2.2.2.2.2.1
  have hcode : ∀ w ∈ [Cond.code ν.1 ν.2.1 ν.2.2.1 ν.2.2.2.1], ∀ (a' : Array Value) (U : State), s.WarmedH U.vm → w.before a' U = true := by
    intro w hw a' U hU
    rcases List.mem_singleton.mp hw with rfl
    exact word_at hU (good_of_word rfl) (hok.w (args := args) hm1 rfl hW)
  have hdesc : ∀ sig, parseMethodDescriptor ν.1.desc = some sig → As.length = sig.parameters.length := fun sig hs => by
    rw [hs] at hm4
    exact hn.trans (Option.some.inj hm4).symm
  have hfit := kFit.ok (c1 := c1) (s1 := s1) (mc := mc) (ms := ms) hfr
  have hcat : 2 * (F0 m pc ls (As.reverse ++ .ref b :: rest)).monitorRoom + (rest.map fun v => v.category).sum ≤ 8 := by
    simp only [kCat, Nat.ble_eq] at hc
    show 2 * 0 + _ ≤ 8
    omega
  have hS : CallFix p m c μ.2.1 μ.2.2.1 s args [] μ.1.cls := ⟨F.1, F.2.1, F.2.2.1, F.2.2.2.1, fun w h => by cases h⟩
  have hf : k1 + c1 ≤ R.cells ∧ n1 + s1 ≤ R.slots := by rw [hR]; exact ⟨show k1 + c1 ≤ mc by omega, show n1 + s1 ≤ ms by omega⟩
  have hgo : ∀ (r : Option Value) (σ' : kh) (H' : Heap) (L' : List Loc), Q r σ' → kOld Λ H' → kRep Λ σ' H' → (∀ z ∈ L', kB Λ ≤ z.base) → W p Λ.1 e R s m args below meth c H' (locs ++ L') (k1 + c1) (n1 + s1) Z (F0 m (pc + 3) ls (r.toList ++ rest)) := fun r σ' H' L' hq g1 g3 gL =>
    kk r σ' hq F H' (locs ++ L') (k1 + c1) (n1 + s1) ls g1 (fun z hz => (List.mem_append.mp hz).elim (h2 z) (gL z)) g3 (by omega) (by omega) h6
  have hrec : ∃ cellB : Cell, H[b]? = some cellB ∧ cellB.vm.isStatics = false ∧ s.vm.findClass C = some cellB.cls := by
    obtain ⟨r, g1, cell, q1, q2, q3, -⟩ := (h3 b _ hb).2
    have hr : r = (C, T, N) := Option.some.inj (g1.symm.trans hcl)
    subst hr
    refine ⟨cell, q1, by rw [q3]; rfl, ?_⟩
    rw [q2]
    exact ((hok.K hW).1 ci _ hcl).2.1
  have hps : PreV s H C b (kPc Λ (.ref b :: As) σ) As := ⟨kPc.blind Λ (.ref b :: As) σ, hrec, kPc.mk hok hW h1 h3 (.ref b :: As)⟩
  rcases hlk with hlk | ⟨host, hlk⟩
  · exact kcont (va_runV hS hct ⟨⟨rfl, rfl, by rw [hR]; exact hfit.1, by rw [hR]; exact hfit.2, hcode, List.mem_singleton.mpr rfl, hok.w hm1 rfl hW, hok.w hm2 rfl hW, hm3, hdesc, hok.w hlk rfl hW⟩, hok.w hi rfl hW, hok.w hsel rfl hW⟩ hps rfl rfl h6.1 rfl hcat hd hf) hgo
  · exact kcont (va_runVN hS hct ⟨⟨⟨rfl, rfl, by rw [hR]; exact hfit.1, by rw [hR]; exact hfit.2, hcode, List.mem_singleton.mpr rfl⟩, hok.w hm1 rfl hW, hok.w hm2 rfl hW, hm3, hdesc, hok.nestM hlk hW⟩, hok.w hi rfl hW, hok.w hsel rfl hW⟩ hps rfl rfl h6.1 rfl hcat hd hf) hgo
theorem K.callS0 {Λ : kL} {X : kX} {μ : kMi} {mc ms : Nat} {Z : State → Prop} {bc bs : Nat} {σ : kh} {pc : Nat} {L : List (Option Value)} {st : List Value} {ν : kMi} {ix n b : Nat} {rest : List Value} {Q : Option Value → kh → Prop} (As : List Value) (hd : decode μ.2.1 pc = .ok (.invokestatic ix, 3)) (hm : kMd ν n) (hs : Cond.static ν.1 ∈ lw_tbl) (hlk : kLk μ.1.cls ix ν.1) (hfr : kFit ν μ = true) (hn : As.length = n) (hst : As.reverse ++ rest = st) (hc : kCat rest = true)
    (hct : kCt Λ ν 0 0 As σ Q) (kk : ∀ (r : Option Value) (σ' : kh), Q r σ' → K Λ X μ mc ms Z bc bs σ' (pc + 3) L (r.toList ++ rest)) : K Λ X μ mc ms Z bc bs σ pc L st := K.callS (b := b) (c1 := 0) (s1 := 0) As hd hm hs hlk hfr hn hst hc hct kk
theorem K.callI0 {Λ : kL} {X : kX} {μ : kMi} {mc ms : Nat} {Z : State → Prop} {bc bs : Nat} {σ : kh} {pc : Nat} {L : List (Option Value)} {st : List Value} {ν : kMi} {ix n b : Nat} {rest : List Value} {Q : Option Value → kh → Prop} (As : List Value) (hd : decode μ.2.1 pc = .ok (.invokespecial ix, 3)) (hm : kMd ν n) (hs : ν.1.name = "<init>" ∧ ν.2.2.2.1 = none) (hi : Cond.instanceMethod ν.1 ∈ lw_tbl) (hlk : kLk μ.1.cls ix ν.1) (hfr : kFit ν μ = true) (hn : As.length = n) (hst : As.reverse ++ .ref b :: rest = st) (hc : kCat rest = true)
    (hct : kCt Λ ν 0 0 (.ref b :: As) σ Q) (kk : ∀ (r : Option Value) (σ' : kh), Q r σ' → K Λ X μ mc ms Z bc bs σ' (pc + 3) L (r.toList ++ rest)) : K Λ X μ mc ms Z bc bs σ pc L st := K.callI (b := b) (c1 := 0) (s1 := 0) As hd hm hs hi hlk hfr hn hst hc hct kk
theorem K.callV0 {Λ : kL} {X : kX} {μ : kMi} {mc ms : Nat} {Z : State → Prop} {bc bs : Nat} {σ : kh} {pc : Nat} {L : List (Option Value)} {st : List Value} {ν : kMi} {ix n b : Nat} {rest : List Value} {Q : Option Value → kh → Prop} (As : List Value) (hd : decode μ.2.1 pc = .ok (.invokevirtual ix, 3)) (hm : kMd ν n) {C : String} {T : u_T} {N ci : Nat} {fs : List Value} (hi : Cond.instanceMethod ν.1 ∈ lw_tbl) (hsel : Cond.selects C ν.1 ν.1 ∈ lw_tbl) (hcl : vwCl[ci]? = some (C, T, N)) (hb : σ b = some (.inr (ci, fs))) (hlk : kLk μ.1.cls ix ν.1) (hfr : kFit ν μ = true) (hn : As.length = n) (hst : As.reverse ++ .ref b :: rest = st) (hc : kCat rest = true)
    (hct : kCt Λ ν 0 0 (.ref b :: As) σ Q) (kk : ∀ (r : Option Value) (σ' : kh), Q r σ' → K Λ X μ mc ms Z bc bs σ' (pc + 3) L (r.toList ++ rest)) : K Λ X μ mc ms Z bc bs σ pc L st := K.callV (b := b) (c1 := 0) (s1 := 0) As hd hm hi hsel hcl hb hlk hfr hn hst hc hct kk
theorem K.objInit {Λ : kL} {X : kX} {μ : kMi} {mc ms : Nat} {Z : State → Prop} {bc bs : Nat} {σ : kh} {pc : Nat} {L : List (Option Value)} {st : List Value} {ix a : Nat} (hd : decode μ.2.1 pc = .ok (.invokespecial ix, 3)) (hl : Cond.methodLink μ.1.cls ix objectInit ∈ lw_tbl) (hi : Cond.instanceMethod objectInit ∈ lw_tbl) (hco : Cond.code objectInit ⟨#[0xb1]⟩ 1 none ∈ lw_tbl) (hfr : Nat.ble 1 μ.2.2.2.2.1 = true) (hlo : Nat.ble ((st.map fun v => v.category).sum + 12) μ.2.2.2.2.2 = true) (k : K Λ X μ mc ms Z bc bs σ (pc + 3) L st) : K Λ X μ mc ms Z bc bs σ pc L (.ref a :: st) := by
  obtain ⟨p, e, R, s, m, args, below, meth, c⟩ := X
  intro F H locs k1 n1 ls h1 h2 h3 h4 h5 h6
  have hok := F.2.2.2.2.2.2.2.2.1
  have hW := F.2.2.2.2.2.2.2.2.2
  have hR : R = kRm μ mc ms := F.2.2.2.2.2.2.2.1
  refine W.objInit F.1 F.2.1 F.2.2.2.1 (hok.w hl rfl hW) (hok.w hi rfl hW) (hok.w hco rfl hW) rfl (h6.1.trans F.2.2.1.symm) rfl hd (by rw [hR]; exact Nat.le_of_ble_eq_true hfr) ?_ (k F H locs k1 n1 ls h1 h2 h3 h4 h5 h6)
  rw [hR]
  have := Nat.le_of_ble_eq_true hlo
  show 2 * 0 + _ + 12 ≤ μ.2.2.2.2.2
  omega
theorem K.iret {Λ : kL} {X : kX} {μ : kMi} {mc ms : Nat} {Q : Option Value → kh → Prop} {bc bs : Nat} {σ : kh} {pc : Nat} {L : List (Option Value)} {x : Int32} (hd : decode μ.2.1 pc = .ok (.ireturn, 1)) (hr : μ.2.2.2.1 = some .int) (hq : Q (some (.int x)) σ) : K Λ X μ mc ms (kZ Λ X Q mc ms) bc bs σ pc L [.int x] := by
  obtain ⟨p, e, R, s, m, args, below, meth, c⟩ := X
  intro F H locs k1 n1 ls h1 h2 h3 h4 h5 h6
  have hok := F.2.2.2.2.2.2.2.2.1
  have hW := F.2.2.2.2.2.2.2.2.2
  refine W.widen (k := mc) (n := ms) (by omega) (by omega) ?_
  exact W.iret F.1 F.2.1 (F.2.2.2.2.1.trans hr) (fun t ht hWt => ⟨_, σ, rfl, hq, hok, State.WarmedH.trans hW hWt, by rw [ht]; exact h1, by rw [ht]; exact h3⟩) h2 hd F.2.2.2.2.2.1
theorem K.zret {Λ : kL} {X : kX} {μ : kMi} {mc ms : Nat} {Q : Option Value → kh → Prop} {bc bs : Nat} {σ : kh} {pc : Nat} {L : List (Option Value)} {x : Int32} {ty : FieldType} (hd : decode μ.2.1 pc = .ok (.ireturn, 1)) (hr : μ.2.2.2.1 = some ty) (hn : narrow ty (.int x) = .int x) (hq : Q (some (.int x)) σ) : K Λ X μ mc ms (kZ Λ X Q mc ms) bc bs σ pc L [.int x] := by
  obtain ⟨p, e, R, s, m, args, below, meth, c⟩ := X
  intro F H locs k1 n1 ls h1 h2 h3 h4 h5 h6
  have hok := F.2.2.2.2.2.2.2.2.1
  have hW := F.2.2.2.2.2.2.2.2.2
  refine W.widen (k := mc) (n := ms) (by omega) (by omega) ?_
  exact W.zret F.1 F.2.1 (F.2.2.2.2.1.trans hr) hn (fun t ht hWt => ⟨_, σ, rfl, hq, hok, State.WarmedH.trans hW hWt, by rw [ht]; exact h1, by rw [ht]; exact h3⟩) h2 hd F.2.2.2.2.2.1
theorem K.vret {Λ : kL} {X : kX} {μ : kMi} {mc ms : Nat} {Q : Option Value → kh → Prop} {bc bs : Nat} {σ : kh} {pc : Nat} {L : List (Option Value)}  (hd : decode μ.2.1 pc = .ok (.return_, 1)) (hr : μ.2.2.2.1 = none) (hq : Q none σ) : K Λ X μ mc ms (kZ Λ X Q mc ms) bc bs σ pc L [] := by
  obtain ⟨p, e, R, s, m, args, below, meth, c⟩ := X
  intro F H locs k1 n1 ls h1 h2 h3 h4 h5 h6
  have hok := F.2.2.2.2.2.2.2.2.1
  have hW := F.2.2.2.2.2.2.2.2.2
  refine W.widen (k := mc) (n := ms) (by omega) (by omega) ?_
  exact W.vret F.1 F.2.1 (F.2.2.2.2.1.trans hr) (fun t ht hWt => ⟨_, σ, rfl, hq, hok, State.WarmedH.trans hW hWt, by rw [ht]; exact h1, by rw [ht]; exact h3⟩) h2 hd F.2.2.2.2.2.1
theorem K.aret {Λ : kL} {X : kX} {μ : kMi} {mc ms : Nat} {Q : Option Value → kh → Prop} {bc bs : Nat} {σ : kh} {pc : Nat} {L : List (Option Value)} {r : Option Nat} {rt : FieldType} (hd : decode μ.2.1 pc = .ok (.areturn, 1)) (hr : μ.2.2.2.1 = some rt) (hrt : (∃ n, rt = .object n) ∨ ∃ t, rt = .array t) (hq : Q (some (va_rf r)) σ) : K Λ X μ mc ms (kZ Λ X Q mc ms) bc bs σ pc L [va_rf r] := by
  obtain ⟨p, e, R, s, m, args, below, meth, c⟩ := X
  intro F H locs k1 n1 ls h1 h2 h3 h4 h5 h6
  have hok := F.2.2.2.2.2.2.2.2.1
  have hW := F.2.2.2.2.2.2.2.2.2
  refine W.widen (k := mc) (n := ms) (by omega) (by omega) ?_
  exact W.aret F.1 F.2.1 (F.2.2.2.2.1.trans hr) hrt (by cases r with | none => exact Or.inl rfl | some x => exact Or.inr ⟨x, rfl⟩) (fun t ht hWt => ⟨_, σ, rfl, hq, hok, State.WarmedH.trans hW hWt, by rw [ht]; exact h1, by rw [ht]; exact h3⟩) h2 hd F.2.2.2.2.2.1
theorem kCt.mono {Λ : kL} {μ : kMi} {mc ms : Nat} {av : List Value} {σ : kh} {Q Q' : Option Value → kh → Prop} (h : kCt Λ μ mc ms av σ Q) (hq : ∀ r σ', Q r σ' → Q' r σ') : kCt Λ μ mc ms av σ Q' := by
  intro p e ha hc hk s m args below hf happ hP hK
  obtain ⟨k, o, h1, h2, h3, ⟨r, σ', ho, hQ, hg⟩, hL⟩ := h p e ha hc hk s m args below hf happ hP hK
  exact ⟨k, o, h1, h2, h3, ⟨r, σ', ho, hq r σ' hQ, hg⟩, hL⟩
