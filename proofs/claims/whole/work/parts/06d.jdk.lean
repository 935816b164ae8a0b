/-! rows for the JDK's lists: references in arrays, copies, Class objects; the whole heap as a list of cells -/
def kws (Λ : kL) (σ : kh) (H : Heap) : va_W := (List.range H.size).filterMap fun a => (σ a).map fun c => (a, kE Λ c)
theorem kws_mem {Λ : kL} {σ : kh} {H : Heap} {q : Nat × va_E} : q ∈ kws Λ σ H ↔ q.1 < H.size ∧ ∃ c, σ q.1 = some c ∧ q.2 = kE Λ c := by
  unfold kws
  constructor
  · intro h
    obtain ⟨a, ha, h⟩ := List.mem_filterMap.mp h
    cases e : σ a with
    | none => rw [e] at h; cases h
    | some c => rw [e] at h; cases h; exact ⟨List.mem_range.mp ha, c, e, rfl⟩
  · rintro ⟨h, c, hc, he⟩
    refine List.mem_filterMap.mpr ⟨q.1, List.mem_range.mpr h, ?_⟩
    rw [hc]
    show some (q.1, kE Λ c) = some q
    rw [← he]
theorem kws_at {Λ : kL} {σ : kh} {H : Heap} (h : kRep Λ σ H) {a : Nat} {c : kc} (ha : σ a = some c) : ∃ k : Nat, (kws Λ σ H)[k]? = some (a, kE Λ c) := List.getElem?_of_mem (kws_mem.mpr ⟨h.lt ha, c, ha, rfl⟩)
theorem kws_P {Λ : kL} {σ : kh} {H : Heap} (h : kRep Λ σ H) : va_P (kD Λ) vwCl (kws Λ σ H) H := by
  intro k q hk
  obtain ⟨-, c, hc, he⟩ := kws_mem.mp (List.mem_of_getElem? hk)
  obtain ⟨a, e⟩ := q
  dsimp only at hc he
  subst he
  exact (h a c hc).2
theorem kws_fst (Λ : kL) (σ : kh) (l : List Nat) : (l.filterMap fun a => (σ a).map fun c => (a, kE Λ c)).map Prod.fst = l.filter fun a => (σ a).isSome := by
  induction l with
  | nil => rfl
  | cons a l ih =>
    cases e : σ a with
    | none => simp [e]; exact ih
    | some c => simp [e]; exact ih
theorem kws_D {Λ : kL} {σ : kh} {H : Heap} (h : kRep Λ σ H) : va_D (fun q => kB Λ ≤ q) (kws Λ σ H) := by
  refine ⟨fun i j p q hi hj e => ?_, fun k q hk => ?_⟩
  · have hn : ((kws Λ σ H).map Prod.fst).Nodup := by
      unfold kws
      rw [kws_fst]
      exact List.nodup_range.filter _
    have hi' : ((kws Λ σ H).map Prod.fst)[i]? = some p.1 := by rw [List.getElem?_map, hi]; rfl
    have hj' : ((kws Λ σ H).map Prod.fst)[j]? = some q.1 := by rw [List.getElem?_map, hj]; rfl
    exact (List.getElem?_inj (List.getElem?_eq_some_iff.mp hi').1 hn).mp (by rw [hi', hj', e])
  · obtain ⟨-, c, hc, -⟩ := kws_mem.mp (List.mem_of_getElem? hk)
    exact (h q.1 c hc).1
theorem kws_set {Λ : kL} {σ : kh} {H H1 : Heap} (h : kRep Λ σ H) {a k : Nat} {c c' : kc} (ha : σ a = some c) (hk : (kws Λ σ H)[k]? = some (a, kE Λ c)) (h1 : va_P (kD Λ) vwCl ((kws Λ σ H).set k (a, kE Λ c')) H1) : kRep Λ (kup σ a c') H1 := by
  intro b d hb
  by_cases e : b = a
  · subst e
    rw [kup_s] at hb
    cases hb
    exact ⟨(h b c ha).1, h1 k _ (by rw [List.getElem?_set_self (List.getElem?_eq_some_iff.mp hk).1])⟩
  · rw [kup_n _ _ e] at hb
    obtain ⟨j, hj⟩ := kws_at h hb
    have hne : k ≠ j := fun q => by
      subst q
      rw [hk] at hj
      exact e (congrArg Prod.fst (Option.some.inj hj)).symm
    exact ⟨(h b d hb).1, h1 j _ (by rw [List.getElem?_set_ne hne]; exact hj)⟩
theorem kOld.S {Λ : kL} {H : Heap} {locs : List Loc} (h : kOld Λ H) (h2 : ∀ z ∈ locs, kB Λ ≤ z.base) : va_S (fun q => kB Λ ≤ q) (kS Λ).heap H locs := ⟨h.1, fun q hq _ => h.2 q hq, h2⟩
theorem kOld.ofS {Λ : kL} {H : Heap} {locs : List Loc} (h : va_S (fun q => kB Λ ≤ q) (kS Λ).heap H locs) : kOld Λ H ∧ ∀ z ∈ locs, kB Λ ≤ z.base := ⟨⟨h.1, fun q hq => h.2.1 q hq (by unfold kB kS at *; omega)⟩, h.2.2⟩
theorem kOK.cast {Λ : kL} (h : kOK Λ) {C D : String} (hw : Cond.castable C D ∈ lw_tbl) {s : State} (hW : (kS Λ).WarmedH s.vm) : va_Nw (.castable C D) s := va_Nw.warmC hW (va_Nw.of rfl (h.1 _ hw))
section JDK
variable {Λ : kL} {X : kX} {μ : kMi} {mc ms : Nat} {Z : State → Prop} {bc bs : Nat} {σ : kh} {pc : Nat} {L : List (Option Value)} {st : List Value}
theorem K.aconst_null (hd : decode μ.2.1 pc = .ok (.aconst_null, 1)) (k : K Λ X μ mc ms Z bc bs σ (pc + 1) L (.null :: st)) : K Λ X μ mc ms Z bc bs σ pc L st := by
  obtain ⟨p, e, R, s, m, args, below, meth, c⟩ := X
  intro F H locs k1 n1 ls h1 h2 h3 h4 h5 h6
  exact lv_null F.1 F.2.1 hd (k F H locs k1 n1 ls h1 h2 h3 h4 h5 h6)
theorem K.acmp_eq {x y : Nat} {off : Int} {tgt : Nat} (hd : decode μ.2.1 pc = .ok (.if_acmp .eq off, 3)) (ht : (pc : Int) + off = (tgt : Int)) (kt : x = y → K Λ X μ mc ms Z bc bs σ tgt L st) (kf : ¬ x = y → K Λ X μ mc ms Z bc bs σ (pc + 3) L st) : K Λ X μ mc ms Z bc bs σ pc L (.ref y :: .ref x :: st) := by
  obtain ⟨p, e, R, s, m, args, below, meth, c⟩ := X
  intro F H locs k1 n1 ls h1 h2 h3 h4 h5 h6
  exact lv_acmp_eq (rx := some x) (ry := some y) F.1 F.2.1 hd ht (fun h => kt (Option.some.inj h) F H locs k1 n1 ls h1 h2 h3 h4 h5 h6) (fun h => kf (fun q => h (by rw [q])) F H locs k1 n1 ls h1 h2 h3 h4 h5 h6)
theorem K.acmp_ne {x y : Nat} {off : Int} {tgt : Nat} (hd : decode μ.2.1 pc = .ok (.if_acmp .ne off, 3)) (ht : (pc : Int) + off = (tgt : Int)) (kt : ¬ x = y → K Λ X μ mc ms Z bc bs σ tgt L st) (kf : x = y → K Λ X μ mc ms Z bc bs σ (pc + 3) L st) : K Λ X μ mc ms Z bc bs σ pc L (.ref y :: .ref x :: st) := by
  obtain ⟨p, e, R, s, m, args, below, meth, c⟩ := X
  intro F H locs k1 n1 ls h1 h2 h3 h4 h5 h6
  exact lv_acmp_ne (rx := some x) (ry := some y) F.1 F.2.1 hd ht (fun h => kt (fun q => h (by rw [q])) F H locs k1 n1 ls h1 h2 h3 h4 h5 h6) (fun h => kf (Option.some.inj h) F H locs k1 n1 ls h1 h2 h3 h4 h5 h6)
theorem K.newO {ix n : Nat} {x : Int32} (hd : decode μ.2.1 pc = .ok (.anewarray ix, 3)) (hw : Cond.classLink μ.1.cls ix "java/lang/Object" ∈ lw_tbl) (hx : x = nI n) (hn : n ≤ 1000000) (k : ∀ q : Nat, kB Λ ≤ q → (∀ a c, σ a = some c → a < q) → K Λ X μ mc ms Z bc bs (kup σ q (aO n (fun _ => none))) (pc + 3) L (.ref q :: st)) : K Λ X μ mc ms Z (bc + 1) (bs + n) σ pc L (.int x :: st) := by
  subst hx
  obtain ⟨p, e, R, s, m, args, below, meth, c⟩ := X
  intro F H locs k1 n1 ls h1 h2 h3 h4 h5 h6
  have hok := F.2.2.2.2.2.2.2.2.1
  have hW := F.2.2.2.2.2.2.2.2.2
  have hR : R = kRm μ mc ms := F.2.2.2.2.2.2.2.1
  have hK := hok.K hW
  have hcl : (nI n).toNatClampNeg = n := nI_clamp (by omega)
  refine W.anew F.1 F.2.1 F.2.2.2.1 (hok.w hw rfl hW) (va_AO.use (va_AO.moved hW.alike (va_AO.of (hok.1 _ ao_O)))) rfl hd rfl (nI_pos (by omega)) (by rw [hcl]; omega) (by rw [hR]; show k1 + 1 ≤ mc; omega) (by rw [hR, hcl]; show n1 + n ≤ ms; omega) fun cA kA comp f1 f2 f3 f4 => ?_
  rw [hcl]
  generalize hH1 : H.push ({ cls := cA, slots := Array.replicate n .null, vm := .none } : Cell) = H1
  have z1 : H1.size = H.size + 1 := by rw [← hH1, Array.size_push]
  have e1 : H1[H.size]? = some (arrV cA n (fun _ => .null)) := by rw [← hH1, Array.getElem?_push_size, ← arrV_new]
  have o1 : ∀ q, q < H.size → H1[q]? = H[q]? := fun q hq => by rw [← hH1, Array.getElem?_push_lt hq, Array.getElem?_eq_getElem hq]
  obtain ⟨kA', comp', g1, g2, g3, g4⟩ := (hK.2 4 _ (kT_at Λ (by decide))).2
  have hcA : cA = kac Λ 4 := Option.some.inj (f1.symm.trans g4)
  subst hcA
  have hq : kB Λ ≤ H.size := h1.1
  exact k H.size hq (fun a c ha => h3.lt ha) F H1 locs (k1 + 1) (n1 + n) ls (h1.up hq (by omega) (fun q _ h => o1 q h)) h2 (h3.up hq e1 (fun q _ h => o1 q h)) (by omega) (by omega) h6
theorem K.aastore {a v ci j n : Nat} {x : Int32} {fs : List Value} {f : Nat → Option Nat} {C : String} {T : u_T} {N : Nat} {ty : Nat → FieldType} (hd : decode μ.2.1 pc = .ok (.aastore, 1)) (h : σ a = some (aO n f)) (hx : x = nI j) (hj : j < n) (hn : n < 2 ^ 31) (hv : σ v = some (.inr (ci, fs))) (hcl : kCls ci C T N ty) (hca : Cond.castable C "java/lang/Object" ∈ lw_tbl) (k : K Λ X μ mc ms Z bc bs (kup σ a (aO n (va_up f j (some v)))) (pc + 1) L st) : K Λ X μ mc ms Z bc bs σ pc L (.ref v :: .int x :: .ref a :: st) := by
  subst hx
  obtain ⟨p, e, R, s, m, args, below, meth, c⟩ := X
  intro F H locs k1 n1 ls h1 h2 h3 h4 h5 h6
  have hok := F.2.2.2.2.2.2.2.2.1
  have hW := F.2.2.2.2.2.2.2.2.2
  obtain ⟨k0, hk0⟩ := kws_at h3 h
  obtain ⟨kv, hkv⟩ := kws_at h3 hv
  refine va_astqO F.1 F.2.1 (hok.K hW) (kws_P h3) (kws_D h3) (h1.S h2) k0 4 kv ci hk0 rfl (hok.cast hca hW) hkv hcl.1 (vp_in_nI hj hn) hd fun H1 locs1 hP1 _ hS1 => ?_
  rw [nI_clamp (by omega)] at hP1
  have hS := kOld.ofS hS1
  exact k F H1 locs1 k1 n1 ls hS.1 hS.2 (kws_set h3 h hk0 hP1) h4 h5 h6
theorem K.aastoreN {a j n : Nat} {x : Int32} {f : Nat → Option Nat} (hd : decode μ.2.1 pc = .ok (.aastore, 1)) (h : σ a = some (aO n f)) (hx : x = nI j) (hj : j < n) (hn : n < 2 ^ 31) (k : K Λ X μ mc ms Z bc bs (kup σ a (aO n (va_up f j none))) (pc + 1) L st) : K Λ X μ mc ms Z bc bs σ pc L (.null :: .int x :: .ref a :: st) := by
  subst hx
  obtain ⟨p, e, R, s, m, args, below, meth, c⟩ := X
  intro F H locs k1 n1 ls h1 h2 h3 h4 h5 h6
  have hok := F.2.2.2.2.2.2.2.2.1
  have hW := F.2.2.2.2.2.2.2.2.2
  obtain ⟨k0, hk0⟩ := kws_at h3 h
  refine va_astqN F.1 F.2.1 (hok.K hW) (kws_P h3) (kws_D h3) (h1.S h2) k0 4 hk0 rfl (vp_in_nI hj hn) hd fun H1 locs1 hP1 _ hS1 => ?_
  rw [nI_clamp (by omega)] at hP1
  have hS := kOld.ofS hS1
  exact k F H1 locs1 k1 n1 ls hS.1 hS.2 (kws_set h3 h hk0 hP1) h4 h5 h6
/-- System.arraycopy of references to objects of one class -/
theorem K.copyq {ix a0 a ci n0 n1' sp dp n : Nat} {f g : Nat → Option Nat} {C : String} {T : u_T} {N : Nat} {ty : Nat → FieldType} (hd : decode μ.2.1 pc = .ok (.invokestatic ix, 3)) (hl : Cond.methodLink μ.1.cls ix arraycopyName ∈ lw_tbl) (h0 : σ a0 = some (aO n0 f)) (h : σ a = some (aO n1' g)) (hs : sp + n ≤ n0) (hdp : dp + n ≤ n1') (hb0 : n0 < 2 ^ 31) (hb1 : n1' < 2 ^ 31) (hcl : kCls ci C T N ty) (hca : Cond.castable C "java/lang/Object" ∈ lw_tbl) (hel : ∀ i, i < n → ∀ y, f (sp + i) = some y → ∃ fs, σ y = some (.inr (ci, fs)))
    (hfr : Nat.ble 1 μ.2.2.2.2.1 = true) (hlo : Nat.ble ((st.map fun v => v.category).sum + 18) μ.2.2.2.2.2 = true) (k : K Λ X μ mc ms Z bc bs (kup σ a (aO n1' (va_cpy f g sp dp n))) (pc + 3) L st) : K Λ X μ mc ms Z bc bs σ pc L (.int (nI n) :: .int (nI dp) :: .ref a :: .int (nI sp) :: .ref a0 :: st) := by
  obtain ⟨p, e, R, s, m, args, below, meth, c⟩ := X
  intro F H locs k1 n1 ls h1 h2 h3 h4 h5 h6
  have hok := F.2.2.2.2.2.2.2.2.1
  have hW := F.2.2.2.2.2.2.2.2.2
  have hR : R = kRm μ mc ms := F.2.2.2.2.2.2.2.1
  obtain ⟨k0, hk0⟩ := kws_at h3 h0
  obtain ⟨kv, hkv⟩ := kws_at h3 h
  have hca' := hok.cast hca hW
  have e1 : (nI sp).toNatClampNeg = sp := nI_clamp (by omega)
  have e2 : (nI dp).toNatClampNeg = dp := nI_clamp (by omega)
  have e3 : (nI n).toNatClampNeg = n := nI_clamp (by omega)
  refine va_copyq F.1 F.2.1 (F.2.2.1.trans h6.1.symm) F.2.2.2.1 (hok.w hl rfl hW) (hok.w ac_nat rfl hW) (hok.w ac_st rfl hW) (hok.w ac_in rfl hW) (hok.K hW) (kws_P h3) (kws_D h3) (h1.S h2) k0 kv 4 4 (C := C) hk0 hkv rfl rfl (nI_pos (by omega)) (nI_pos (by omega)) (nI_pos (by omega)) (by rw [e1, e3]; exact hs) (by rw [e2, e3]; exact hdp) (fun i hi y hy => ?_) (fun comp c0 hcomp hc0 => ?_) (by rw [hR]; exact Nat.le_of_ble_eq_true hfr) ?_ hd fun H1 locs1 hP1 _ hS1 => ?_
  · rw [e3] at hi
    rw [e1] at hy
    obtain ⟨fs, hfs⟩ := hel i hi y hy
    obtain ⟨r, g1, cell, q1, q2, q3, -⟩ := (h3 y _ hfs).2
    have hr : r = (C, T, N) := Option.some.inj (g1.symm.trans hcl.1)
    subst hr
    exact ⟨cell, q1, by rw [q3]; rfl, by rw [q2]; exact ((hok.K hW).1 ci _ hcl.1).2.1⟩
  · obtain ⟨c1, t1, f1, f2, f3⟩ := Cond.castable_spec (va_Nw.use (A := args) rfl hca')
    cases hc0.symm.trans f1
    cases hcomp.symm.trans f2
    exact f3
  · rw [hR]
    have := Nat.le_of_ble_eq_true hlo
    have e9 : nativeFrameWords "java/lang/System" "arraycopy" 5 = 7 := by decide +kernel
    rw [e9]
    exact this
  · rw [e1, e2, e3] at hP1
    have hS := kOld.ofS hS1
    exact k F H1 locs1 k1 n1 ls hS.1 hS.2 (kws_set h3 h hkv hP1) h4 h5 h6
theorem K.mmax {ix : Nat} {x y : Int32} (hd : decode μ.2.1 pc = .ok (.invokestatic ix, 3)) (hl : Cond.methodLink μ.1.cls ix Lib.Math.max.name ∈ lw_tbl) (hfr : Nat.ble 1 μ.2.2.2.2.1 = true) (hlo : Nat.ble ((st.map fun v => v.category).sum + 13) μ.2.2.2.2.2 = true) (k : K Λ X μ mc ms Z bc bs σ (pc + 3) L (.int (if x < y then y else x) :: st)) : K Λ X μ mc ms Z bc bs σ pc L (.int y :: .int x :: st) := by
  obtain ⟨p, e, R, s, m, args, below, meth, c⟩ := X
  intro F H locs k1 n1 ls h1 h2 h3 h4 h5 h6
  have hok := F.2.2.2.2.2.2.2.2.1
  have hW := F.2.2.2.2.2.2.2.2.2
  have hR : R = kRm μ mc ms := F.2.2.2.2.2.2.2.1
  exact va_mmax F.1 F.2.1 (F.2.2.1.trans h6.1.symm) F.2.2.2.1 (hok.w hl rfl hW) (hok.w xm_max_st rfl hW) (hok.w xm_in rfl hW) (hok.w xm_max_co rfl hW) (by rw [hR]; exact Nat.le_of_ble_eq_true hfr) (by rw [hR]; exact Nat.le_of_ble_eq_true hlo) (by rw [hR]; show k1 ≤ mc; omega) (by rw [hR]; show n1 ≤ ms; omega) hd (k F H locs k1 n1 ls h1 h2 h3 h4 h5 h6)
theorem J.mmax {ix : Nat} {x y : Int32} (hd : decode μ.2.1 pc = .ok (.invokestatic ix, 3)) (hl : Cond.methodLink μ.1.cls ix Lib.Math.max.name ∈ lw_tbl) (hfr : Nat.ble 1 μ.2.2.2.2.1 = true) (hlo : Nat.ble ((st.map fun v => v.category).sum + 13) μ.2.2.2.2.2 = true) (k : J Λ X μ mc ms Z bc bs σ (pc + 3) L (.int (if x < y then y else x) :: st)) : J Λ X μ mc ms Z bc bs σ pc L (.int y :: .int x :: st) := fun ρ hρ => K.mmax hd hl hfr hlo (k ρ hρ)
theorem K.mmin {ix : Nat} {x y : Int32} (hd : decode μ.2.1 pc = .ok (.invokestatic ix, 3)) (hl : Cond.methodLink μ.1.cls ix Lib.Math.min.name ∈ lw_tbl) (hfr : Nat.ble 1 μ.2.2.2.2.1 = true) (hlo : Nat.ble ((st.map fun v => v.category).sum + 13) μ.2.2.2.2.2 = true) (k : K Λ X μ mc ms Z bc bs σ (pc + 3) L (.int (if y < x then y else x) :: st)) : K Λ X μ mc ms Z bc bs σ pc L (.int y :: .int x :: st) := by
  obtain ⟨p, e, R, s, m, args, below, meth, c⟩ := X
  intro F H locs k1 n1 ls h1 h2 h3 h4 h5 h6
  have hok := F.2.2.2.2.2.2.2.2.1
  have hW := F.2.2.2.2.2.2.2.2.2
  have hR : R = kRm μ mc ms := F.2.2.2.2.2.2.2.1
  exact va_mmin F.1 F.2.1 (F.2.2.1.trans h6.1.symm) F.2.2.2.1 (hok.w hl rfl hW) (hok.w xm_min_st rfl hW) (hok.w xm_in rfl hW) (hok.w xm_min_co rfl hW) (by rw [hR]; exact Nat.le_of_ble_eq_true hfr) (by rw [hR]; exact Nat.le_of_ble_eq_true hlo) (by rw [hR]; show k1 ≤ mc; omega) (by rw [hR]; show n1 ≤ ms; omega) hd (k F H locs k1 n1 ls h1 h2 h3 h4 h5 h6)
theorem J.mmin {ix : Nat} {x y : Int32} (hd : decode μ.2.1 pc = .ok (.invokestatic ix, 3)) (hl : Cond.methodLink μ.1.cls ix Lib.Math.min.name ∈ lw_tbl) (hfr : Nat.ble 1 μ.2.2.2.2.1 = true) (hlo : Nat.ble ((st.map fun v => v.category).sum + 13) μ.2.2.2.2.2 = true) (k : J Λ X μ mc ms Z bc bs σ (pc + 3) L (.int (if y < x then y else x) :: st)) : J Λ X μ mc ms Z bc bs σ pc L (.int y :: .int x :: st) := fun ρ hρ => K.mmin hd hl hfr hlo (k ρ hρ)
end JDK
theorem kne_ao {σ : kh} {a b : Nat} {x : Nat × vp_A} {y : Nat × List Value} (h : σ a = some (.inl x)) (g : σ b = some (.inr y)) : a ≠ b := fun e => by rw [e, g] at h; cases h
theorem kne_oa {σ : kh} {a b : Nat} {x : Nat × vp_A} {y : Nat × List Value} (g : σ a = some (.inr y)) (h : σ b = some (.inl x)) : a ≠ b := fun e => by rw [e, h] at g; cases g
theorem kne_oo {σ : kh} {a b i j : Nat} {x y : List Value} (h : σ a = some (.inr (i, x))) (g : σ b = some (.inr (j, y))) (n : i ≠ j) : a ≠ b := fun e => by rw [e, g] at h; cases h; exact n rfl
theorem kne_aa {σ : kh} {a b i j : Nat} {x y : vp_A} (h : σ a = some (.inl (i, x))) (g : σ b = some (.inl (j, y))) (n : i ≠ j) : a ≠ b := fun e => by rw [e, g] at h; cases h; exact n rfl
section JDK2
variable {Λ : kL} {X : kX} {μ : kMi} {mc ms : Nat} {Z : State → Prop} {bc bs : Nat} {σ : kh} {pc : Nat} {L : List (Option Value)} {st : List Value}
/-- what the launch's start gives may be used in a walk -/
theorem K.ok (k : kOK Λ → K Λ X μ mc ms Z bc bs σ pc L st) : K Λ X μ mc ms Z bc bs σ pc L st := by
  obtain ⟨p, e, R, s, m, args, below, meth, c⟩ := X
  intro F
  exact k F.2.2.2.2.2.2.2.2.1 F
theorem J.ok (k : kOK Λ → J Λ X μ mc ms Z bc bs σ pc L st) : J Λ X μ mc ms Z bc bs σ pc L st := fun ρ hρ => K.ok fun h => k h ρ hρ
theorem K.getC {ix b n mi : Nat} {f : Nat → Option Nat} (hd : decode μ.2.1 pc = .ok (.invokevirtual ix, 3)) (hl : Cond.methodLink μ.1.cls ix yGC ∈ lw_tbl) (h : σ b = some (aO n f)) (hM : va_Mi "[Ljava/lang/Object;" mi (kS Λ)) (hfr : Nat.ble 1 μ.2.2.2.2.1 = true) (hlo : Nat.ble ((st.map fun v => v.category).sum + 14) μ.2.2.2.2.2 = true) (k : K Λ X μ mc ms Z bc bs σ (pc + 3) L (.ref mi :: st)) : K Λ X μ mc ms Z bc bs σ pc L (.ref b :: st) := by
  obtain ⟨p, e, R, s, m, args, below, meth, c⟩ := X
  intro F H locs k1 n1 ls h1 h2 h3 h4 h5 h6
  have hok := F.2.2.2.2.2.2.2.2.1
  have hW := F.2.2.2.2.2.2.2.2.2
  have hR : R = kRm μ mc ms := F.2.2.2.2.2.2.2.1
  have hK := hok.K hW
  obtain ⟨kA', comp', g1, g2, g3, g4⟩ := (hK.2 4 _ (kT_at Λ (by decide))).2
  have hde : (Cond.declares yGC).before args s = true := va_Nw.use rfl (va_Nw.warmD hW (va_Nw.of rfl (hok.1 _ gc_de)))
  have hcell : H[b]? = some (vp_cell (kac Λ 4) (n, .inr (.inr (.inr (.inr f))))) := (h3 b _ h).2
  refine va_getC F.1 F.2.1 (F.2.2.1.trans h6.1.symm) F.2.2.2.1 (hok.w hl rfl hW) hde (hok.w gc_se rfl hW) (hok.w gc_im rfl hW) (hok.w gc_nat rfl hW) (hM.moved hW.alike) ⟨_, hcell, rfl, ?_⟩ (by rw [hR]; exact Nat.le_of_ble_eq_true hfr) (by rw [hR]; exact Nat.le_of_ble_eq_true hlo) hd (k F H locs k1 n1 ls h1 h2 h3 h4 h5 h6)
  exact g4
theorem K.ldcM {ix mi : Nat} {C : String} (hd : decode μ.2.1 pc = .ok (.ldc ix, 2)) (hl : Cond.classLink μ.1.cls ix C ∈ lw_tbl) (hM : va_Mi C mi (kS Λ)) (k : K Λ X μ mc ms Z bc bs σ (pc + 2) L (.ref mi :: st)) : K Λ X μ mc ms Z bc bs σ pc L st := by
  obtain ⟨p, e, R, s, m, args, below, meth, c⟩ := X
  intro F H locs k1 n1 ls h1 h2 h3 h4 h5 h6
  have hok := F.2.2.2.2.2.2.2.2.1
  have hW := F.2.2.2.2.2.2.2.2.2
  exact va_ldcM F.1 F.2.1 F.2.2.2.1 (hok.w hl rfl hW) (hM.moved hW.alike) hd (k F H locs k1 n1 ls h1 h2 h3 h4 h5 h6)
end JDK2
/-- what is known of ArrayList's shared empty array, and of Object[]'s Class object -/
def kJd (Λ : kL) : Prop := va_Z "java/util/ArrayList" "DEFAULTCAPACITY_EMPTY_ELEMENTDATA" "[Ljava/lang/Object;" (.ref (kEmp Λ)) (kA Λ) (kS Λ) (kS Λ).heap ∧ va_T (.object "java/lang/Object") (kEmp Λ) 0 (fun _ => .null) (kA Λ) (kS Λ) (kS Λ).heap ∧ ∃ mi : Nat, va_Mi "[Ljava/lang/Object;" mi (kS Λ)
