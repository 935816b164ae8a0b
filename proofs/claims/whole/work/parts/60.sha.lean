/-! System.arraycopy of a constant row of ints -/
theorem K.copyT {Λ : kL} {X : kX} {μ : kMi} {mc ms : Nat} {Z : State → Prop} {bc bs : Nat} {σ : kh} {pc : Nat} {L : List (Option Value)} {st : List Value} {ix t a n0 n2 sp dp n : Nat} {f g : Nat → Int32} (hd : decode μ.2.1 pc = .ok (.invokestatic ix, 3)) (hl : Cond.methodLink μ.1.cls ix arraycopyName ∈ lw_tbl) (hT : va_T .int t n0 (fun j => .int (f j)) (kA Λ) (kS Λ) (kS Λ).heap) (h : σ a = some (aI n2 g)) (hs : sp + n ≤ n0) (hdp : dp + n ≤ n2) (hb0 : n0 < 2 ^ 31) (hb1 : n2 < 2 ^ 31) (hfr : Nat.ble 1 μ.2.2.2.2.1 = true) (hlo : Nat.ble ((st.map fun v => v.category).sum + 18) μ.2.2.2.2.2 = true) (k : K Λ X μ mc ms Z bc bs (kup σ a (aI n2 (va_cpy f g sp dp n))) (pc + 3) L st) : K Λ X μ mc ms Z bc bs σ pc L (.int (nI n) :: .int (nI dp) :: .ref a :: .int (nI sp) :: .ref t :: st) := by
  obtain ⟨p, e, R, s, m, args, below, meth, c⟩ := X
  intro F H locs k1 n1 ls h1 h2 h3 h4 h5 h6
  have hok := F.2.2.2.2.2.2.2.2.1
  have hW := F.2.2.2.2.2.2.2.2.2
  have hR : R = kRm μ mc ms := F.2.2.2.2.2.2.2.1
  obtain ⟨scr, g1, g2, g3, g4, g5, g6, g7⟩ := (hT.moved hW.alike).kept h1.kp
  obtain ⟨g2a, kc0, hk0, cm0, hkk0⟩ := g2
  have hca : H[a]? = some (vp_cell (kac Λ 1) (n2, .inl g)) := (h3 a _ h).2
  have hB : kB Λ ≤ a := (h3 a _ h).1
  obtain ⟨-, kc1, hk1, cm1, hkk1⟩ := ((hok.K hW).2 1 _ (kT_at Λ (by decide))).1 n2 (fun j => .int (g j))
  have e1 : (nI sp).toNatClampNeg = sp := nI_clamp (by omega)
  have e2 : (nI dp).toNatClampNeg = dp := nI_clamp (by omega)
  have e3 : (nI n).toNatClampNeg = n := nI_clamp (by omega)
  have i1 : (nI sp).toInt = (sp : Int) := nI_toInt (by omega)
  have i2 : (nI dp).toInt = (dp : Int) := nI_toInt (by omega)
  have i3 : (nI n).toInt = (n : Int) := nI_toInt (by omega)
  intro T hT' X
  obtain ⟨vm', X', step⟩ := X.arraycopy F.1 F.2.2.2.1 (hok.w hl rfl hW) (hok.w ac_nat rfl hW) (hok.w ac_st rfl hW) (hok.w ac_in rfl hW) (src := t) (dst := a) (cs := scr) (cd := vp_cell (kac Λ 1) (n2, .inl g)) (srcPos := nI sp) (destPos := nI dp) (n := nI n) (by rw [hT']; exact g1) (by rw [hT']; exact hca)
    g2a (fun _ q => by cases q) g3 (fun q => by cases q) hk0 hk1 hkk0 hkk1 rfl (nI_pos (by omega)) (nI_pos (by omega)) (nI_pos (by omega))
    (by rw [i1, i3]; omega) (by rw [i2, i3]; show ¬ _ > ((arrV (kac Λ 1) n2 (fun j => .int (g j))).slots.size : Int); rw [arrV_size]; omega)
    (fun vm₁ _ i hi => by
      rw [e3] at hi
      have ev : scr.slots.getD ((nI sp).toNatClampNeg + i) .null = .int (f (sp + i)) := by
        rw [e1, Array.getD_eq_getD_getElem?, g6 _ (by omega)]
        rfl
      rw [ev]
      exact ⟨rfl, trivial⟩)
    (g := F0 m pc ls (.int (nI n) :: .int (nI dp) :: .ref a :: .int (nI sp) :: .ref t :: st)) rfl (F.2.2.1.trans h6.1.symm).symm (rest := st) rfl (by rw [F.2.1]; exact hd) (by rw [hR]; exact Nat.le_of_ble_eq_true hfr)
    (by
      rw [hR]
      have := Nat.le_of_ble_eq_true hlo
      have e9 : nativeFrameWords "java/lang/System" "arraycopy" 5 = 7 := by decide +kernel
      rw [e9]
      show 2 * 0 + _ + _ ≤ μ.2.2.2.2.2
      omega)
  have ec : copied scr (vp_cell (kac Λ 1) (n2, .inl g)) (nI sp) (nI dp) (nI n) = vp_cell (kac Λ 1) (n2, .inl (va_cpy f g sp dp n)) := by
    show (arrV (kac Λ 1) n2 (fun j => .int (g j))).storeRun (nI dp).toNatClampNeg (scr.stretch (nI sp).toNatClampNeg (nI n).toNatClampNeg) = _
    rw [e1, e2, e3]
    exact va_copiedX (fun z => .int z) scr _ f g g6 hs
  rw [ec] at X' step
  have hlt : a < H.size := (Array.getElem?_eq_some_iff.mp hca).1
  have hheap : ((T.setVm vm').setCell a (vp_cell (kac Λ 1) (n2, .inl (va_cpy f g sp dp n)))).heap = H.setIfInBounds a (vp_cell (kac Λ 1) (n2, .inl (va_cpy f g sp dp n))) := by rw [← hT']; rfl
  have oq : ∀ q : Nat, q ≠ a → q < H.size → (H.setIfInBounds a (vp_cell (kac Λ 1) (n2, .inl (va_cpy f g sp dp n))))[q]? = H[q]? := fun q hq _ => by simp [Array.getElem?_setIfInBounds, Ne.symm hq]
  obtain ⟨t9, a9, b9⟩ := k F _ _ k1 n1 ls (h1.up hB (by simp) oq) (fun z hz => by
      rcases List.mem_append.mp hz with q | q
      · exact h2 z q
      · obtain ⟨y, -, hy⟩ := List.mem_map.mp q
        rw [← hy]
        exact hB) (h3.up hB (show (H.setIfInBounds a _)[a]? = some _ by simp [Array.getElem?_setIfInBounds, hlt]) oq) h4 h5 h6 _ hheap X'
  exact ⟨t9, step t9 a9, b9⟩
theorem J.copyT {Λ : kL} {X : kX} {μ : kMi} {mc ms : Nat} {Z : State → Prop} {bc bs : Nat} {σ : kh} {pc : Nat} {L : List (Option Value)} {st : List Value} {ix t a n0 n2 sp dp n : Nat} {f g : Nat → Int32} (hd : decode μ.2.1 pc = .ok (.invokestatic ix, 3)) (hl : Cond.methodLink μ.1.cls ix arraycopyName ∈ lw_tbl) (hT : va_T .int t n0 (fun j => .int (f j)) (kA Λ) (kS Λ) (kS Λ).heap) (h : σ a = some (aI n2 g)) (hs : sp + n ≤ n0) (hdp : dp + n ≤ n2) (hb0 : n0 < 2 ^ 31) (hb1 : n2 < 2 ^ 31) (hfr : Nat.ble 1 μ.2.2.2.2.1 = true) (hlo : Nat.ble ((st.map fun v => v.category).sum + 18) μ.2.2.2.2.2 = true) (k : J Λ X μ mc ms Z bc bs (kup σ a (aI n2 (va_cpy f g sp dp n))) (pc + 3) L st) : J Λ X μ mc ms Z bc bs σ pc L (.int (nI n) :: .int (nI dp) :: .ref a :: .int (nI sp) :: .ref t :: st) := fun ρ hρ => K.copyT hd hl hT (hρ.get h rfl) hs hdp hb0 hb1 hfr hlo (k _ (hρ.put h rfl rfl))
theorem C.copyT {Λ : kL} {X : kX} {μ : kMi} {mc ms : Nat} {S : Nat → Nat} {Q : Option Value → (Nat → kc) → kh → Prop} {bc bs : Nat} {G : Nat → kc} {D : kh} {pc : Nat} {L : List (Option Value)} {st : List Value} {ix t k9 n0 n2 sp dp n : Nat} {f g : Nat → Int32} (hd : decode μ.2.1 pc = .ok (.invokestatic ix, 3)) (hl : Cond.methodLink μ.1.cls ix arraycopyName ∈ lw_tbl) (hT : va_T .int t n0 (fun j => .int (f j)) (kA Λ) (kS Λ) (kS Λ).heap) (hk : Nat.blt k9 51 = true) (h : G k9 = aI n2 g) (hs : sp + n ≤ n0) (hdp : dp + n ≤ n2) (hb0 : n0 < 2 ^ 31) (hb1 : n2 < 2 ^ 31) (hfr : Nat.ble 1 μ.2.2.2.2.1 = true) (hlo : Nat.ble ((st.map fun v => v.category).sum + 18) μ.2.2.2.2.2 = true) (k : C Λ X μ mc ms S Q bc bs (updG G k9 (aI n2 (va_cpy f g sp dp n))) D (pc + 3) L st) : C Λ X μ mc ms S Q bc bs G D pc L (.int (nI n) :: .int (nI dp) :: .ref (S k9) :: .int (nI sp) :: .ref t :: st) := fun hS D0 σ0 σ h1 h2 => J.copyT hd hl hT (h2.at hk h) hs hdp hb0 hb1 hfr hlo (k hS D0 σ0 _ (h1.tr (cFr.putS (Nat.le_of_ble_eq_true hk)) h2.2.2) (h2.putS hS (Nat.le_of_ble_eq_true hk) _))
/-! SHA-256 of the class -/
theorem and255_bit {x : Int32} {j : Nat} : (x &&& 255).toBitVec.getLsbD j = (x.toBitVec.getLsbD j && decide (j < 8)) := by
  rw [Int32.toBitVec_and, BitVec.getLsbD_and]
  congr 1
  by_cases h : j < 32
  · have : ∀ j, j < 32 → (255 : Int32).toBitVec.getLsbD j = decide (j < 8) := by decide
    exact this j h
  · rw [BitVec.getLsbD_of_ge _ _ (by omega), decide_eq_false (by omega)]
theorem shl_bit {x y : Int32} {s j : Nat} (hs : y.toBitVec.smod 32 = BitVec.ofNat 32 s) (hs2 : s < 32) : (x <<< y).toBitVec.getLsbD j = (decide (j < 32) && !decide (j < s) && x.toBitVec.getLsbD (j - s)) := by
  rw [Int32.toBitVec_shiftLeft, hs, BitVec.shiftLeft_eq', BitVec.getLsbD_shiftLeft, BitVec.toNat_ofNat, Nat.mod_eq_of_lt (by omega)]
theorem b8_and (x : Int32) : b8 x &&& 255 = x &&& 255 := by
  apply Int32.toBitVec_inj.mp
  apply BitVec.eq_of_getLsbD_eq
  intro j hj
  rw [and255_bit, and255_bit]
  by_cases h : j < 8
  · rw [b8_bit h]
  · rw [decide_eq_false h, Bool.and_false, Bool.and_false]
/-- a word of bytes, the highest first -/
def wI (P : Nat → Int32) (a : Nat) : Nat → Int32
  | 0 => 0
  | i + 1 => (wI P a i <<< ((8 : Int32) &&& 31)) ||| (P (a + i) &&& 255)
theorem wI_4 (P : Nat → Int32) (a : Nat) : wI P a 4 = wd P a := by
  have z : ∀ j, (0 : Int32).toBitVec.getLsbD j = false := fun j => by
    show (BitVec.ofNat 32 0).getLsbD j = false
    rw [BitVec.getLsbD_ofNat, Nat.zero_testBit, Bool.and_false]
  have s8 : ((8 : Int32) &&& 31).toBitVec.smod 32 = BitVec.ofNat 32 8 := by decide
  have s16 : ((16 : Int32) &&& 31).toBitVec.smod 32 = BitVec.ofNat 32 16 := by decide
  have s24 : ((24 : Int32) &&& 31).toBitVec.smod 32 = BitVec.ofNat 32 24 := by decide
  show (((((((0 : Int32) <<< ((8 : Int32) &&& 31)) ||| (P (a + 0) &&& 255)) <<< ((8 : Int32) &&& 31)) ||| (P (a + 1) &&& 255)) <<< ((8 : Int32) &&& 31)) ||| (P (a + 2) &&& 255)) <<< ((8 : Int32) &&& 31) ||| (P (a + 3) &&& 255) = wd P a
  rw [wd, Nat.add_zero]
  apply Int32.toBitVec_inj.mp
  apply BitVec.eq_of_getLsbD_eq
  intro j hj
  simp only [Int32.toBitVec_or, BitVec.getLsbD_or, shl_bit s8 (by decide), shl_bit s16 (by decide), shl_bit s24 (by decide), and255_bit, z]
  rcases (show j < 8 ∨ (8 ≤ j ∧ j < 16) ∨ (16 ≤ j ∧ j < 24) ∨ (24 ≤ j ∧ j < 32) by omega) with h | h | h | h
  · simp [show j < 16 by omega, show j < 24 by omega, h, hj]
  · simp [show ¬ j < 8 by omega, show j < 16 by omega, show j < 24 by omega, hj, show j - 8 < 8 by omega, show j - 8 < 32 by omega]
  · simp [show ¬ j < 8 by omega, show ¬ j < 16 by omega, show j < 24 by omega, hj, show ¬ j - 8 < 8 by omega, show j - 8 < 32 by omega, show j - 8 - 8 < 8 by omega, show j - 8 - 8 < 32 by omega, show j - 16 < 8 by omega, show j - 8 - 8 = j - 16 by omega]
  · simp [show ¬ j < 8 by omega, show ¬ j < 16 by omega, show ¬ j < 24 by omega, hj, show ¬ j - 8 < 8 by omega, show j - 8 < 32 by omega, show ¬ j - 8 - 8 < 8 by omega, show j - 8 - 8 < 32 by omega, show ¬ j - 16 < 8 by omega, show j - 8 - 8 - 8 < 8 by omega, show j - 8 - 8 - 8 < 32 by omega, show j - 8 - 8 - 8 = j - 24 by omega, show j - 24 < 8 by omega]
theorem szS_ge (n : Nat) : n + 9 ≤ szS n ∧ szS n ≤ n + 72 := by rw [szS]; omega
theorem szS_bl (n : Nat) : szS n / 64 = (n + 8) / 64 + 1 := by rw [szS]; omega
theorem szS_64 (n : Nat) : 64 * (szS n / 64) = szS n := by rw [szS]; omega
theorem add4 (b y a x : Int32) : ((b + y) + a) + x = ((x + y) + a) + b := by
  rw [Int32.add_comm ((b + y) + a) x, Int32.add_comm b y, Int32.add_assoc y b a, Int32.add_comm b a, ← Int32.add_assoc y a b, ← Int32.add_assoc x (y + a) b, ← Int32.add_assoc x y a]
theorem cH.keep {S : Nat → Nat} {G G' : Nat → kc} (h : cH S G) (h47 : G' 47 = G 47) (h48 : G' 48 = G 48) (h49 : G' 49 = G 49) (h50 : G' 50 = G 50) : cH S G' := by
  obtain ⟨⟨f1, a1⟩, ⟨f2, a2⟩, n, f3, h3, a3, a4⟩ := h
  exact ⟨⟨f1, h47.trans a1⟩, ⟨f2, h48.trans a2⟩, n, f3, h3, h49.trans a3, h50.trans a4⟩
theorem cR_sha {Λ : kL} {S : Nat → Nat} {G G' : Nat → kc} {D : kh} {A L : Nat → List Nat} {N : Nat → Int32} {B : Nat → List Int32} {T R : Nat → List (List Int32)} (h : cR Λ S G D A L N B T R) (e : ∀ k, k < 47 → G' k = G k) (hH : cH S G') : cR Λ S G' D A L N B T R := by
  obtain ⟨p_a, p_b, p_n, p_k, p_f, p_h, p_w, p_c, p_r, p_q, p_o, p_m, p_t, p_d⟩ := h
  obtain ⟨fa, a1, a2, a3⟩ := p_a
  obtain ⟨fb, b1, b2, b3⟩ := p_b
  exact ⟨⟨fa, (e 1 (by decide)).trans a1, (e 13 (by decide)).trans a2, a3⟩, ⟨fb, (e 2 (by decide)).trans b1, (e 14 (by decide)).trans b2, b3⟩, (e 0 (by decide)).trans p_n, ⟨(e 3 (by decide)).trans p_k.1, (e 4 (by decide)).trans p_k.2.1, (e 5 (by decide)).trans p_k.2.2.1, (e 44 (by decide)).trans p_k.2.2.2⟩, p_f.keep (fun k _ h2 => e k (by omega)), hH, ⟨(e 6 (by decide)).trans p_w.1, p_w.2⟩, ⟨(e 7 (by decide)).trans p_c.1, p_c.2⟩, p_r, ⟨(e 8 (by decide)).trans p_q.1, p_q.2⟩, ⟨(e 9 (by decide)).trans p_o.1, p_o.2⟩, ⟨(e 10 (by decide)).trans p_m.1, p_m.2⟩, ⟨(e 11 (by decide)).trans p_t.1, (e 12 (by decide)).trans p_t.2.1, p_t.2.2⟩, ⟨(e 45 (by decide)).trans p_d.1, (e 46 (by decide)).trans p_d.2.1, p_d.2.2⟩⟩

theorem k_padded {Λ : kL} {S : Nat → Nat} {G : Nat → kc} {D : kh} (hS : cInj S) {u : Nat} {v : List Int32} (hT : tV S G D u v) (hv : v.length ≤ 2000) {i : Nat} (hi : i < (szS v.length)) : cCt Λ mX8_padded 0 0 S [.ref u, .int (nI i), .int (nI (szS v.length))] G D (fun r G' D' => r = some (.int (pdB v i &&& 255)) ∧ G' = G ∧ D' = D) := by
  refine cCt.of hS pn_X8 [some (.ref u), some (.int (nI i)), some (.int (nI (szS v.length)))] rfl (Nat.le_of_ble_eq_true rfl) fun X => ?_
  have hsz := szS_ge v.length
  refine C.iload_n dX8_padded_0 rfl ?_
  refine C.aload_nR dX8_padded_1 rfl ?_
  refine C.callVX0 [] dX8_padded_2 mdX9_size imX9_size seX9_size kc_10 (show tV S G D u v from hT).ob lk_X8_36 rfl rfl rfl rfl (cCt.w0 (R := fun r => r = some (.int (nI v.length))) fun σ9 h9 => v_size ((show tV S G D u v from hT).tx h9)) ?_
  rintro _ G9 D9 ⟨rfl, e9, e8⟩
  have e9 := e9.symm; subst e9; have e8 := e8.symm; subst e8
  refine C.icmp_ge (tgt := 14) dX8_padded_5 (by decide) (fun c_5 => ?_) (fun c_5 => ?_)
  · skip
    have ge_i : v.length ≤ i := (nI_leI (by omega) (by omega)).mp c_5
    refine C.iload_n dX8_padded_14 rfl ?_
    refine C.aload_nR dX8_padded_15 rfl ?_
    refine C.callVX0 [] dX8_padded_16 mdX9_size imX9_size seX9_size kc_10 (show tV S G D u v from hT).ob lk_X8_36 rfl rfl rfl rfl (cCt.w0 (R := fun r => r = some (.int (nI v.length))) fun σ9 h9 => v_size ((show tV S G D u v from hT).tx h9)) ?_
    rintro _ G9 D9 ⟨rfl, e9, e8⟩
    have e9 := e9.symm; subst e9; have e8 := e8.symm; subst e8
    refine C.icmp_ne (tgt := 26) dX8_padded_19 (by decide) (fun c_19 => ?_) (fun c_19 => ?_)
    · skip
      have ne_i : ¬ i = v.length := fun q => c_19 (by rw [q])
      refine C.iload_n dX8_padded_26 rfl ?_
      refine C.iload_n dX8_padded_27 rfl ?_
      refine C.iconst (v := 4) dX8_padded_28 (by decide) ?_
      refine C.isub dX8_padded_29 ?_
      rw [show (nI (szS v.length)) - 4 = nI ((szS v.length) - 4) from pk_sub (b := 4) (by omega)]
      refine C.icmp_ge (tgt := 37) dX8_padded_30 (by decide) (fun c_30 => ?_) (fun c_30 => ?_)
      · skip
        have ge4 : (szS v.length) - 4 ≤ i := (nI_leI (by omega) (by omega)).mp c_30
        refine C.aload_nR dX8_padded_37 rfl ?_
        refine C.callVX0 [] dX8_padded_38 mdX9_size imX9_size seX9_size kc_10 (show tV S G D u v from hT).ob lk_X8_36 rfl rfl rfl rfl (cCt.w0 (R := fun r => r = some (.int (nI v.length))) fun σ9 h9 => v_size ((show tV S G D u v from hT).tx h9)) ?_
        rintro _ G9 D9 ⟨rfl, e9, e8⟩
        have e9 := e9.symm; subst e9; have e8 := e8.symm; subst e8
        refine C.bipush (v := 8) dX8_padded_41 (by decide) ?_
        refine C.imul dX8_padded_43 ?_
        rw [show (nI v.length) * 8 = nI (8 * v.length) from (by rw [Nat.mul_comm]; exact nI_mulc v.length 8)]
        refine C.iload_n dX8_padded_44 rfl ?_
        refine C.iconst (v := 1) dX8_padded_45 (by decide) ?_
        refine C.isub dX8_padded_46 ?_
        rw [show (nI (szS v.length)) - 1 = nI ((szS v.length) - 1) from pk_sub (b := 1) (by omega)]
        refine C.iload_n dX8_padded_47 rfl ?_
        refine C.isub dX8_padded_48 ?_
        rw [show (nI ((szS v.length) - 1)) - (nI i) = nI ((szS v.length) - 1 - i) from pk_sub (by omega)]
        refine C.bipush (v := 8) dX8_padded_49 (by decide) ?_
        refine C.imul dX8_padded_51 ?_
        rw [show (nI ((szS v.length) - 1 - i)) * 8 = nI (8 * ((szS v.length) - 1 - i)) from (by rw [Nat.mul_comm]; exact nI_mulc _ 8)]
        refine C.iushr dX8_padded_52 rfl ?_
        rw [show ((nI (8 * v.length) : Int32).toUInt32 >>> ((nI (8 * ((szS v.length) - 1 - i)) : Int32).toUInt32 &&& Int32.toUInt32 31)).toInt32 = ush (nI (8 * v.length)) (nI (8 * ((szS v.length) - 1 - i))) from rfl]
        refine C.sipush (v := 255) dX8_padded_53 (by decide) ?_
        refine C.iand dX8_padded_56 ?_
        refine C.iret dX8_padded_57 rfl ?_
        refine ⟨congrArg (fun z => some (Value.int z)) ?_, rfl, rfl⟩
        rw [pdB]
        rw [if_pos ⟨ge4, hi⟩, b8_and, ← b8_and (ush _ _), ush_b8 (by omega), b8_and]
      · skip
        have lt4 : i < (szS v.length) - 4 := nI_ltn c_30 (by omega) (by omega)
        refine C.iconst (v := 0) dX8_padded_33 (by decide) ?_
        refine C.goto (tgt := 57) dX8_padded_34 (by decide) ?_
        refine C.iret dX8_padded_57 rfl ?_
        refine ⟨congrArg (fun z => some (Value.int z)) ?_, rfl, rfl⟩
        rw [pdB]
        rw [if_neg (by omega), pad1, if_neg (by omega), if_neg ne_i]; rfl
    · skip
      have eq_i : i = v.length := (nI_eq (by omega) (by omega)).mp c_19
      refine C.sipush (v := 128) dX8_padded_22 (by decide) ?_
      refine C.iret dX8_padded_25 rfl ?_
      refine ⟨congrArg (fun z => some (Value.int z)) ?_, rfl, rfl⟩
      rw [pdB]
      rw [if_neg (by omega), pad1, if_neg (by omega), if_pos eq_i]; rfl
  · skip
    have lt_i : i < v.length := nI_ltn c_5 (by omega) (by omega)
    refine C.aload_nR dX8_padded_8 rfl ?_
    refine C.iload_n dX8_padded_9 rfl ?_
    refine C.callVX0 [.int (nI i)] dX8_padded_10 mdX9_at imX9_at seX9_at kc_10 (show tV S G D u v from hT).ob lk_X8_62 rfl rfl rfl rfl (cCt.w0 (R := fun r => r = some (.int (v.getD i 0 &&& 255))) fun σ9 h9 => v_at ((show tV S G D u v from hT).tx h9) lt_i) ?_
    rintro _ G9 D9 ⟨rfl, e9, e8⟩
    have e9 := e9.symm; subst e9; have e8 := e8.symm; subst e8
    refine C.iret dX8_padded_13 rfl ?_
    refine ⟨congrArg (fun z => some (Value.int z)) ?_, rfl, rfl⟩
    rw [pdB]
    rw [if_neg (by omega), pad1, if_pos lt_i]

theorem k_fillSchedule {Λ : kL} {S : Nat → Nat} {G : Nat → kc} {D : kh} (hS : cInj S) {u : Nat} {v : List Int32} (hT : tV S G D u v) (hv : v.length ≤ 2000) (h5 : G 5 = oSh S) {fs : Nat → Int32} (h48 : G 48 = aI 64 fs) {a : Nat} (ha : a + 64 ≤ (szS v.length)) : cCt Λ mX8_fillSchedule 0 0 S [.ref (S 5), .ref u, .int (nI a), .int (nI (szS v.length))] G D (fun r G' D' => r = none ∧ G' = updG G 48 (aI 64 (schG (fun t => wd (pdB v) (a + 4 * t)) fs 64)) ∧ D' = D) := by
  refine cCt.of hS pn_X8 [some (.ref (S 5)), some (.ref u), some (.int (nI a)), some (.int (nI (szS v.length))), none, none, none, none, none] rfl (Nat.le_of_ble_eq_true rfl) fun X => ?_
  have hsz := szS_ge v.length
  have cut_69 : ∀ (k_69 : Nat) (t : Nat), (16 ≤ t) → (t ≤ 64) → (65 ≤ t + k_69) → C Λ X mX8_fillSchedule 0 0 S (fun r G' D' => r = none ∧ G' = updG G 48 (aI 64 (schG (fun t => wd (pdB v) (a + 4 * t)) fs 64)) ∧ D' = D) 0 0 (updG G 48 (aI 64 (schG (fun t => wd (pdB v) (a + 4 * t)) fs t))) D 69 [some (.ref (S 5)), some (.ref u), some (.int (nI a)), some (.int (nI (szS v.length))), some (.int (nI t)), none, none, none, none] [] := by
    intro k_69
    induction k_69 with
    | zero => intro t h4 h5t h6; exact absurd h6 (by omega)
    | succ k_69 ih_69 =>
      intro t h4 h5t h6
      refine C.iload dX8_fillSchedule_69 rfl ?_
      refine C.bipush (v := 64) dX8_fillSchedule_71 (by decide) ?_
      refine C.icmp_ge (tgt := 184) dX8_fillSchedule_73 (by decide) (fun c_73 => ?_) (fun c_73 => ?_)
      · skip
        refine C.vret dX8_fillSchedule_184 rfl ?_
        have e1 := nI_gen (n := 64) c_73 h5t (by omega); subst e1
        exact ⟨rfl, rfl, rfl⟩
      · skip
        have lt64 : t < 64 := nI_ltn (n := 64) c_73 (by omega) (by omega)
        refine C.aload_nR dX8_fillSchedule_76 rfl ?_
        refine C.getS (k9 := 5) (fs := [.ref (S 47), .ref (S 48), .ref (S 49)]) dX8_fillSchedule_77 fl_X8_15 rfl h5 rfl ?_
        refine C.iload dX8_fillSchedule_80 rfl ?_
        refine C.bipush (v := 15) dX8_fillSchedule_82 (by decide) ?_
        refine C.isub dX8_fillSchedule_84 ?_
        rw [show (nI t) - 15 = nI (t - 15) from pk_sub (b := 15) (by omega)]
        refine C.ialS (k9 := 48) (j := t - 15) (n := 64) (f := (schG (fun t => wd (pdB v) (a + 4 * t)) fs t)) dX8_fillSchedule_85 rfl rfl rfl (by omega) (by decide) ?_
        refine C.istore (L' := [some (.ref (S 5)), some (.ref u), some (.int (nI a)), some (.int (nI (szS v.length))), some (.int (nI t)), some (.int ((schG (fun t => wd (pdB v) (a + 4 * t)) fs t) (t - 15))), none, none, none]) dX8_fillSchedule_86 (by decide) rfl rfl ?_
        refine C.aload_nR dX8_fillSchedule_88 rfl ?_
        refine C.getS (k9 := 5) (fs := [.ref (S 47), .ref (S 48), .ref (S 49)]) dX8_fillSchedule_89 fl_X8_15 rfl h5 rfl ?_
        refine C.iload dX8_fillSchedule_92 rfl ?_
        refine C.iconst (v := 2) dX8_fillSchedule_94 (by decide) ?_
        refine C.isub dX8_fillSchedule_95 ?_
        rw [show (nI t) - 2 = nI (t - 2) from pk_sub (b := 2) (by omega)]
        refine C.ialS (k9 := 48) (j := t - 2) (n := 64) (f := (schG (fun t => wd (pdB v) (a + 4 * t)) fs t)) dX8_fillSchedule_96 rfl rfl rfl (by omega) (by decide) ?_
        refine C.istore (L' := [some (.ref (S 5)), some (.ref u), some (.int (nI a)), some (.int (nI (szS v.length))), some (.int (nI t)), some (.int ((schG (fun t => wd (pdB v) (a + 4 * t)) fs t) (t - 15))), some (.int ((schG (fun t => wd (pdB v) (a + 4 * t)) fs t) (t - 2))), none, none]) dX8_fillSchedule_97 (by decide) rfl rfl ?_
        refine C.iload dX8_fillSchedule_99 rfl ?_
        refine C.bipush (v := 7) dX8_fillSchedule_101 (by decide) ?_
        refine C.callS0 [.int ((schG (fun t => wd (pdB v) (a + 4 * t)) fs t) (t - 15)), .int 7] dX8_fillSchedule_103 mdX8_rotate ssX8_rotate lk_X8_58 rfl rfl rfl rfl (cCt.w0 (R := fun r => r = some (.int (rotr ((schG (fun t => wd (pdB v) (a + 4 * t)) fs t) (t - 15)) 7))) fun σ9 h9 => c_rotate ((schG (fun t => wd (pdB v) (a + 4 * t)) fs t) (t - 15)) 7) ?_
        rintro _ G9 D9 ⟨rfl, e9, e8⟩
        have e9 := e9.symm; subst e9; have e8 := e8.symm; subst e8
        refine C.iload dX8_fillSchedule_106 rfl ?_
        refine C.bipush (v := 18) dX8_fillSchedule_108 (by decide) ?_
        refine C.callS0 [.int ((schG (fun t => wd (pdB v) (a + 4 * t)) fs t) (t - 15)), .int 18] dX8_fillSchedule_110 mdX8_rotate ssX8_rotate lk_X8_58 rfl rfl rfl rfl (cCt.w0 (R := fun r => r = some (.int (rotr ((schG (fun t => wd (pdB v) (a + 4 * t)) fs t) (t - 15)) 18))) fun σ9 h9 => c_rotate ((schG (fun t => wd (pdB v) (a + 4 * t)) fs t) (t - 15)) 18) ?_
        rintro _ G9 D9 ⟨rfl, e9, e8⟩
        have e9 := e9.symm; subst e9; have e8 := e8.symm; subst e8
        refine C.ixor dX8_fillSchedule_113 ?_
        refine C.iload dX8_fillSchedule_114 rfl ?_
        refine C.iconst (v := 3) dX8_fillSchedule_116 (by decide) ?_
        refine C.iushr dX8_fillSchedule_117 rfl ?_
        rw [show (((schG (fun t => wd (pdB v) (a + 4 * t)) fs t) (t - 15) : Int32).toUInt32 >>> ((3 : Int32).toUInt32 &&& Int32.toUInt32 31)).toInt32 = ush ((schG (fun t => wd (pdB v) (a + 4 * t)) fs t) (t - 15)) 3 from rfl]
        refine C.ixor dX8_fillSchedule_118 ?_
        rw [show ((rotr ((schG (fun t => wd (pdB v) (a + 4 * t)) fs t) (t - 15)) 7) ^^^ (rotr ((schG (fun t => wd (pdB v) (a + 4 * t)) fs t) (t - 15)) 18)) ^^^ (ush ((schG (fun t => wd (pdB v) (a + 4 * t)) fs t) (t - 15)) 3) = sA ((schG (fun t => wd (pdB v) (a + 4 * t)) fs t) (t - 15)) from rfl]
        refine C.istore (L' := [some (.ref (S 5)), some (.ref u), some (.int (nI a)), some (.int (nI (szS v.length))), some (.int (nI t)), some (.int ((schG (fun t => wd (pdB v) (a + 4 * t)) fs t) (t - 15))), some (.int ((schG (fun t => wd (pdB v) (a + 4 * t)) fs t) (t - 2))), some (.int (sA ((schG (fun t => wd (pdB v) (a + 4 * t)) fs t) (t - 15)))), none]) dX8_fillSchedule_119 (by decide) rfl rfl ?_
        refine C.iload dX8_fillSchedule_121 rfl ?_
        refine C.bipush (v := 17) dX8_fillSchedule_123 (by decide) ?_
        refine C.callS0 [.int ((schG (fun t => wd (pdB v) (a + 4 * t)) fs t) (t - 2)), .int 17] dX8_fillSchedule_125 mdX8_rotate ssX8_rotate lk_X8_58 rfl rfl rfl rfl (cCt.w0 (R := fun r => r = some (.int (rotr ((schG (fun t => wd (pdB v) (a + 4 * t)) fs t) (t - 2)) 17))) fun σ9 h9 => c_rotate ((schG (fun t => wd (pdB v) (a + 4 * t)) fs t) (t - 2)) 17) ?_
        rintro _ G9 D9 ⟨rfl, e9, e8⟩
        have e9 := e9.symm; subst e9; have e8 := e8.symm; subst e8
        refine C.iload dX8_fillSchedule_128 rfl ?_
        refine C.bipush (v := 19) dX8_fillSchedule_130 (by decide) ?_
        refine C.callS0 [.int ((schG (fun t => wd (pdB v) (a + 4 * t)) fs t) (t - 2)), .int 19] dX8_fillSchedule_132 mdX8_rotate ssX8_rotate lk_X8_58 rfl rfl rfl rfl (cCt.w0 (R := fun r => r = some (.int (rotr ((schG (fun t => wd (pdB v) (a + 4 * t)) fs t) (t - 2)) 19))) fun σ9 h9 => c_rotate ((schG (fun t => wd (pdB v) (a + 4 * t)) fs t) (t - 2)) 19) ?_
        rintro _ G9 D9 ⟨rfl, e9, e8⟩
        have e9 := e9.symm; subst e9; have e8 := e8.symm; subst e8
        refine C.ixor dX8_fillSchedule_135 ?_
        refine C.iload dX8_fillSchedule_136 rfl ?_
        refine C.bipush (v := 10) dX8_fillSchedule_138 (by decide) ?_
        refine C.iushr dX8_fillSchedule_140 rfl ?_
        rw [show (((schG (fun t => wd (pdB v) (a + 4 * t)) fs t) (t - 2) : Int32).toUInt32 >>> ((10 : Int32).toUInt32 &&& Int32.toUInt32 31)).toInt32 = ush ((schG (fun t => wd (pdB v) (a + 4 * t)) fs t) (t - 2)) 10 from rfl]
        refine C.ixor dX8_fillSchedule_141 ?_
        rw [show ((rotr ((schG (fun t => wd (pdB v) (a + 4 * t)) fs t) (t - 2)) 17) ^^^ (rotr ((schG (fun t => wd (pdB v) (a + 4 * t)) fs t) (t - 2)) 19)) ^^^ (ush ((schG (fun t => wd (pdB v) (a + 4 * t)) fs t) (t - 2)) 10) = sB ((schG (fun t => wd (pdB v) (a + 4 * t)) fs t) (t - 2)) from rfl]
        refine C.istore (L' := [some (.ref (S 5)), some (.ref u), some (.int (nI a)), some (.int (nI (szS v.length))), some (.int (nI t)), some (.int ((schG (fun t => wd (pdB v) (a + 4 * t)) fs t) (t - 15))), some (.int ((schG (fun t => wd (pdB v) (a + 4 * t)) fs t) (t - 2))), some (.int (sA ((schG (fun t => wd (pdB v) (a + 4 * t)) fs t) (t - 15)))), some (.int (sB ((schG (fun t => wd (pdB v) (a + 4 * t)) fs t) (t - 2))))]) dX8_fillSchedule_142 (by decide) rfl rfl ?_
        refine C.aload_nR dX8_fillSchedule_144 rfl ?_
        refine C.getS (k9 := 5) (fs := [.ref (S 47), .ref (S 48), .ref (S 49)]) dX8_fillSchedule_145 fl_X8_15 rfl h5 rfl ?_
        refine C.iload dX8_fillSchedule_148 rfl ?_
        refine C.iload dX8_fillSchedule_150 rfl ?_
        refine C.aload_nR dX8_fillSchedule_152 rfl ?_
        refine C.getS (k9 := 5) (fs := [.ref (S 47), .ref (S 48), .ref (S 49)]) dX8_fillSchedule_153 fl_X8_15 rfl h5 rfl ?_
        refine C.iload dX8_fillSchedule_156 rfl ?_
        refine C.bipush (v := 7) dX8_fillSchedule_158 (by decide) ?_
        refine C.isub dX8_fillSchedule_160 ?_
        rw [show (nI t) - 7 = nI (t - 7) from pk_sub (b := 7) (by omega)]
        refine C.ialS (k9 := 48) (j := t - 7) (n := 64) (f := (schG (fun t => wd (pdB v) (a + 4 * t)) fs t)) dX8_fillSchedule_161 rfl rfl rfl (by omega) (by decide) ?_
        refine C.iadd dX8_fillSchedule_162 ?_
        refine C.iload dX8_fillSchedule_163 rfl ?_
        refine C.iadd dX8_fillSchedule_165 ?_
        refine C.aload_nR dX8_fillSchedule_166 rfl ?_
        refine C.getS (k9 := 5) (fs := [.ref (S 47), .ref (S 48), .ref (S 49)]) dX8_fillSchedule_167 fl_X8_15 rfl h5 rfl ?_
        refine C.iload dX8_fillSchedule_170 rfl ?_
        refine C.bipush (v := 16) dX8_fillSchedule_172 (by decide) ?_
        refine C.isub dX8_fillSchedule_174 ?_
        rw [show (nI t) - 16 = nI (t - 16) from pk_sub (b := 16) (by omega)]
        refine C.ialS (k9 := 48) (j := t - 16) (n := 64) (f := (schG (fun t => wd (pdB v) (a + 4 * t)) fs t)) dX8_fillSchedule_175 rfl rfl rfl (by omega) (by decide) ?_
        refine C.iadd dX8_fillSchedule_176 ?_
        rw [show (((sB ((schG (fun t => wd (pdB v) (a + 4 * t)) fs t) (t - 2))) + ((schG (fun t => wd (pdB v) (a + 4 * t)) fs t) (t - 7))) + (sA ((schG (fun t => wd (pdB v) (a + 4 * t)) fs t) (t - 15)))) + ((schG (fun t => wd (pdB v) (a + 4 * t)) fs t) (t - 16)) = (((schG (fun t => wd (pdB v) (a + 4 * t)) fs t) (t - 16) + (schG (fun t => wd (pdB v) (a + 4 * t)) fs t) (t - 7)) + sA ((schG (fun t => wd (pdB v) (a + 4 * t)) fs t) (t - 15))) + sB ((schG (fun t => wd (pdB v) (a + 4 * t)) fs t) (t - 2)) from add4 _ _ _ _]
        refine C.iasS (k9 := 48) (j := t) (n := 64) (f := (schG (fun t => wd (pdB v) (a + 4 * t)) fs t)) dX8_fillSchedule_177 rfl rfl rfl (by omega) (by decide) ?_
        rw [updG_up, show _ = (schG (fun t => wd (pdB v) (a + 4 * t)) fs (t + 1)) from schG_hi (w := (fun t => wd (pdB v) (a + 4 * t))) (b := fs) (by omega)]
        refine C.iinc (v := nI (t + 1)) (L' := [some (.ref (S 5)), some (.ref u), some (.int (nI a)), some (.int (nI (szS v.length))), some (.int (nI (t + 1))), some (.int ((schG (fun t => wd (pdB v) (a + 4 * t)) fs t) (t - 15))), some (.int ((schG (fun t => wd (pdB v) (a + 4 * t)) fs t) (t - 2))), some (.int (sA ((schG (fun t => wd (pdB v) (a + 4 * t)) fs t) (t - 15)))), some (.int (sB ((schG (fun t => wd (pdB v) (a + 4 * t)) fs t) (t - 2))))]) dX8_fillSchedule_178 rfl (nI_1 t) (by decide) rfl rfl ?_
        refine C.goto (tgt := 69) dX8_fillSchedule_181 (by decide) ?_
        refine C.drop (i := 5) (L' := [some (.ref (S 5)), some (.ref u), some (.int (nI a)), some (.int (nI (szS v.length))), some (.int (nI (t + 1))), none, some (.int ((schG (fun t => wd (pdB v) (a + 4 * t)) fs t) (t - 2))), some (.int (sA ((schG (fun t => wd (pdB v) (a + 4 * t)) fs t) (t - 15)))), some (.int (sB ((schG (fun t => wd (pdB v) (a + 4 * t)) fs t) (t - 2))))]) rfl ?_
        refine C.drop (i := 6) (L' := [some (.ref (S 5)), some (.ref u), some (.int (nI a)), some (.int (nI (szS v.length))), some (.int (nI (t + 1))), none, none, some (.int (sA ((schG (fun t => wd (pdB v) (a + 4 * t)) fs t) (t - 15)))), some (.int (sB ((schG (fun t => wd (pdB v) (a + 4 * t)) fs t) (t - 2))))]) rfl ?_
        refine C.drop (i := 7) (L' := [some (.ref (S 5)), some (.ref u), some (.int (nI a)), some (.int (nI (szS v.length))), some (.int (nI (t + 1))), none, none, none, some (.int (sB ((schG (fun t => wd (pdB v) (a + 4 * t)) fs t) (t - 2))))]) rfl ?_
        refine C.drop (i := 8) (L' := [some (.ref (S 5)), some (.ref u), some (.int (nI a)), some (.int (nI (szS v.length))), some (.int (nI (t + 1))), none, none, none, none]) rfl ?_
        exact ih_69 (t + 1) (by omega) (by omega) (by omega)
  refine C.iconst (v := 0) dX8_fillSchedule_0 (by decide) ?_
  refine C.istore (L' := [some (.ref (S 5)), some (.ref u), some (.int (nI a)), some (.int (nI (szS v.length))), some (.int 0), none, none, none, none]) dX8_fillSchedule_1 (by decide) rfl rfl ?_
  have cut_3 : ∀ (k_3 : Nat) (t : Nat), (t ≤ 16) → (17 ≤ t + k_3) → C Λ X mX8_fillSchedule 0 0 S (fun r G' D' => r = none ∧ G' = updG G 48 (aI 64 (schG (fun t => wd (pdB v) (a + 4 * t)) fs 64)) ∧ D' = D) 0 0 (updG G 48 (aI 64 (schG (fun t => wd (pdB v) (a + 4 * t)) fs t))) D 3 [some (.ref (S 5)), some (.ref u), some (.int (nI a)), some (.int (nI (szS v.length))), some (.int (nI t)), none, none, none, none] [] := by
    intro k_3
    induction k_3 with
    | zero => intro t h1 h2; exact absurd h2 (by omega)
    | succ k_3 ih_3 =>
      intro t h1 h2
      refine C.iload dX8_fillSchedule_3 rfl ?_
      refine C.bipush (v := 16) dX8_fillSchedule_5 (by decide) ?_
      refine C.icmp_ge (tgt := 65) dX8_fillSchedule_7 (by decide) (fun c_7 => ?_) (fun c_7 => ?_)
      · skip
        have e1 := nI_gen (n := 16) c_7 h1 (by omega); subst e1
        refine C.bipush (v := 16) dX8_fillSchedule_65 (by decide) ?_
        refine C.istore (L' := [some (.ref (S 5)), some (.ref u), some (.int (nI a)), some (.int (nI (szS v.length))), some (.int 16), none, none, none, none]) dX8_fillSchedule_67 (by decide) rfl rfl ?_
        exact cut_69 65 16 (by omega) (by omega) (by omega)
      · skip
        have lt16 : t < 16 := nI_ltn (n := 16) c_7 (by omega) (by omega)
        have cut_16 : ∀ (k_16 : Nat) (i : Nat), (i ≤ 4) → (5 ≤ i + k_16) → C Λ X mX8_fillSchedule 0 0 S (fun r G' D' => r = none ∧ G' = updG G 48 (aI 64 (schG (fun t => wd (pdB v) (a + 4 * t)) fs 64)) ∧ D' = D) 0 0 (updG G 48 (aI 64 (schG (fun t => wd (pdB v) (a + 4 * t)) fs t))) D 16 [some (.ref (S 5)), some (.ref u), some (.int (nI a)), some (.int (nI (szS v.length))), some (.int (nI t)), some (.int (wI (pdB v) (a + 4 * t) i)), some (.int (nI i)), none, none] [] := by
          intro k_16
          induction k_16 with
          | zero => intro i h7 h8; exact absurd h8 (by omega)
          | succ k_16 ih_16 =>
            intro i h7 h8
            refine C.iload dX8_fillSchedule_16 rfl ?_
            refine C.iconst (v := 4) dX8_fillSchedule_18 (by decide) ?_
            refine C.icmp_ge (tgt := 50) dX8_fillSchedule_19 (by decide) (fun c_19 => ?_) (fun c_19 => ?_)
            · skip
              have e1 := nI_gen (n := 4) c_19 h7 (by omega); subst e1
              rw [wI_4]
              refine C.drop (i := 6) (L' := [some (.ref (S 5)), some (.ref u), some (.int (nI a)), some (.int (nI (szS v.length))), some (.int (nI t)), some (.int ((fun t => wd (pdB v) (a + 4 * t)) t)), none, none, none]) rfl ?_
              refine C.aload_nR dX8_fillSchedule_50 rfl ?_
              refine C.getS (k9 := 5) (fs := [.ref (S 47), .ref (S 48), .ref (S 49)]) dX8_fillSchedule_51 fl_X8_15 rfl h5 rfl ?_
              refine C.iload dX8_fillSchedule_54 rfl ?_
              refine C.iload dX8_fillSchedule_56 rfl ?_
              refine C.iasS (k9 := 48) (j := t) (n := 64) (f := (schG (fun t => wd (pdB v) (a + 4 * t)) fs t)) dX8_fillSchedule_58 rfl rfl rfl (by omega) (by decide) ?_
              rw [updG_up, show _ = (schG (fun t => wd (pdB v) (a + 4 * t)) fs (t + 1)) from schG_lo (w := (fun t => wd (pdB v) (a + 4 * t))) (b := fs) lt16]
              refine C.iinc (v := nI (t + 1)) (L' := [some (.ref (S 5)), some (.ref u), some (.int (nI a)), some (.int (nI (szS v.length))), some (.int (nI (t + 1))), some (.int ((fun t => wd (pdB v) (a + 4 * t)) t)), none, none, none]) dX8_fillSchedule_59 rfl (nI_1 t) (by decide) rfl rfl ?_
              refine C.goto (tgt := 3) dX8_fillSchedule_62 (by decide) ?_
              refine C.drop (i := 5) (L' := [some (.ref (S 5)), some (.ref u), some (.int (nI a)), some (.int (nI (szS v.length))), some (.int (nI (t + 1))), none, none, none, none]) rfl ?_
              exact ih_3 (t + 1) (by omega) (by omega)
            · skip
              have lt4 : i < 4 := nI_ltn (n := 4) c_19 (by omega) (by omega)
              refine C.iload dX8_fillSchedule_22 rfl ?_
              refine C.bipush (v := 8) dX8_fillSchedule_24 (by decide) ?_
              refine C.ishl dX8_fillSchedule_26 ?_
              refine C.aload_nR dX8_fillSchedule_27 rfl ?_
              refine C.iload_n dX8_fillSchedule_28 rfl ?_
              refine C.iload dX8_fillSchedule_29 rfl ?_
              refine C.iconst (v := 4) dX8_fillSchedule_31 (by decide) ?_
              refine C.imul dX8_fillSchedule_32 ?_
              rw [show (nI t) * 4 = nI (4 * t) from (by rw [Nat.mul_comm]; exact nI_mulc t 4)]
              refine C.iadd dX8_fillSchedule_33 ?_
              rw [show (nI a) + (nI (4 * t)) = nI (a + 4 * t) from nI_add _ _]
              refine C.iload dX8_fillSchedule_34 rfl ?_
              refine C.iadd dX8_fillSchedule_36 ?_
              rw [show (nI (a + 4 * t)) + (nI i) = nI (a + 4 * t + i) from nI_add _ _]
              refine C.iload_n dX8_fillSchedule_37 rfl ?_
              refine C.callS0 [.ref u, .int (nI (a + 4 * t + i)), .int (nI (szS v.length))] dX8_fillSchedule_38 mdX8_padded ssX8_padded lk_X8_54 rfl rfl rfl rfl (k_padded hS (show tV S (updG G 48 (aI 64 (schG (fun t => wd (pdB v) (a + 4 * t)) fs t))) D u v from (hT.keep (fun k a b => by simp only [updG]; rw [if_neg (by omega)]))) hv (i := a + 4 * t + i) (by omega)) ?_
              rintro _ G9 D9 ⟨rfl, e9, e8⟩
              have e9 := e9.symm; subst e9; have e8 := e8.symm; subst e8
              refine C.ior dX8_fillSchedule_41 ?_
              rw [show ((wI (pdB v) (a + 4 * t) i) <<< ((8 : Int32) &&& 31)) ||| (pdB v (a + 4 * t + i) &&& 255) = wI (pdB v) (a + 4 * t) (i + 1) from rfl]
              refine C.istore (L' := [some (.ref (S 5)), some (.ref u), some (.int (nI a)), some (.int (nI (szS v.length))), some (.int (nI t)), some (.int (wI (pdB v) (a + 4 * t) (i + 1))), some (.int (nI i)), none, none]) dX8_fillSchedule_42 (by decide) rfl rfl ?_
              refine C.iinc (v := nI (i + 1)) (L' := [some (.ref (S 5)), some (.ref u), some (.int (nI a)), some (.int (nI (szS v.length))), some (.int (nI t)), some (.int (wI (pdB v) (a + 4 * t) (i + 1))), some (.int (nI (i + 1))), none, none]) dX8_fillSchedule_44 rfl (nI_1 i) (by decide) rfl rfl ?_
              refine C.goto (tgt := 16) dX8_fillSchedule_47 (by decide) ?_
              exact ih_16 (i + 1) (by omega) (by omega)
        refine C.iconst (v := 0) dX8_fillSchedule_10 (by decide) ?_
        refine C.istore (L' := [some (.ref (S 5)), some (.ref u), some (.int (nI a)), some (.int (nI (szS v.length))), some (.int (nI t)), some (.int 0), none, none, none]) dX8_fillSchedule_11 (by decide) rfl rfl ?_
        refine C.iconst (v := 0) dX8_fillSchedule_13 (by decide) ?_
        refine C.istore (L' := [some (.ref (S 5)), some (.ref u), some (.int (nI a)), some (.int (nI (szS v.length))), some (.int (nI t)), some (.int 0), some (.int 0), none, none]) dX8_fillSchedule_14 (by decide) rfl rfl ?_
        exact cut_16 5 0 (by omega) (by omega)
  have t9 := cut_3 17 0 (by omega) (by omega)
  rw [show (schG (fun t => wd (pdB v) (a + 4 * t)) fs 0) = fs from rfl, ← h48, updG_id] at t9
  exact t9

theorem k_mixBlock {Λ : kL} {S : Nat → Nat} {G : Nat → kc} {D : kh} (hS : cInj S) (hSh : kSh Λ) (h5 : G 5 = oSh S) {fh fs : Nat → Int32} (h47 : G 47 = aI 8 fh) (h48 : G 48 = aI 64 fs) {H : List Int32} (hHl : H.length = 8) (hH : tl fh 0 8 = H) : cCt Λ mX8_mixBlock 0 0 S [.ref (S 5)] G D (fun r G' D' => ∃ h, r = none ∧ G' = updG G 47 (aI 8 h) ∧ D' = D ∧ tl h 0 8 = add8 H (rds (gD shaK) fs 64 (t8 H))) := by
  refine cCt.of hS pn_X8 [some (.ref (S 5)), none, none, none, none, none, none, none, none, none, none, none, none, none] rfl (Nat.le_of_ble_eq_true rfl) fun X => ?_
  have hH8 : tl fh 0 H.length = H := by rw [hHl]; exact hH
  obtain ⟨ra, hr1, hr2⟩ := hSh.2.2.2
  refine C.aload_nR dX8_mixBlock_0 rfl ?_
  refine C.getS (k9 := 5) (fs := [.ref (S 47), .ref (S 48), .ref (S 49)]) dX8_mixBlock_1 fl_X8_9 rfl h5 rfl ?_
  refine C.iconst (v := 0) dX8_mixBlock_4 (by decide) ?_
  refine C.ialS (k9 := 47) (j := 0) (n := 8) (f := fh) dX8_mixBlock_5 rfl h47 rfl (by decide) (by decide) ?_
  rw [show fh 0 = H.getD 0 0 from (tl_at0 hH8 (by omega))]
  refine C.istore_n (L' := [some (.ref (S 5)), some (.int (H.getD 0 0)), none, none, none, none, none, none, none, none, none, none, none, none]) dX8_mixBlock_6 (by decide) rfl rfl ?_
  refine C.aload_nR dX8_mixBlock_7 rfl ?_
  refine C.getS (k9 := 5) (fs := [.ref (S 47), .ref (S 48), .ref (S 49)]) dX8_mixBlock_8 fl_X8_9 rfl h5 rfl ?_
  refine C.iconst (v := 1) dX8_mixBlock_11 (by decide) ?_
  refine C.ialS (k9 := 47) (j := 1) (n := 8) (f := fh) dX8_mixBlock_12 rfl h47 rfl (by decide) (by decide) ?_
  rw [show fh 1 = H.getD 1 0 from (tl_at0 hH8 (by omega))]
  refine C.istore_n (L' := [some (.ref (S 5)), some (.int (H.getD 0 0)), some (.int (H.getD 1 0)), none, none, none, none, none, none, none, none, none, none, none]) dX8_mixBlock_13 (by decide) rfl rfl ?_
  refine C.aload_nR dX8_mixBlock_14 rfl ?_
  refine C.getS (k9 := 5) (fs := [.ref (S 47), .ref (S 48), .ref (S 49)]) dX8_mixBlock_15 fl_X8_9 rfl h5 rfl ?_
  refine C.iconst (v := 2) dX8_mixBlock_18 (by decide) ?_
  refine C.ialS (k9 := 47) (j := 2) (n := 8) (f := fh) dX8_mixBlock_19 rfl h47 rfl (by decide) (by decide) ?_
  rw [show fh 2 = H.getD 2 0 from (tl_at0 hH8 (by omega))]
  refine C.istore_n (L' := [some (.ref (S 5)), some (.int (H.getD 0 0)), some (.int (H.getD 1 0)), some (.int (H.getD 2 0)), none, none, none, none, none, none, none, none, none, none]) dX8_mixBlock_20 (by decide) rfl rfl ?_
  refine C.aload_nR dX8_mixBlock_21 rfl ?_
  refine C.getS (k9 := 5) (fs := [.ref (S 47), .ref (S 48), .ref (S 49)]) dX8_mixBlock_22 fl_X8_9 rfl h5 rfl ?_
  refine C.iconst (v := 3) dX8_mixBlock_25 (by decide) ?_
  refine C.ialS (k9 := 47) (j := 3) (n := 8) (f := fh) dX8_mixBlock_26 rfl h47 rfl (by decide) (by decide) ?_
  rw [show fh 3 = H.getD 3 0 from (tl_at0 hH8 (by omega))]
  refine C.istore (L' := [some (.ref (S 5)), some (.int (H.getD 0 0)), some (.int (H.getD 1 0)), some (.int (H.getD 2 0)), some (.int (H.getD 3 0)), none, none, none, none, none, none, none, none, none]) dX8_mixBlock_27 (by decide) rfl rfl ?_
  refine C.aload_nR dX8_mixBlock_29 rfl ?_
  refine C.getS (k9 := 5) (fs := [.ref (S 47), .ref (S 48), .ref (S 49)]) dX8_mixBlock_30 fl_X8_9 rfl h5 rfl ?_
  refine C.iconst (v := 4) dX8_mixBlock_33 (by decide) ?_
  refine C.ialS (k9 := 47) (j := 4) (n := 8) (f := fh) dX8_mixBlock_34 rfl h47 rfl (by decide) (by decide) ?_
  rw [show fh 4 = H.getD 4 0 from (tl_at0 hH8 (by omega))]
  refine C.istore (L' := [some (.ref (S 5)), some (.int (H.getD 0 0)), some (.int (H.getD 1 0)), some (.int (H.getD 2 0)), some (.int (H.getD 3 0)), some (.int (H.getD 4 0)), none, none, none, none, none, none, none, none]) dX8_mixBlock_35 (by decide) rfl rfl ?_
  refine C.aload_nR dX8_mixBlock_37 rfl ?_
  refine C.getS (k9 := 5) (fs := [.ref (S 47), .ref (S 48), .ref (S 49)]) dX8_mixBlock_38 fl_X8_9 rfl h5 rfl ?_
  refine C.iconst (v := 5) dX8_mixBlock_41 (by decide) ?_
  refine C.ialS (k9 := 47) (j := 5) (n := 8) (f := fh) dX8_mixBlock_42 rfl h47 rfl (by decide) (by decide) ?_
  rw [show fh 5 = H.getD 5 0 from (tl_at0 hH8 (by omega))]
  refine C.istore (L' := [some (.ref (S 5)), some (.int (H.getD 0 0)), some (.int (H.getD 1 0)), some (.int (H.getD 2 0)), some (.int (H.getD 3 0)), some (.int (H.getD 4 0)), some (.int (H.getD 5 0)), none, none, none, none, none, none, none]) dX8_mixBlock_43 (by decide) rfl rfl ?_
  refine C.aload_nR dX8_mixBlock_45 rfl ?_
  refine C.getS (k9 := 5) (fs := [.ref (S 47), .ref (S 48), .ref (S 49)]) dX8_mixBlock_46 fl_X8_9 rfl h5 rfl ?_
  refine C.bipush (v := 6) dX8_mixBlock_49 (by decide) ?_
  refine C.ialS (k9 := 47) (j := 6) (n := 8) (f := fh) dX8_mixBlock_51 rfl h47 rfl (by decide) (by decide) ?_
  rw [show fh 6 = H.getD 6 0 from (tl_at0 hH8 (by omega))]
  refine C.istore (L' := [some (.ref (S 5)), some (.int (H.getD 0 0)), some (.int (H.getD 1 0)), some (.int (H.getD 2 0)), some (.int (H.getD 3 0)), some (.int (H.getD 4 0)), some (.int (H.getD 5 0)), some (.int (H.getD 6 0)), none, none, none, none, none, none]) dX8_mixBlock_52 (by decide) rfl rfl ?_
  refine C.aload_nR dX8_mixBlock_54 rfl ?_
  refine C.getS (k9 := 5) (fs := [.ref (S 47), .ref (S 48), .ref (S 49)]) dX8_mixBlock_55 fl_X8_9 rfl h5 rfl ?_
  refine C.bipush (v := 7) dX8_mixBlock_58 (by decide) ?_
  refine C.ialS (k9 := 47) (j := 7) (n := 8) (f := fh) dX8_mixBlock_60 rfl h47 rfl (by decide) (by decide) ?_
  rw [show fh 7 = H.getD 7 0 from (tl_at0 hH8 (by omega))]
  refine C.istore (L' := [some (.ref (S 5)), some (.int (H.getD 0 0)), some (.int (H.getD 1 0)), some (.int (H.getD 2 0)), some (.int (H.getD 3 0)), some (.int (H.getD 4 0)), some (.int (H.getD 5 0)), some (.int (H.getD 6 0)), some (.int (H.getD 7 0)), none, none, none, none, none]) dX8_mixBlock_61 (by decide) rfl rfl ?_
  refine C.iconst (v := 0) dX8_mixBlock_63 (by decide) ?_
  refine C.istore (L' := [some (.ref (S 5)), some (.int (H.getD 0 0)), some (.int (H.getD 1 0)), some (.int (H.getD 2 0)), some (.int (H.getD 3 0)), some (.int (H.getD 4 0)), some (.int (H.getD 5 0)), some (.int (H.getD 6 0)), some (.int (H.getD 7 0)), some (.int 0), none, none, none, none]) dX8_mixBlock_64 (by decide) rfl rfl ?_
  have cut_66 : ∀ (k_66 : Nat) (t : Nat), (t ≤ 64) → (65 ≤ t + k_66) → C Λ X mX8_mixBlock 0 0 S (fun r G' D' => ∃ h, r = none ∧ G' = updG G 47 (aI 8 h) ∧ D' = D ∧ tl h 0 8 = add8 H (rds (gD shaK) fs 64 (t8 H))) 0 0 G D 66 [some (.ref (S 5)), some (.int ((rds (gD shaK) fs t (t8 H)).1)), some (.int ((rds (gD shaK) fs t (t8 H)).2.1)), some (.int ((rds (gD shaK) fs t (t8 H)).2.2.1)), some (.int ((rds (gD shaK) fs t (t8 H)).2.2.2.1)), some (.int ((rds (gD shaK) fs t (t8 H)).2.2.2.2.1)), some (.int ((rds (gD shaK) fs t (t8 H)).2.2.2.2.2.1)), some (.int ((rds (gD shaK) fs t (t8 H)).2.2.2.2.2.2.1)), some (.int ((rds (gD shaK) fs t (t8 H)).2.2.2.2.2.2.2)), some (.int (nI t)), none, none, none, none] [] := by
    intro k_66
    induction k_66 with
    | zero => intro t h3 h4; exact absurd h4 (by omega)
    | succ k_66 ih_66 =>
      intro t h3 h4
      refine C.iload dX8_mixBlock_66 rfl ?_
      refine C.bipush (v := 64) dX8_mixBlock_68 (by decide) ?_
      refine C.icmp_ge (tgt := 209) dX8_mixBlock_70 (by decide) (fun c_70 => ?_) (fun c_70 => ?_)
      · skip
        have e1 := nI_gen (n := 64) c_70 h3 (by omega); subst e1
        refine C.aload_nR dX8_mixBlock_209 rfl ?_
        refine C.getS (k9 := 5) (fs := [.ref (S 47), .ref (S 48), .ref (S 49)]) dX8_mixBlock_210 fl_X8_9 rfl h5 rfl ?_
        refine C.iconst (v := 0) dX8_mixBlock_213 (by decide) ?_
        refine C.dup2 dX8_mixBlock_214 rfl rfl ?_
        refine C.ialS (k9 := 47) (j := 0) (n := 8) (f := fh) dX8_mixBlock_215 rfl h47 rfl (by decide) (by decide) ?_
        rw [show fh 0 = H.getD 0 0 from (tl_at0 hH8 (by omega))]
        refine C.iload_n dX8_mixBlock_216 rfl ?_
        refine C.iadd dX8_mixBlock_217 ?_
        refine C.iasS (k9 := 47) (j := 0) (n := 8) (f := fh) dX8_mixBlock_218 rfl h47 rfl (by decide) (by decide) ?_
        rw [show upd fh 0 (H.getD 0 0 + (rds (gD shaK) fs 64 (t8 H)).1) = updl fh 0 [H.getD 0 0 + (rds (gD shaK) fs 64 (t8 H)).1] from (updl_one _ _ _).symm]
        refine C.aload_nR dX8_mixBlock_219 rfl ?_
        refine C.getS (k9 := 5) (fs := [.ref (S 47), .ref (S 48), .ref (S 49)]) dX8_mixBlock_220 fl_X8_9 rfl h5 rfl ?_
        refine C.iconst (v := 1) dX8_mixBlock_223 (by decide) ?_
        refine C.dup2 dX8_mixBlock_224 rfl rfl ?_
        refine C.ialS (k9 := 47) (j := 1) (n := 8) (f := (updl fh 0 [H.getD 0 0 + (rds (gD shaK) fs 64 (t8 H)).1])) dX8_mixBlock_225 rfl rfl rfl (by decide) (by decide) ?_
        rw [show (updl fh 0 [H.getD 0 0 + (rds (gD shaK) fs 64 (t8 H)).1]) 1 = H.getD 1 0 from ((updl_out (Or.inr (Nat.le_refl 1))).trans (tl_at0 hH8 (by omega)))]
        refine C.iload_n dX8_mixBlock_226 rfl ?_
        refine C.iadd dX8_mixBlock_227 ?_
        refine C.iasS (k9 := 47) (j := 1) (n := 8) (f := (updl fh 0 [H.getD 0 0 + (rds (gD shaK) fs 64 (t8 H)).1])) dX8_mixBlock_228 rfl rfl rfl (by decide) (by decide) ?_
        rw [updG_up, show upd (updl fh 0 [H.getD 0 0 + (rds (gD shaK) fs 64 (t8 H)).1]) 1 (H.getD 1 0 + (rds (gD shaK) fs 64 (t8 H)).2.1) = updl fh 0 [H.getD 0 0 + (rds (gD shaK) fs 64 (t8 H)).1, H.getD 1 0 + (rds (gD shaK) fs 64 (t8 H)).2.1] from updl_snoc fh 0 [H.getD 0 0 + (rds (gD shaK) fs 64 (t8 H)).1] (H.getD 1 0 + (rds (gD shaK) fs 64 (t8 H)).2.1)]
        refine C.aload_nR dX8_mixBlock_229 rfl ?_
        refine C.getS (k9 := 5) (fs := [.ref (S 47), .ref (S 48), .ref (S 49)]) dX8_mixBlock_230 fl_X8_9 rfl h5 rfl ?_
        refine C.iconst (v := 2) dX8_mixBlock_233 (by decide) ?_
        refine C.dup2 dX8_mixBlock_234 rfl rfl ?_
        refine C.ialS (k9 := 47) (j := 2) (n := 8) (f := (updl fh 0 [H.getD 0 0 + (rds (gD shaK) fs 64 (t8 H)).1, H.getD 1 0 + (rds (gD shaK) fs 64 (t8 H)).2.1])) dX8_mixBlock_235 rfl rfl rfl (by decide) (by decide) ?_
        rw [show (updl fh 0 [H.getD 0 0 + (rds (gD shaK) fs 64 (t8 H)).1, H.getD 1 0 + (rds (gD shaK) fs 64 (t8 H)).2.1]) 2 = H.getD 2 0 from ((updl_out (Or.inr (Nat.le_refl 2))).trans (tl_at0 hH8 (by omega)))]
        refine C.iload_n dX8_mixBlock_236 rfl ?_
        refine C.iadd dX8_mixBlock_237 ?_
        refine C.iasS (k9 := 47) (j := 2) (n := 8) (f := (updl fh 0 [H.getD 0 0 + (rds (gD shaK) fs 64 (t8 H)).1, H.getD 1 0 + (rds (gD shaK) fs 64 (t8 H)).2.1])) dX8_mixBlock_238 rfl rfl rfl (by decide) (by decide) ?_
        rw [updG_up, show upd (updl fh 0 [H.getD 0 0 + (rds (gD shaK) fs 64 (t8 H)).1, H.getD 1 0 + (rds (gD shaK) fs 64 (t8 H)).2.1]) 2 (H.getD 2 0 + (rds (gD shaK) fs 64 (t8 H)).2.2.1) = updl fh 0 [H.getD 0 0 + (rds (gD shaK) fs 64 (t8 H)).1, H.getD 1 0 + (rds (gD shaK) fs 64 (t8 H)).2.1, H.getD 2 0 + (rds (gD shaK) fs 64 (t8 H)).2.2.1] from updl_snoc fh 0 [H.getD 0 0 + (rds (gD shaK) fs 64 (t8 H)).1, H.getD 1 0 + (rds (gD shaK) fs 64 (t8 H)).2.1] (H.getD 2 0 + (rds (gD shaK) fs 64 (t8 H)).2.2.1)]
        refine C.aload_nR dX8_mixBlock_239 rfl ?_
        refine C.getS (k9 := 5) (fs := [.ref (S 47), .ref (S 48), .ref (S 49)]) dX8_mixBlock_240 fl_X8_9 rfl h5 rfl ?_
        refine C.iconst (v := 3) dX8_mixBlock_243 (by decide) ?_
        refine C.dup2 dX8_mixBlock_244 rfl rfl ?_
        refine C.ialS (k9 := 47) (j := 3) (n := 8) (f := (updl fh 0 [H.getD 0 0 + (rds (gD shaK) fs 64 (t8 H)).1, H.getD 1 0 + (rds (gD shaK) fs 64 (t8 H)).2.1, H.getD 2 0 + (rds (gD shaK) fs 64 (t8 H)).2.2.1])) dX8_mixBlock_245 rfl rfl rfl (by decide) (by decide) ?_
        rw [show (updl fh 0 [H.getD 0 0 + (rds (gD shaK) fs 64 (t8 H)).1, H.getD 1 0 + (rds (gD shaK) fs 64 (t8 H)).2.1, H.getD 2 0 + (rds (gD shaK) fs 64 (t8 H)).2.2.1]) 3 = H.getD 3 0 from ((updl_out (Or.inr (Nat.le_refl 3))).trans (tl_at0 hH8 (by omega)))]
        refine C.iload dX8_mixBlock_246 rfl ?_
        refine C.iadd dX8_mixBlock_248 ?_
        refine C.iasS (k9 := 47) (j := 3) (n := 8) (f := (updl fh 0 [H.getD 0 0 + (rds (gD shaK) fs 64 (t8 H)).1, H.getD 1 0 + (rds (gD shaK) fs 64 (t8 H)).2.1, H.getD 2 0 + (rds (gD shaK) fs 64 (t8 H)).2.2.1])) dX8_mixBlock_249 rfl rfl rfl (by decide) (by decide) ?_
        rw [updG_up, show upd (updl fh 0 [H.getD 0 0 + (rds (gD shaK) fs 64 (t8 H)).1, H.getD 1 0 + (rds (gD shaK) fs 64 (t8 H)).2.1, H.getD 2 0 + (rds (gD shaK) fs 64 (t8 H)).2.2.1]) 3 (H.getD 3 0 + (rds (gD shaK) fs 64 (t8 H)).2.2.2.1) = updl fh 0 [H.getD 0 0 + (rds (gD shaK) fs 64 (t8 H)).1, H.getD 1 0 + (rds (gD shaK) fs 64 (t8 H)).2.1, H.getD 2 0 + (rds (gD shaK) fs 64 (t8 H)).2.2.1, H.getD 3 0 + (rds (gD shaK) fs 64 (t8 H)).2.2.2.1] from updl_snoc fh 0 [H.getD 0 0 + (rds (gD shaK) fs 64 (t8 H)).1, H.getD 1 0 + (rds (gD shaK) fs 64 (t8 H)).2.1, H.getD 2 0 + (rds (gD shaK) fs 64 (t8 H)).2.2.1] (H.getD 3 0 + (rds (gD shaK) fs 64 (t8 H)).2.2.2.1)]
        refine C.aload_nR dX8_mixBlock_250 rfl ?_
        refine C.getS (k9 := 5) (fs := [.ref (S 47), .ref (S 48), .ref (S 49)]) dX8_mixBlock_251 fl_X8_9 rfl h5 rfl ?_
        refine C.iconst (v := 4) dX8_mixBlock_254 (by decide) ?_
        refine C.dup2 dX8_mixBlock_255 rfl rfl ?_
        refine C.ialS (k9 := 47) (j := 4) (n := 8) (f := (updl fh 0 [H.getD 0 0 + (rds (gD shaK) fs 64 (t8 H)).1, H.getD 1 0 + (rds (gD shaK) fs 64 (t8 H)).2.1, H.getD 2 0 + (rds (gD shaK) fs 64 (t8 H)).2.2.1, H.getD 3 0 + (rds (gD shaK) fs 64 (t8 H)).2.2.2.1])) dX8_mixBlock_256 rfl rfl rfl (by decide) (by decide) ?_
        rw [show (updl fh 0 [H.getD 0 0 + (rds (gD shaK) fs 64 (t8 H)).1, H.getD 1 0 + (rds (gD shaK) fs 64 (t8 H)).2.1, H.getD 2 0 + (rds (gD shaK) fs 64 (t8 H)).2.2.1, H.getD 3 0 + (rds (gD shaK) fs 64 (t8 H)).2.2.2.1]) 4 = H.getD 4 0 from ((updl_out (Or.inr (Nat.le_refl 4))).trans (tl_at0 hH8 (by omega)))]
        refine C.iload dX8_mixBlock_257 rfl ?_
        refine C.iadd dX8_mixBlock_259 ?_
        refine C.iasS (k9 := 47) (j := 4) (n := 8) (f := (updl fh 0 [H.getD 0 0 + (rds (gD shaK) fs 64 (t8 H)).1, H.getD 1 0 + (rds (gD shaK) fs 64 (t8 H)).2.1, H.getD 2 0 + (rds (gD shaK) fs 64 (t8 H)).2.2.1, H.getD 3 0 + (rds (gD shaK) fs 64 (t8 H)).2.2.2.1])) dX8_mixBlock_260 rfl rfl rfl (by decide) (by decide) ?_
        rw [updG_up, show upd (updl fh 0 [H.getD 0 0 + (rds (gD shaK) fs 64 (t8 H)).1, H.getD 1 0 + (rds (gD shaK) fs 64 (t8 H)).2.1, H.getD 2 0 + (rds (gD shaK) fs 64 (t8 H)).2.2.1, H.getD 3 0 + (rds (gD shaK) fs 64 (t8 H)).2.2.2.1]) 4 (H.getD 4 0 + (rds (gD shaK) fs 64 (t8 H)).2.2.2.2.1) = updl fh 0 [H.getD 0 0 + (rds (gD shaK) fs 64 (t8 H)).1, H.getD 1 0 + (rds (gD shaK) fs 64 (t8 H)).2.1, H.getD 2 0 + (rds (gD shaK) fs 64 (t8 H)).2.2.1, H.getD 3 0 + (rds (gD shaK) fs 64 (t8 H)).2.2.2.1, H.getD 4 0 + (rds (gD shaK) fs 64 (t8 H)).2.2.2.2.1] from updl_snoc fh 0 [H.getD 0 0 + (rds (gD shaK) fs 64 (t8 H)).1, H.getD 1 0 + (rds (gD shaK) fs 64 (t8 H)).2.1, H.getD 2 0 + (rds (gD shaK) fs 64 (t8 H)).2.2.1, H.getD 3 0 + (rds (gD shaK) fs 64 (t8 H)).2.2.2.1] (H.getD 4 0 + (rds (gD shaK) fs 64 (t8 H)).2.2.2.2.1)]
        refine C.aload_nR dX8_mixBlock_261 rfl ?_
        refine C.getS (k9 := 5) (fs := [.ref (S 47), .ref (S 48), .ref (S 49)]) dX8_mixBlock_262 fl_X8_9 rfl h5 rfl ?_
        refine C.iconst (v := 5) dX8_mixBlock_265 (by decide) ?_
        refine C.dup2 dX8_mixBlock_266 rfl rfl ?_
        refine C.ialS (k9 := 47) (j := 5) (n := 8) (f := (updl fh 0 [H.getD 0 0 + (rds (gD shaK) fs 64 (t8 H)).1, H.getD 1 0 + (rds (gD shaK) fs 64 (t8 H)).2.1, H.getD 2 0 + (rds (gD shaK) fs 64 (t8 H)).2.2.1, H.getD 3 0 + (rds (gD shaK) fs 64 (t8 H)).2.2.2.1, H.getD 4 0 + (rds (gD shaK) fs 64 (t8 H)).2.2.2.2.1])) dX8_mixBlock_267 rfl rfl rfl (by decide) (by decide) ?_
        rw [show (updl fh 0 [H.getD 0 0 + (rds (gD shaK) fs 64 (t8 H)).1, H.getD 1 0 + (rds (gD shaK) fs 64 (t8 H)).2.1, H.getD 2 0 + (rds (gD shaK) fs 64 (t8 H)).2.2.1, H.getD 3 0 + (rds (gD shaK) fs 64 (t8 H)).2.2.2.1, H.getD 4 0 + (rds (gD shaK) fs 64 (t8 H)).2.2.2.2.1]) 5 = H.getD 5 0 from ((updl_out (Or.inr (Nat.le_refl 5))).trans (tl_at0 hH8 (by omega)))]
        refine C.iload dX8_mixBlock_268 rfl ?_
        refine C.iadd dX8_mixBlock_270 ?_
        refine C.iasS (k9 := 47) (j := 5) (n := 8) (f := (updl fh 0 [H.getD 0 0 + (rds (gD shaK) fs 64 (t8 H)).1, H.getD 1 0 + (rds (gD shaK) fs 64 (t8 H)).2.1, H.getD 2 0 + (rds (gD shaK) fs 64 (t8 H)).2.2.1, H.getD 3 0 + (rds (gD shaK) fs 64 (t8 H)).2.2.2.1, H.getD 4 0 + (rds (gD shaK) fs 64 (t8 H)).2.2.2.2.1])) dX8_mixBlock_271 rfl rfl rfl (by decide) (by decide) ?_
        rw [updG_up, show upd (updl fh 0 [H.getD 0 0 + (rds (gD shaK) fs 64 (t8 H)).1, H.getD 1 0 + (rds (gD shaK) fs 64 (t8 H)).2.1, H.getD 2 0 + (rds (gD shaK) fs 64 (t8 H)).2.2.1, H.getD 3 0 + (rds (gD shaK) fs 64 (t8 H)).2.2.2.1, H.getD 4 0 + (rds (gD shaK) fs 64 (t8 H)).2.2.2.2.1]) 5 (H.getD 5 0 + (rds (gD shaK) fs 64 (t8 H)).2.2.2.2.2.1) = updl fh 0 [H.getD 0 0 + (rds (gD shaK) fs 64 (t8 H)).1, H.getD 1 0 + (rds (gD shaK) fs 64 (t8 H)).2.1, H.getD 2 0 + (rds (gD shaK) fs 64 (t8 H)).2.2.1, H.getD 3 0 + (rds (gD shaK) fs 64 (t8 H)).2.2.2.1, H.getD 4 0 + (rds (gD shaK) fs 64 (t8 H)).2.2.2.2.1, H.getD 5 0 + (rds (gD shaK) fs 64 (t8 H)).2.2.2.2.2.1] from updl_snoc fh 0 [H.getD 0 0 + (rds (gD shaK) fs 64 (t8 H)).1, H.getD 1 0 + (rds (gD shaK) fs 64 (t8 H)).2.1, H.getD 2 0 + (rds (gD shaK) fs 64 (t8 H)).2.2.1, H.getD 3 0 + (rds (gD shaK) fs 64 (t8 H)).2.2.2.1, H.getD 4 0 + (rds (gD shaK) fs 64 (t8 H)).2.2.2.2.1] (H.getD 5 0 + (rds (gD shaK) fs 64 (t8 H)).2.2.2.2.2.1)]
        refine C.aload_nR dX8_mixBlock_272 rfl ?_
        refine C.getS (k9 := 5) (fs := [.ref (S 47), .ref (S 48), .ref (S 49)]) dX8_mixBlock_273 fl_X8_9 rfl h5 rfl ?_
        refine C.bipush (v := 6) dX8_mixBlock_276 (by decide) ?_
        refine C.dup2 dX8_mixBlock_278 rfl rfl ?_
        refine C.ialS (k9 := 47) (j := 6) (n := 8) (f := (updl fh 0 [H.getD 0 0 + (rds (gD shaK) fs 64 (t8 H)).1, H.getD 1 0 + (rds (gD shaK) fs 64 (t8 H)).2.1, H.getD 2 0 + (rds (gD shaK) fs 64 (t8 H)).2.2.1, H.getD 3 0 + (rds (gD shaK) fs 64 (t8 H)).2.2.2.1, H.getD 4 0 + (rds (gD shaK) fs 64 (t8 H)).2.2.2.2.1, H.getD 5 0 + (rds (gD shaK) fs 64 (t8 H)).2.2.2.2.2.1])) dX8_mixBlock_279 rfl rfl rfl (by decide) (by decide) ?_
        rw [show (updl fh 0 [H.getD 0 0 + (rds (gD shaK) fs 64 (t8 H)).1, H.getD 1 0 + (rds (gD shaK) fs 64 (t8 H)).2.1, H.getD 2 0 + (rds (gD shaK) fs 64 (t8 H)).2.2.1, H.getD 3 0 + (rds (gD shaK) fs 64 (t8 H)).2.2.2.1, H.getD 4 0 + (rds (gD shaK) fs 64 (t8 H)).2.2.2.2.1, H.getD 5 0 + (rds (gD shaK) fs 64 (t8 H)).2.2.2.2.2.1]) 6 = H.getD 6 0 from ((updl_out (Or.inr (Nat.le_refl 6))).trans (tl_at0 hH8 (by omega)))]
        refine C.iload dX8_mixBlock_280 rfl ?_
        refine C.iadd dX8_mixBlock_282 ?_
        refine C.iasS (k9 := 47) (j := 6) (n := 8) (f := (updl fh 0 [H.getD 0 0 + (rds (gD shaK) fs 64 (t8 H)).1, H.getD 1 0 + (rds (gD shaK) fs 64 (t8 H)).2.1, H.getD 2 0 + (rds (gD shaK) fs 64 (t8 H)).2.2.1, H.getD 3 0 + (rds (gD shaK) fs 64 (t8 H)).2.2.2.1, H.getD 4 0 + (rds (gD shaK) fs 64 (t8 H)).2.2.2.2.1, H.getD 5 0 + (rds (gD shaK) fs 64 (t8 H)).2.2.2.2.2.1])) dX8_mixBlock_283 rfl rfl rfl (by decide) (by decide) ?_
        rw [updG_up, show upd (updl fh 0 [H.getD 0 0 + (rds (gD shaK) fs 64 (t8 H)).1, H.getD 1 0 + (rds (gD shaK) fs 64 (t8 H)).2.1, H.getD 2 0 + (rds (gD shaK) fs 64 (t8 H)).2.2.1, H.getD 3 0 + (rds (gD shaK) fs 64 (t8 H)).2.2.2.1, H.getD 4 0 + (rds (gD shaK) fs 64 (t8 H)).2.2.2.2.1, H.getD 5 0 + (rds (gD shaK) fs 64 (t8 H)).2.2.2.2.2.1]) 6 (H.getD 6 0 + (rds (gD shaK) fs 64 (t8 H)).2.2.2.2.2.2.1) = updl fh 0 [H.getD 0 0 + (rds (gD shaK) fs 64 (t8 H)).1, H.getD 1 0 + (rds (gD shaK) fs 64 (t8 H)).2.1, H.getD 2 0 + (rds (gD shaK) fs 64 (t8 H)).2.2.1, H.getD 3 0 + (rds (gD shaK) fs 64 (t8 H)).2.2.2.1, H.getD 4 0 + (rds (gD shaK) fs 64 (t8 H)).2.2.2.2.1, H.getD 5 0 + (rds (gD shaK) fs 64 (t8 H)).2.2.2.2.2.1, H.getD 6 0 + (rds (gD shaK) fs 64 (t8 H)).2.2.2.2.2.2.1] from updl_snoc fh 0 [H.getD 0 0 + (rds (gD shaK) fs 64 (t8 H)).1, H.getD 1 0 + (rds (gD shaK) fs 64 (t8 H)).2.1, H.getD 2 0 + (rds (gD shaK) fs 64 (t8 H)).2.2.1, H.getD 3 0 + (rds (gD shaK) fs 64 (t8 H)).2.2.2.1, H.getD 4 0 + (rds (gD shaK) fs 64 (t8 H)).2.2.2.2.1, H.getD 5 0 + (rds (gD shaK) fs 64 (t8 H)).2.2.2.2.2.1] (H.getD 6 0 + (rds (gD shaK) fs 64 (t8 H)).2.2.2.2.2.2.1)]
        refine C.aload_nR dX8_mixBlock_284 rfl ?_
        refine C.getS (k9 := 5) (fs := [.ref (S 47), .ref (S 48), .ref (S 49)]) dX8_mixBlock_285 fl_X8_9 rfl h5 rfl ?_
        refine C.bipush (v := 7) dX8_mixBlock_288 (by decide) ?_
        refine C.dup2 dX8_mixBlock_290 rfl rfl ?_
        refine C.ialS (k9 := 47) (j := 7) (n := 8) (f := (updl fh 0 [H.getD 0 0 + (rds (gD shaK) fs 64 (t8 H)).1, H.getD 1 0 + (rds (gD shaK) fs 64 (t8 H)).2.1, H.getD 2 0 + (rds (gD shaK) fs 64 (t8 H)).2.2.1, H.getD 3 0 + (rds (gD shaK) fs 64 (t8 H)).2.2.2.1, H.getD 4 0 + (rds (gD shaK) fs 64 (t8 H)).2.2.2.2.1, H.getD 5 0 + (rds (gD shaK) fs 64 (t8 H)).2.2.2.2.2.1, H.getD 6 0 + (rds (gD shaK) fs 64 (t8 H)).2.2.2.2.2.2.1])) dX8_mixBlock_291 rfl rfl rfl (by decide) (by decide) ?_
        rw [show (updl fh 0 [H.getD 0 0 + (rds (gD shaK) fs 64 (t8 H)).1, H.getD 1 0 + (rds (gD shaK) fs 64 (t8 H)).2.1, H.getD 2 0 + (rds (gD shaK) fs 64 (t8 H)).2.2.1, H.getD 3 0 + (rds (gD shaK) fs 64 (t8 H)).2.2.2.1, H.getD 4 0 + (rds (gD shaK) fs 64 (t8 H)).2.2.2.2.1, H.getD 5 0 + (rds (gD shaK) fs 64 (t8 H)).2.2.2.2.2.1, H.getD 6 0 + (rds (gD shaK) fs 64 (t8 H)).2.2.2.2.2.2.1]) 7 = H.getD 7 0 from ((updl_out (Or.inr (Nat.le_refl 7))).trans (tl_at0 hH8 (by omega)))]
        refine C.iload dX8_mixBlock_292 rfl ?_
        refine C.iadd dX8_mixBlock_294 ?_
        refine C.iasS (k9 := 47) (j := 7) (n := 8) (f := (updl fh 0 [H.getD 0 0 + (rds (gD shaK) fs 64 (t8 H)).1, H.getD 1 0 + (rds (gD shaK) fs 64 (t8 H)).2.1, H.getD 2 0 + (rds (gD shaK) fs 64 (t8 H)).2.2.1, H.getD 3 0 + (rds (gD shaK) fs 64 (t8 H)).2.2.2.1, H.getD 4 0 + (rds (gD shaK) fs 64 (t8 H)).2.2.2.2.1, H.getD 5 0 + (rds (gD shaK) fs 64 (t8 H)).2.2.2.2.2.1, H.getD 6 0 + (rds (gD shaK) fs 64 (t8 H)).2.2.2.2.2.2.1])) dX8_mixBlock_295 rfl rfl rfl (by decide) (by decide) ?_
        rw [updG_up, show upd (updl fh 0 [H.getD 0 0 + (rds (gD shaK) fs 64 (t8 H)).1, H.getD 1 0 + (rds (gD shaK) fs 64 (t8 H)).2.1, H.getD 2 0 + (rds (gD shaK) fs 64 (t8 H)).2.2.1, H.getD 3 0 + (rds (gD shaK) fs 64 (t8 H)).2.2.2.1, H.getD 4 0 + (rds (gD shaK) fs 64 (t8 H)).2.2.2.2.1, H.getD 5 0 + (rds (gD shaK) fs 64 (t8 H)).2.2.2.2.2.1, H.getD 6 0 + (rds (gD shaK) fs 64 (t8 H)).2.2.2.2.2.2.1]) 7 (H.getD 7 0 + (rds (gD shaK) fs 64 (t8 H)).2.2.2.2.2.2.2) = updl fh 0 [H.getD 0 0 + (rds (gD shaK) fs 64 (t8 H)).1, H.getD 1 0 + (rds (gD shaK) fs 64 (t8 H)).2.1, H.getD 2 0 + (rds (gD shaK) fs 64 (t8 H)).2.2.1, H.getD 3 0 + (rds (gD shaK) fs 64 (t8 H)).2.2.2.1, H.getD 4 0 + (rds (gD shaK) fs 64 (t8 H)).2.2.2.2.1, H.getD 5 0 + (rds (gD shaK) fs 64 (t8 H)).2.2.2.2.2.1, H.getD 6 0 + (rds (gD shaK) fs 64 (t8 H)).2.2.2.2.2.2.1, H.getD 7 0 + (rds (gD shaK) fs 64 (t8 H)).2.2.2.2.2.2.2] from updl_snoc fh 0 [H.getD 0 0 + (rds (gD shaK) fs 64 (t8 H)).1, H.getD 1 0 + (rds (gD shaK) fs 64 (t8 H)).2.1, H.getD 2 0 + (rds (gD shaK) fs 64 (t8 H)).2.2.1, H.getD 3 0 + (rds (gD shaK) fs 64 (t8 H)).2.2.2.1, H.getD 4 0 + (rds (gD shaK) fs 64 (t8 H)).2.2.2.2.1, H.getD 5 0 + (rds (gD shaK) fs 64 (t8 H)).2.2.2.2.2.1, H.getD 6 0 + (rds (gD shaK) fs 64 (t8 H)).2.2.2.2.2.2.1] (H.getD 7 0 + (rds (gD shaK) fs 64 (t8 H)).2.2.2.2.2.2.2)]
        refine C.vret dX8_mixBlock_296 rfl ?_
        refine ⟨_, rfl, rfl, rfl, ?_⟩
        exact tl_in (f := fh) (i := 0) (l := add8 H (rds (gD shaK) fs 64 (t8 H)))
      · skip
        have lt_t : t < 64 := nI_ltn (n := 64) c_70 (by omega) (by omega)
        refine C.iload dX8_mixBlock_73 rfl ?_
        refine C.bipush (v := 6) dX8_mixBlock_75 (by decide) ?_
        refine C.callS0 [.int ((rds (gD shaK) fs t (t8 H)).2.2.2.2.1), .int 6] dX8_mixBlock_77 mdX8_rotate ssX8_rotate lk_X8_58 rfl rfl rfl rfl (cCt.w0 (R := fun r => r = some (.int (rotr ((rds (gD shaK) fs t (t8 H)).2.2.2.2.1) 6))) fun σ9 h9 => c_rotate ((rds (gD shaK) fs t (t8 H)).2.2.2.2.1) 6) ?_
        rintro _ G9 D9 ⟨rfl, e9, e8⟩
        have e9 := e9.symm; subst e9; have e8 := e8.symm; subst e8
        refine C.iload dX8_mixBlock_80 rfl ?_
        refine C.bipush (v := 11) dX8_mixBlock_82 (by decide) ?_
        refine C.callS0 [.int ((rds (gD shaK) fs t (t8 H)).2.2.2.2.1), .int 11] dX8_mixBlock_84 mdX8_rotate ssX8_rotate lk_X8_58 rfl rfl rfl rfl (cCt.w0 (R := fun r => r = some (.int (rotr ((rds (gD shaK) fs t (t8 H)).2.2.2.2.1) 11))) fun σ9 h9 => c_rotate ((rds (gD shaK) fs t (t8 H)).2.2.2.2.1) 11) ?_
        rintro _ G9 D9 ⟨rfl, e9, e8⟩
        have e9 := e9.symm; subst e9; have e8 := e8.symm; subst e8
        refine C.ixor dX8_mixBlock_87 ?_
        refine C.iload dX8_mixBlock_88 rfl ?_
        refine C.bipush (v := 25) dX8_mixBlock_90 (by decide) ?_
        refine C.callS0 [.int ((rds (gD shaK) fs t (t8 H)).2.2.2.2.1), .int 25] dX8_mixBlock_92 mdX8_rotate ssX8_rotate lk_X8_58 rfl rfl rfl rfl (cCt.w0 (R := fun r => r = some (.int (rotr ((rds (gD shaK) fs t (t8 H)).2.2.2.2.1) 25))) fun σ9 h9 => c_rotate ((rds (gD shaK) fs t (t8 H)).2.2.2.2.1) 25) ?_
        rintro _ G9 D9 ⟨rfl, e9, e8⟩
        have e9 := e9.symm; subst e9; have e8 := e8.symm; subst e8
        refine C.ixor dX8_mixBlock_95 ?_
        refine C.istore (L' := [some (.ref (S 5)), some (.int ((rds (gD shaK) fs t (t8 H)).1)), some (.int ((rds (gD shaK) fs t (t8 H)).2.1)), some (.int ((rds (gD shaK) fs t (t8 H)).2.2.1)), some (.int ((rds (gD shaK) fs t (t8 H)).2.2.2.1)), some (.int ((rds (gD shaK) fs t (t8 H)).2.2.2.2.1)), some (.int ((rds (gD shaK) fs t (t8 H)).2.2.2.2.2.1)), some (.int ((rds (gD shaK) fs t (t8 H)).2.2.2.2.2.2.1)), some (.int ((rds (gD shaK) fs t (t8 H)).2.2.2.2.2.2.2)), some (.int (nI t)), some (.int (((rotr ((rds (gD shaK) fs t (t8 H)).2.2.2.2.1) 6) ^^^ (rotr ((rds (gD shaK) fs t (t8 H)).2.2.2.2.1) 11)) ^^^ (rotr ((rds (gD shaK) fs t (t8 H)).2.2.2.2.1) 25))), none, none, none]) dX8_mixBlock_96 (by decide) rfl rfl ?_
        refine C.iload dX8_mixBlock_98 rfl ?_
        refine C.iload dX8_mixBlock_100 rfl ?_
        refine C.iadd dX8_mixBlock_102 ?_
        refine C.iload dX8_mixBlock_103 rfl ?_
        refine C.iload dX8_mixBlock_105 rfl ?_
        refine C.iand dX8_mixBlock_107 ?_
        refine C.iload dX8_mixBlock_108 rfl ?_
        refine C.iconst (v := (-1)) dX8_mixBlock_110 (by decide) ?_
        refine C.ixor dX8_mixBlock_111 ?_
        refine C.iload dX8_mixBlock_112 rfl ?_
        refine C.iand dX8_mixBlock_114 ?_
        refine C.ixor dX8_mixBlock_115 ?_
        refine C.iadd dX8_mixBlock_116 ?_
        refine C.getsC dX8_mixBlock_117 hr1 fw_X8_66 ?_
        refine C.iload dX8_mixBlock_120 rfl ?_
        refine C.ti (j := t) dX8_mixBlock_122 hr2 rfl lt_t (by decide) ?_
        refine C.iadd dX8_mixBlock_123 ?_
        refine C.aload_nR dX8_mixBlock_124 rfl ?_
        refine C.getS (k9 := 5) (fs := [.ref (S 47), .ref (S 48), .ref (S 49)]) dX8_mixBlock_125 fl_X8_15 rfl h5 rfl ?_
        refine C.iload dX8_mixBlock_128 rfl ?_
        refine C.ialS (k9 := 48) (j := t) (n := 64) (f := fs) dX8_mixBlock_130 rfl h48 rfl lt_t (by decide) ?_
        refine C.iadd dX8_mixBlock_131 ?_
        rw [show (((((rds (gD shaK) fs t (t8 H)).2.2.2.2.2.2.2) + (((rotr ((rds (gD shaK) fs t (t8 H)).2.2.2.2.1) 6) ^^^ (rotr ((rds (gD shaK) fs t (t8 H)).2.2.2.2.1) 11)) ^^^ (rotr ((rds (gD shaK) fs t (t8 H)).2.2.2.2.1) 25))) + ((((rds (gD shaK) fs t (t8 H)).2.2.2.2.1) &&& ((rds (gD shaK) fs t (t8 H)).2.2.2.2.2.1)) ^^^ ((((rds (gD shaK) fs t (t8 H)).2.2.2.2.1) ^^^ (-1)) &&& ((rds (gD shaK) fs t (t8 H)).2.2.2.2.2.2.1)))) + (gD shaK t)) + (fs t) = one8 (gD shaK t) (fs t) (rds (gD shaK) fs t (t8 H)) from rfl]
        refine C.istore (L' := [some (.ref (S 5)), some (.int ((rds (gD shaK) fs t (t8 H)).1)), some (.int ((rds (gD shaK) fs t (t8 H)).2.1)), some (.int ((rds (gD shaK) fs t (t8 H)).2.2.1)), some (.int ((rds (gD shaK) fs t (t8 H)).2.2.2.1)), some (.int ((rds (gD shaK) fs t (t8 H)).2.2.2.2.1)), some (.int ((rds (gD shaK) fs t (t8 H)).2.2.2.2.2.1)), some (.int ((rds (gD shaK) fs t (t8 H)).2.2.2.2.2.2.1)), some (.int ((rds (gD shaK) fs t (t8 H)).2.2.2.2.2.2.2)), some (.int (nI t)), some (.int (((rotr ((rds (gD shaK) fs t (t8 H)).2.2.2.2.1) 6) ^^^ (rotr ((rds (gD shaK) fs t (t8 H)).2.2.2.2.1) 11)) ^^^ (rotr ((rds (gD shaK) fs t (t8 H)).2.2.2.2.1) 25))), some (.int (one8 (gD shaK t) (fs t) (rds (gD shaK) fs t (t8 H)))), none, none]) dX8_mixBlock_132 (by decide) rfl rfl ?_
        refine C.iload_n dX8_mixBlock_134 rfl ?_
        refine C.iconst (v := 2) dX8_mixBlock_135 (by decide) ?_
        refine C.callS0 [.int ((rds (gD shaK) fs t (t8 H)).1), .int 2] dX8_mixBlock_136 mdX8_rotate ssX8_rotate lk_X8_58 rfl rfl rfl rfl (cCt.w0 (R := fun r => r = some (.int (rotr ((rds (gD shaK) fs t (t8 H)).1) 2))) fun σ9 h9 => c_rotate ((rds (gD shaK) fs t (t8 H)).1) 2) ?_
        rintro _ G9 D9 ⟨rfl, e9, e8⟩
        have e9 := e9.symm; subst e9; have e8 := e8.symm; subst e8
        refine C.iload_n dX8_mixBlock_139 rfl ?_
        refine C.bipush (v := 13) dX8_mixBlock_140 (by decide) ?_
        refine C.callS0 [.int ((rds (gD shaK) fs t (t8 H)).1), .int 13] dX8_mixBlock_142 mdX8_rotate ssX8_rotate lk_X8_58 rfl rfl rfl rfl (cCt.w0 (R := fun r => r = some (.int (rotr ((rds (gD shaK) fs t (t8 H)).1) 13))) fun σ9 h9 => c_rotate ((rds (gD shaK) fs t (t8 H)).1) 13) ?_
        rintro _ G9 D9 ⟨rfl, e9, e8⟩
        have e9 := e9.symm; subst e9; have e8 := e8.symm; subst e8
        refine C.ixor dX8_mixBlock_145 ?_
        refine C.iload_n dX8_mixBlock_146 rfl ?_
        refine C.bipush (v := 22) dX8_mixBlock_147 (by decide) ?_
        refine C.callS0 [.int ((rds (gD shaK) fs t (t8 H)).1), .int 22] dX8_mixBlock_149 mdX8_rotate ssX8_rotate lk_X8_58 rfl rfl rfl rfl (cCt.w0 (R := fun r => r = some (.int (rotr ((rds (gD shaK) fs t (t8 H)).1) 22))) fun σ9 h9 => c_rotate ((rds (gD shaK) fs t (t8 H)).1) 22) ?_
        rintro _ G9 D9 ⟨rfl, e9, e8⟩
        have e9 := e9.symm; subst e9; have e8 := e8.symm; subst e8
        refine C.ixor dX8_mixBlock_152 ?_
        refine C.istore (L' := [some (.ref (S 5)), some (.int ((rds (gD shaK) fs t (t8 H)).1)), some (.int ((rds (gD shaK) fs t (t8 H)).2.1)), some (.int ((rds (gD shaK) fs t (t8 H)).2.2.1)), some (.int ((rds (gD shaK) fs t (t8 H)).2.2.2.1)), some (.int ((rds (gD shaK) fs t (t8 H)).2.2.2.2.1)), some (.int ((rds (gD shaK) fs t (t8 H)).2.2.2.2.2.1)), some (.int ((rds (gD shaK) fs t (t8 H)).2.2.2.2.2.2.1)), some (.int ((rds (gD shaK) fs t (t8 H)).2.2.2.2.2.2.2)), some (.int (nI t)), some (.int (((rotr ((rds (gD shaK) fs t (t8 H)).2.2.2.2.1) 6) ^^^ (rotr ((rds (gD shaK) fs t (t8 H)).2.2.2.2.1) 11)) ^^^ (rotr ((rds (gD shaK) fs t (t8 H)).2.2.2.2.1) 25))), some (.int (one8 (gD shaK t) (fs t) (rds (gD shaK) fs t (t8 H)))), some (.int (((rotr ((rds (gD shaK) fs t (t8 H)).1) 2) ^^^ (rotr ((rds (gD shaK) fs t (t8 H)).1) 13)) ^^^ (rotr ((rds (gD shaK) fs t (t8 H)).1) 22))), none]) dX8_mixBlock_153 (by decide) rfl rfl ?_
        refine C.iload dX8_mixBlock_155 rfl ?_
        refine C.iload_n dX8_mixBlock_157 rfl ?_
        refine C.iload_n dX8_mixBlock_158 rfl ?_
        refine C.iand dX8_mixBlock_159 ?_
        refine C.iload_n dX8_mixBlock_160 rfl ?_
        refine C.iload_n dX8_mixBlock_161 rfl ?_
        refine C.iand dX8_mixBlock_162 ?_
        refine C.ixor dX8_mixBlock_163 ?_
        refine C.iload_n dX8_mixBlock_164 rfl ?_
        refine C.iload_n dX8_mixBlock_165 rfl ?_
        refine C.iand dX8_mixBlock_166 ?_
        refine C.ixor dX8_mixBlock_167 ?_
        refine C.iadd dX8_mixBlock_168 ?_
        rw [show (((rotr ((rds (gD shaK) fs t (t8 H)).1) 2) ^^^ (rotr ((rds (gD shaK) fs t (t8 H)).1) 13)) ^^^ (rotr ((rds (gD shaK) fs t (t8 H)).1) 22)) + (((((rds (gD shaK) fs t (t8 H)).1) &&& ((rds (gD shaK) fs t (t8 H)).2.1)) ^^^ (((rds (gD shaK) fs t (t8 H)).1) &&& ((rds (gD shaK) fs t (t8 H)).2.2.1))) ^^^ (((rds (gD shaK) fs t (t8 H)).2.1) &&& ((rds (gD shaK) fs t (t8 H)).2.2.1))) = two8 (rds (gD shaK) fs t (t8 H)) from rfl]
        refine C.istore (L' := [some (.ref (S 5)), some (.int ((rds (gD shaK) fs t (t8 H)).1)), some (.int ((rds (gD shaK) fs t (t8 H)).2.1)), some (.int ((rds (gD shaK) fs t (t8 H)).2.2.1)), some (.int ((rds (gD shaK) fs t (t8 H)).2.2.2.1)), some (.int ((rds (gD shaK) fs t (t8 H)).2.2.2.2.1)), some (.int ((rds (gD shaK) fs t (t8 H)).2.2.2.2.2.1)), some (.int ((rds (gD shaK) fs t (t8 H)).2.2.2.2.2.2.1)), some (.int ((rds (gD shaK) fs t (t8 H)).2.2.2.2.2.2.2)), some (.int (nI t)), some (.int (((rotr ((rds (gD shaK) fs t (t8 H)).2.2.2.2.1) 6) ^^^ (rotr ((rds (gD shaK) fs t (t8 H)).2.2.2.2.1) 11)) ^^^ (rotr ((rds (gD shaK) fs t (t8 H)).2.2.2.2.1) 25))), some (.int (one8 (gD shaK t) (fs t) (rds (gD shaK) fs t (t8 H)))), some (.int (((rotr ((rds (gD shaK) fs t (t8 H)).1) 2) ^^^ (rotr ((rds (gD shaK) fs t (t8 H)).1) 13)) ^^^ (rotr ((rds (gD shaK) fs t (t8 H)).1) 22))), some (.int (two8 (rds (gD shaK) fs t (t8 H))))]) dX8_mixBlock_169 (by decide) rfl rfl ?_
        refine C.iload dX8_mixBlock_171 rfl ?_
        refine C.istore (L' := [some (.ref (S 5)), some (.int ((rds (gD shaK) fs t (t8 H)).1)), some (.int ((rds (gD shaK) fs t (t8 H)).2.1)), some (.int ((rds (gD shaK) fs t (t8 H)).2.2.1)), some (.int ((rds (gD shaK) fs t (t8 H)).2.2.2.1)), some (.int ((rds (gD shaK) fs t (t8 H)).2.2.2.2.1)), some (.int ((rds (gD shaK) fs t (t8 H)).2.2.2.2.2.1)), some (.int ((rds (gD shaK) fs t (t8 H)).2.2.2.2.2.2.1)), some (.int ((rds (gD shaK) fs t (t8 H)).2.2.2.2.2.2.1)), some (.int (nI t)), some (.int (((rotr ((rds (gD shaK) fs t (t8 H)).2.2.2.2.1) 6) ^^^ (rotr ((rds (gD shaK) fs t (t8 H)).2.2.2.2.1) 11)) ^^^ (rotr ((rds (gD shaK) fs t (t8 H)).2.2.2.2.1) 25))), some (.int (one8 (gD shaK t) (fs t) (rds (gD shaK) fs t (t8 H)))), some (.int (((rotr ((rds (gD shaK) fs t (t8 H)).1) 2) ^^^ (rotr ((rds (gD shaK) fs t (t8 H)).1) 13)) ^^^ (rotr ((rds (gD shaK) fs t (t8 H)).1) 22))), some (.int (two8 (rds (gD shaK) fs t (t8 H))))]) dX8_mixBlock_173 (by decide) rfl rfl ?_
        refine C.iload dX8_mixBlock_175 rfl ?_
        refine C.istore (L' := [some (.ref (S 5)), some (.int ((rds (gD shaK) fs t (t8 H)).1)), some (.int ((rds (gD shaK) fs t (t8 H)).2.1)), some (.int ((rds (gD shaK) fs t (t8 H)).2.2.1)), some (.int ((rds (gD shaK) fs t (t8 H)).2.2.2.1)), some (.int ((rds (gD shaK) fs t (t8 H)).2.2.2.2.1)), some (.int ((rds (gD shaK) fs t (t8 H)).2.2.2.2.2.1)), some (.int ((rds (gD shaK) fs t (t8 H)).2.2.2.2.2.1)), some (.int ((rds (gD shaK) fs t (t8 H)).2.2.2.2.2.2.1)), some (.int (nI t)), some (.int (((rotr ((rds (gD shaK) fs t (t8 H)).2.2.2.2.1) 6) ^^^ (rotr ((rds (gD shaK) fs t (t8 H)).2.2.2.2.1) 11)) ^^^ (rotr ((rds (gD shaK) fs t (t8 H)).2.2.2.2.1) 25))), some (.int (one8 (gD shaK t) (fs t) (rds (gD shaK) fs t (t8 H)))), some (.int (((rotr ((rds (gD shaK) fs t (t8 H)).1) 2) ^^^ (rotr ((rds (gD shaK) fs t (t8 H)).1) 13)) ^^^ (rotr ((rds (gD shaK) fs t (t8 H)).1) 22))), some (.int (two8 (rds (gD shaK) fs t (t8 H))))]) dX8_mixBlock_177 (by decide) rfl rfl ?_
        refine C.iload dX8_mixBlock_179 rfl ?_
        refine C.istore (L' := [some (.ref (S 5)), some (.int ((rds (gD shaK) fs t (t8 H)).1)), some (.int ((rds (gD shaK) fs t (t8 H)).2.1)), some (.int ((rds (gD shaK) fs t (t8 H)).2.2.1)), some (.int ((rds (gD shaK) fs t (t8 H)).2.2.2.1)), some (.int ((rds (gD shaK) fs t (t8 H)).2.2.2.2.1)), some (.int ((rds (gD shaK) fs t (t8 H)).2.2.2.2.1)), some (.int ((rds (gD shaK) fs t (t8 H)).2.2.2.2.2.1)), some (.int ((rds (gD shaK) fs t (t8 H)).2.2.2.2.2.2.1)), some (.int (nI t)), some (.int (((rotr ((rds (gD shaK) fs t (t8 H)).2.2.2.2.1) 6) ^^^ (rotr ((rds (gD shaK) fs t (t8 H)).2.2.2.2.1) 11)) ^^^ (rotr ((rds (gD shaK) fs t (t8 H)).2.2.2.2.1) 25))), some (.int (one8 (gD shaK t) (fs t) (rds (gD shaK) fs t (t8 H)))), some (.int (((rotr ((rds (gD shaK) fs t (t8 H)).1) 2) ^^^ (rotr ((rds (gD shaK) fs t (t8 H)).1) 13)) ^^^ (rotr ((rds (gD shaK) fs t (t8 H)).1) 22))), some (.int (two8 (rds (gD shaK) fs t (t8 H))))]) dX8_mixBlock_181 (by decide) rfl rfl ?_
        refine C.iload dX8_mixBlock_183 rfl ?_
        refine C.iload dX8_mixBlock_185 rfl ?_
        refine C.iadd dX8_mixBlock_187 ?_
        refine C.istore (L' := [some (.ref (S 5)), some (.int ((rds (gD shaK) fs t (t8 H)).1)), some (.int ((rds (gD shaK) fs t (t8 H)).2.1)), some (.int ((rds (gD shaK) fs t (t8 H)).2.2.1)), some (.int ((rds (gD shaK) fs t (t8 H)).2.2.2.1)), some (.int (((rds (gD shaK) fs t (t8 H)).2.2.2.1) + (one8 (gD shaK t) (fs t) (rds (gD shaK) fs t (t8 H))))), some (.int ((rds (gD shaK) fs t (t8 H)).2.2.2.2.1)), some (.int ((rds (gD shaK) fs t (t8 H)).2.2.2.2.2.1)), some (.int ((rds (gD shaK) fs t (t8 H)).2.2.2.2.2.2.1)), some (.int (nI t)), some (.int (((rotr ((rds (gD shaK) fs t (t8 H)).2.2.2.2.1) 6) ^^^ (rotr ((rds (gD shaK) fs t (t8 H)).2.2.2.2.1) 11)) ^^^ (rotr ((rds (gD shaK) fs t (t8 H)).2.2.2.2.1) 25))), some (.int (one8 (gD shaK t) (fs t) (rds (gD shaK) fs t (t8 H)))), some (.int (((rotr ((rds (gD shaK) fs t (t8 H)).1) 2) ^^^ (rotr ((rds (gD shaK) fs t (t8 H)).1) 13)) ^^^ (rotr ((rds (gD shaK) fs t (t8 H)).1) 22))), some (.int (two8 (rds (gD shaK) fs t (t8 H))))]) dX8_mixBlock_188 (by decide) rfl rfl ?_
        refine C.iload_n dX8_mixBlock_190 rfl ?_
        refine C.istore (L' := [some (.ref (S 5)), some (.int ((rds (gD shaK) fs t (t8 H)).1)), some (.int ((rds (gD shaK) fs t (t8 H)).2.1)), some (.int ((rds (gD shaK) fs t (t8 H)).2.2.1)), some (.int ((rds (gD shaK) fs t (t8 H)).2.2.1)), some (.int (((rds (gD shaK) fs t (t8 H)).2.2.2.1) + (one8 (gD shaK t) (fs t) (rds (gD shaK) fs t (t8 H))))), some (.int ((rds (gD shaK) fs t (t8 H)).2.2.2.2.1)), some (.int ((rds (gD shaK) fs t (t8 H)).2.2.2.2.2.1)), some (.int ((rds (gD shaK) fs t (t8 H)).2.2.2.2.2.2.1)), some (.int (nI t)), some (.int (((rotr ((rds (gD shaK) fs t (t8 H)).2.2.2.2.1) 6) ^^^ (rotr ((rds (gD shaK) fs t (t8 H)).2.2.2.2.1) 11)) ^^^ (rotr ((rds (gD shaK) fs t (t8 H)).2.2.2.2.1) 25))), some (.int (one8 (gD shaK t) (fs t) (rds (gD shaK) fs t (t8 H)))), some (.int (((rotr ((rds (gD shaK) fs t (t8 H)).1) 2) ^^^ (rotr ((rds (gD shaK) fs t (t8 H)).1) 13)) ^^^ (rotr ((rds (gD shaK) fs t (t8 H)).1) 22))), some (.int (two8 (rds (gD shaK) fs t (t8 H))))]) dX8_mixBlock_191 (by decide) rfl rfl ?_
        refine C.iload_n dX8_mixBlock_193 rfl ?_
        refine C.istore_n (L' := [some (.ref (S 5)), some (.int ((rds (gD shaK) fs t (t8 H)).1)), some (.int ((rds (gD shaK) fs t (t8 H)).2.1)), some (.int ((rds (gD shaK) fs t (t8 H)).2.1)), some (.int ((rds (gD shaK) fs t (t8 H)).2.2.1)), some (.int (((rds (gD shaK) fs t (t8 H)).2.2.2.1) + (one8 (gD shaK t) (fs t) (rds (gD shaK) fs t (t8 H))))), some (.int ((rds (gD shaK) fs t (t8 H)).2.2.2.2.1)), some (.int ((rds (gD shaK) fs t (t8 H)).2.2.2.2.2.1)), some (.int ((rds (gD shaK) fs t (t8 H)).2.2.2.2.2.2.1)), some (.int (nI t)), some (.int (((rotr ((rds (gD shaK) fs t (t8 H)).2.2.2.2.1) 6) ^^^ (rotr ((rds (gD shaK) fs t (t8 H)).2.2.2.2.1) 11)) ^^^ (rotr ((rds (gD shaK) fs t (t8 H)).2.2.2.2.1) 25))), some (.int (one8 (gD shaK t) (fs t) (rds (gD shaK) fs t (t8 H)))), some (.int (((rotr ((rds (gD shaK) fs t (t8 H)).1) 2) ^^^ (rotr ((rds (gD shaK) fs t (t8 H)).1) 13)) ^^^ (rotr ((rds (gD shaK) fs t (t8 H)).1) 22))), some (.int (two8 (rds (gD shaK) fs t (t8 H))))]) dX8_mixBlock_194 (by decide) rfl rfl ?_
        refine C.iload_n dX8_mixBlock_195 rfl ?_
        refine C.istore_n (L' := [some (.ref (S 5)), some (.int ((rds (gD shaK) fs t (t8 H)).1)), some (.int ((rds (gD shaK) fs t (t8 H)).1)), some (.int ((rds (gD shaK) fs t (t8 H)).2.1)), some (.int ((rds (gD shaK) fs t (t8 H)).2.2.1)), some (.int (((rds (gD shaK) fs t (t8 H)).2.2.2.1) + (one8 (gD shaK t) (fs t) (rds (gD shaK) fs t (t8 H))))), some (.int ((rds (gD shaK) fs t (t8 H)).2.2.2.2.1)), some (.int ((rds (gD shaK) fs t (t8 H)).2.2.2.2.2.1)), some (.int ((rds (gD shaK) fs t (t8 H)).2.2.2.2.2.2.1)), some (.int (nI t)), some (.int (((rotr ((rds (gD shaK) fs t (t8 H)).2.2.2.2.1) 6) ^^^ (rotr ((rds (gD shaK) fs t (t8 H)).2.2.2.2.1) 11)) ^^^ (rotr ((rds (gD shaK) fs t (t8 H)).2.2.2.2.1) 25))), some (.int (one8 (gD shaK t) (fs t) (rds (gD shaK) fs t (t8 H)))), some (.int (((rotr ((rds (gD shaK) fs t (t8 H)).1) 2) ^^^ (rotr ((rds (gD shaK) fs t (t8 H)).1) 13)) ^^^ (rotr ((rds (gD shaK) fs t (t8 H)).1) 22))), some (.int (two8 (rds (gD shaK) fs t (t8 H))))]) dX8_mixBlock_196 (by decide) rfl rfl ?_
        refine C.iload dX8_mixBlock_197 rfl ?_
        refine C.iload dX8_mixBlock_199 rfl ?_
        refine C.iadd dX8_mixBlock_201 ?_
        refine C.istore_n (L' := [some (.ref (S 5)), some (.int ((one8 (gD shaK t) (fs t) (rds (gD shaK) fs t (t8 H))) + (two8 (rds (gD shaK) fs t (t8 H))))), some (.int ((rds (gD shaK) fs t (t8 H)).1)), some (.int ((rds (gD shaK) fs t (t8 H)).2.1)), some (.int ((rds (gD shaK) fs t (t8 H)).2.2.1)), some (.int (((rds (gD shaK) fs t (t8 H)).2.2.2.1) + (one8 (gD shaK t) (fs t) (rds (gD shaK) fs t (t8 H))))), some (.int ((rds (gD shaK) fs t (t8 H)).2.2.2.2.1)), some (.int ((rds (gD shaK) fs t (t8 H)).2.2.2.2.2.1)), some (.int ((rds (gD shaK) fs t (t8 H)).2.2.2.2.2.2.1)), some (.int (nI t)), some (.int (((rotr ((rds (gD shaK) fs t (t8 H)).2.2.2.2.1) 6) ^^^ (rotr ((rds (gD shaK) fs t (t8 H)).2.2.2.2.1) 11)) ^^^ (rotr ((rds (gD shaK) fs t (t8 H)).2.2.2.2.1) 25))), some (.int (one8 (gD shaK t) (fs t) (rds (gD shaK) fs t (t8 H)))), some (.int (((rotr ((rds (gD shaK) fs t (t8 H)).1) 2) ^^^ (rotr ((rds (gD shaK) fs t (t8 H)).1) 13)) ^^^ (rotr ((rds (gD shaK) fs t (t8 H)).1) 22))), some (.int (two8 (rds (gD shaK) fs t (t8 H))))]) dX8_mixBlock_202 (by decide) rfl rfl ?_
        refine C.iinc (v := nI (t + 1)) (L' := [some (.ref (S 5)), some (.int ((one8 (gD shaK t) (fs t) (rds (gD shaK) fs t (t8 H))) + (two8 (rds (gD shaK) fs t (t8 H))))), some (.int ((rds (gD shaK) fs t (t8 H)).1)), some (.int ((rds (gD shaK) fs t (t8 H)).2.1)), some (.int ((rds (gD shaK) fs t (t8 H)).2.2.1)), some (.int (((rds (gD shaK) fs t (t8 H)).2.2.2.1) + (one8 (gD shaK t) (fs t) (rds (gD shaK) fs t (t8 H))))), some (.int ((rds (gD shaK) fs t (t8 H)).2.2.2.2.1)), some (.int ((rds (gD shaK) fs t (t8 H)).2.2.2.2.2.1)), some (.int ((rds (gD shaK) fs t (t8 H)).2.2.2.2.2.2.1)), some (.int (nI (t + 1))), some (.int (((rotr ((rds (gD shaK) fs t (t8 H)).2.2.2.2.1) 6) ^^^ (rotr ((rds (gD shaK) fs t (t8 H)).2.2.2.2.1) 11)) ^^^ (rotr ((rds (gD shaK) fs t (t8 H)).2.2.2.2.1) 25))), some (.int (one8 (gD shaK t) (fs t) (rds (gD shaK) fs t (t8 H)))), some (.int (((rotr ((rds (gD shaK) fs t (t8 H)).1) 2) ^^^ (rotr ((rds (gD shaK) fs t (t8 H)).1) 13)) ^^^ (rotr ((rds (gD shaK) fs t (t8 H)).1) 22))), some (.int (two8 (rds (gD shaK) fs t (t8 H))))]) dX8_mixBlock_203 rfl (nI_1 t) (by decide) rfl rfl ?_
        refine C.goto (tgt := 66) dX8_mixBlock_206 (by decide) ?_
        refine C.drop (i := 10) (L' := [some (.ref (S 5)), some (.int ((one8 (gD shaK t) (fs t) (rds (gD shaK) fs t (t8 H))) + (two8 (rds (gD shaK) fs t (t8 H))))), some (.int ((rds (gD shaK) fs t (t8 H)).1)), some (.int ((rds (gD shaK) fs t (t8 H)).2.1)), some (.int ((rds (gD shaK) fs t (t8 H)).2.2.1)), some (.int (((rds (gD shaK) fs t (t8 H)).2.2.2.1) + (one8 (gD shaK t) (fs t) (rds (gD shaK) fs t (t8 H))))), some (.int ((rds (gD shaK) fs t (t8 H)).2.2.2.2.1)), some (.int ((rds (gD shaK) fs t (t8 H)).2.2.2.2.2.1)), some (.int ((rds (gD shaK) fs t (t8 H)).2.2.2.2.2.2.1)), some (.int (nI (t + 1))), none, some (.int (one8 (gD shaK t) (fs t) (rds (gD shaK) fs t (t8 H)))), some (.int (((rotr ((rds (gD shaK) fs t (t8 H)).1) 2) ^^^ (rotr ((rds (gD shaK) fs t (t8 H)).1) 13)) ^^^ (rotr ((rds (gD shaK) fs t (t8 H)).1) 22))), some (.int (two8 (rds (gD shaK) fs t (t8 H))))]) rfl ?_
        refine C.drop (i := 11) (L' := [some (.ref (S 5)), some (.int ((one8 (gD shaK t) (fs t) (rds (gD shaK) fs t (t8 H))) + (two8 (rds (gD shaK) fs t (t8 H))))), some (.int ((rds (gD shaK) fs t (t8 H)).1)), some (.int ((rds (gD shaK) fs t (t8 H)).2.1)), some (.int ((rds (gD shaK) fs t (t8 H)).2.2.1)), some (.int (((rds (gD shaK) fs t (t8 H)).2.2.2.1) + (one8 (gD shaK t) (fs t) (rds (gD shaK) fs t (t8 H))))), some (.int ((rds (gD shaK) fs t (t8 H)).2.2.2.2.1)), some (.int ((rds (gD shaK) fs t (t8 H)).2.2.2.2.2.1)), some (.int ((rds (gD shaK) fs t (t8 H)).2.2.2.2.2.2.1)), some (.int (nI (t + 1))), none, none, some (.int (((rotr ((rds (gD shaK) fs t (t8 H)).1) 2) ^^^ (rotr ((rds (gD shaK) fs t (t8 H)).1) 13)) ^^^ (rotr ((rds (gD shaK) fs t (t8 H)).1) 22))), some (.int (two8 (rds (gD shaK) fs t (t8 H))))]) rfl ?_
        refine C.drop (i := 12) (L' := [some (.ref (S 5)), some (.int ((one8 (gD shaK t) (fs t) (rds (gD shaK) fs t (t8 H))) + (two8 (rds (gD shaK) fs t (t8 H))))), some (.int ((rds (gD shaK) fs t (t8 H)).1)), some (.int ((rds (gD shaK) fs t (t8 H)).2.1)), some (.int ((rds (gD shaK) fs t (t8 H)).2.2.1)), some (.int (((rds (gD shaK) fs t (t8 H)).2.2.2.1) + (one8 (gD shaK t) (fs t) (rds (gD shaK) fs t (t8 H))))), some (.int ((rds (gD shaK) fs t (t8 H)).2.2.2.2.1)), some (.int ((rds (gD shaK) fs t (t8 H)).2.2.2.2.2.1)), some (.int ((rds (gD shaK) fs t (t8 H)).2.2.2.2.2.2.1)), some (.int (nI (t + 1))), none, none, none, some (.int (two8 (rds (gD shaK) fs t (t8 H))))]) rfl ?_
        refine C.drop (i := 13) (L' := [some (.ref (S 5)), some (.int ((one8 (gD shaK t) (fs t) (rds (gD shaK) fs t (t8 H))) + (two8 (rds (gD shaK) fs t (t8 H))))), some (.int ((rds (gD shaK) fs t (t8 H)).1)), some (.int ((rds (gD shaK) fs t (t8 H)).2.1)), some (.int ((rds (gD shaK) fs t (t8 H)).2.2.1)), some (.int (((rds (gD shaK) fs t (t8 H)).2.2.2.1) + (one8 (gD shaK t) (fs t) (rds (gD shaK) fs t (t8 H))))), some (.int ((rds (gD shaK) fs t (t8 H)).2.2.2.2.1)), some (.int ((rds (gD shaK) fs t (t8 H)).2.2.2.2.2.1)), some (.int ((rds (gD shaK) fs t (t8 H)).2.2.2.2.2.2.1)), some (.int (nI (t + 1))), none, none, none, none]) rfl ?_
        exact ih_66 (t + 1) (by omega) (by omega)
  exact cut_66 65 0 (by omega) (by omega)

theorem k_signs {Λ : kL} {S : Nat → Nat} {G : Nat → kc} {D : kh} (hS : cInj S) {u : Nat} {v : List Int32} (hT : tV S G D u v) (hv : v.length ≤ 2000) (hSt : kSt Λ) (hSh : kSh Λ) (h5 : G 5 = oSh S) (hH : cH S G) : cCt Λ mX8_signs 0 0 S [.ref (S 5), .ref u] G D (fun r G' D' => r = some (.ref (S 49)) ∧ D' = D ∧ (∀ k, k < 47 → G' k = G k) ∧ cH S G' ∧ tO S G' 49 50 43 (b64 (shaL v) 43)) := by
  refine cCt.of hS pn_X8 [some (.ref (S 5)), some (.ref u), none, none] rfl (Nat.le_of_ble_eq_true rfl) fun X => ?_
  obtain ⟨⟨fh, h47⟩, ⟨fs, h48⟩, n9, f9s, hn9, h49, h50⟩ := hH
  obtain ⟨ra, hr1, hr2⟩ := hSh.2.2.1
  have hsz := szS_ge v.length
  refine C.getsC dX8_signs_0 hr1 fw_X8_27 ?_
  refine C.iconst (v := 0) dX8_signs_3 (by decide) ?_
  refine C.aload_nR dX8_signs_4 rfl ?_
  refine C.getS (k9 := 5) (fs := [.ref (S 47), .ref (S 48), .ref (S 49)]) dX8_signs_5 fl_X8_9 rfl h5 rfl ?_
  refine C.iconst (v := 0) dX8_signs_8 (by decide) ?_
  refine C.bipush (v := 8) dX8_signs_9 (by decide) ?_
  refine C.copyT (k9 := 47) (n := 8) (dp := 0) (sp := 0) dX8_signs_11 la_X8_30 hr2 rfl h47 (by decide) (by decide) (by decide) (by decide) rfl rfl ?_
  refine C.aload_nR dX8_signs_14 rfl ?_
  refine C.callVX0 [] dX8_signs_15 mdX9_size imX9_size seX9_size kc_10 (show tV S (updG G 47 (aI 8 (va_cpy (gD sha0) fh 0 0 8))) D u v from (hT.keep (fun k a b => by simp only [updG]; rw [if_neg (by omega)]))).ob lk_X8_36 rfl rfl rfl rfl (cCt.w0 (R := fun r => r = some (.int (nI v.length))) fun σ9 h9 => v_size ((show tV S (updG G 47 (aI 8 (va_cpy (gD sha0) fh 0 0 8))) D u v from (hT.keep (fun k a b => by simp only [updG]; rw [if_neg (by omega)]))).tx h9)) ?_
  rintro _ G9 D9 ⟨rfl, e9, e8⟩
  have e9 := e9.symm; subst e9; have e8 := e8.symm; subst e8
  refine C.bipush (v := 8) dX8_signs_18 (by decide) ?_
  refine C.iadd dX8_signs_20 ?_
  rw [show (nI v.length) + 8 = nI (v.length + 8) from nI_add v.length 8]
  refine C.bipush (v := 64) dX8_signs_21 (by decide) ?_
  refine C.idiv dX8_signs_23 (by decide) ?_
  rw [show (nI (v.length + 8)) / 64 = nI ((v.length + 8) / 64) from pk_div (by omega) (by decide) (by decide)]
  refine C.iconst (v := 1) dX8_signs_24 (by decide) ?_
  refine C.iadd dX8_signs_25 ?_
  rw [show (nI ((v.length + 8) / 64)) + 1 = nI ((szS v.length) / 64) from (by rw [szS_bl]; exact nI_1 _)]
  refine C.istore_n (L' := [some (.ref (S 5)), some (.ref u), some (.int (nI ((szS v.length) / 64))), none]) dX8_signs_26 (by decide) rfl rfl ?_
  have cut_29 : ∀ (k_29 : Nat) (j : Nat) (h g : Nat → Int32), (j ≤ ((szS v.length) / 64)) → (((szS v.length) / 64) + 1 ≤ j + k_29) → (tl h 0 8 = hsh (pdB v) j) → C Λ X mX8_signs 0 0 S (fun r G' D' => r = some (.ref (S 49)) ∧ D' = D ∧ (∀ k, k < 47 → G' k = G k) ∧ cH S G' ∧ tO S G' 49 50 43 (b64 (shaL v) 43)) 0 0 (updG (updG G 47 (aI 8 h)) 48 (aI 64 g)) D 29 [some (.ref (S 5)), some (.ref u), some (.int (nI ((szS v.length) / 64))), some (.int (nI j))] [] := by
    intro k_29
    induction k_29 with
    | zero => intro j h g h1 h2 hh; exact absurd h2 (by omega)
    | succ k_29 ih_29 =>
      intro j h g h1 h2 hh
      refine C.iload_n dX8_signs_29 rfl ?_
      refine C.iload_n dX8_signs_30 rfl ?_
      refine C.icmp_ge (tgt := 57) dX8_signs_31 (by decide) (fun c_31 => ?_) (fun c_31 => ?_)
      · skip
        have ej : j = ((szS v.length) / 64) := nI_gen c_31 h1 (by omega)
        refine C.aload_nR dX8_signs_57 rfl ?_
        refine C.getS (k9 := 5) (fs := [.ref (S 47), .ref (S 48), .ref (S 49)]) dX8_signs_58 fl_X8_23 rfl h5 rfl ?_
        refine C.callVS0 (k9 := 49) [] dX8_signs_61 mdX9_clear imX9_clear seX9_clear kc_10 rfl h49 lk_X8_47 rfl rfl rfl rfl (cCt.w1 (R := fun r => r = none) (i := 49) hS (by decide) fun σ9 h9 => c_Text_clear (h9.at (k := 49) rfl h49)) ?_
        rintro _ _ D9 ⟨rfl, rfl, e8⟩; have e8 := e8.symm; subst e8
        refine C.aload_nR dX8_signs_64 rfl ?_
        refine C.getS (k9 := 5) (fs := [.ref (S 47), .ref (S 48), .ref (S 49)]) dX8_signs_65 fl_X8_23 rfl h5 rfl ?_
        refine C.aload_nR dX8_signs_68 rfl ?_
        refine C.getS (k9 := 5) (fs := [.ref (S 47), .ref (S 48), .ref (S 49)]) dX8_signs_69 fl_X8_9 rfl h5 rfl ?_
        subst ej
        have hta : tO S (updG (updG (updG G 47 (aI 8 h)) 48 (aI 64 g)) 49 (.inr (10, [.ref (S 50), .int (nI 0), .int 0]))) 49 50 43 [] := ⟨f9s, rfl, h50, Nat.zero_le _, by decide, rfl, bts_nil⟩
        have hct : cCt Λ mX9_addBase64 0 0 S [.ref (S 49), .ref (S 47)] (updG (updG (updG G 47 (aI 8 h)) 48 (aI 64 g)) 49 (.inr (10, [.ref (S 50), .int (nI 0), .int 0]))) D (apQ S (updG (updG (updG G 47 (aI 8 h)) 48 (aI 64 g)) 49 (.inr (10, [.ref (S 50), .int (nI 0), .int 0]))) D 49 50 43 ([] ++ b64 (tl h 0 8) 43)) := cCt.ap hS hta (by decide) (by decide) (bts_b64 _ _) fun f q1 q2 σ9 h9 => c_Text_addBase64 (h9.at (k := 49) rfl q1) (h9.at (k := 50) rfl q2) hSt (h9.at (k := 47) rfl rfl) (by decide) (fun q => absurd (hS 47 50 (by decide) (by decide) q) (by decide)) (by decide) (by decide)
        rw [hh, List.nil_append] at hct
        refine C.callVS0 (k9 := 49) [.ref (S 47)] dX8_signs_72 mdX9_addBase64 imX9_addBase64 seX9_addBase64 kc_10 rfl rfl lk_X8_50 rfl rfl rfl rfl hct ?_
        rintro _ _ D9 ⟨fz, hz1, hz2, rfl, rfl, e8⟩; have e8 := e8.symm; subst e8
        refine C.aload_nR dX8_signs_75 rfl ?_
        refine C.getS (k9 := 5) (fs := [.ref (S 47), .ref (S 48), .ref (S 49)]) dX8_signs_76 fl_X8_23 rfl h5 rfl ?_
        refine C.aret (r := some (S 49)) dX8_signs_79 rfl (by first | exact Or.inl ⟨_, rfl⟩ | exact Or.inr ⟨_, rfl⟩) ?_
        have hto := tO.gW (S := S) (G := updG (updG (updG G 47 (aI 8 h)) 48 (aI 64 g)) 49 (oT (S 50) (nI 0) 0)) (k := 49) (j := 50) (cap := 43) (by decide) (by rw [b64_len]; decide) (by decide) hz1 hz2
        refine ⟨rfl, rfl, ?_, ?_, hto⟩
        · intro k hk
          simp only [gW, updG]
          rw [if_neg (by omega), if_neg (by omega), if_neg (by omega), if_neg (by omega), if_neg (by omega)]
        · exact ⟨⟨_, rfl⟩, ⟨_, rfl⟩, (b64 (shaL v) 43).length, fz, by rw [b64_len]; decide, rfl, rfl⟩
      · skip
        have lt_j : j < ((szS v.length) / 64) := nI_ltn c_31 (by omega) (by omega)
        refine C.aload_nR dX8_signs_34 rfl ?_
        refine C.aload_nR dX8_signs_35 rfl ?_
        refine C.iload_n dX8_signs_36 rfl ?_
        refine C.bipush (v := 64) dX8_signs_37 (by decide) ?_
        refine C.imul dX8_signs_39 ?_
        rw [show (nI j) * 64 = nI (64 * j) from (by rw [Nat.mul_comm]; exact nI_mulc j 64)]
        refine C.iload_n dX8_signs_40 rfl ?_
        refine C.bipush (v := 64) dX8_signs_41 (by decide) ?_
        refine C.imul dX8_signs_43 ?_
        rw [show (nI ((szS v.length) / 64)) * 64 = nI (szS v.length) from (by have h9 := nI_mulc ((szS v.length) / 64) 64; rw [Nat.mul_comm, szS_64] at h9; exact h9)]
        refine C.callVS0 (k9 := 5) [.ref u, .int (nI (64 * j)), .int (nI (szS v.length))] dX8_signs_44 mdX8_fillSchedule imX8_fillSchedule seX8_fillSchedule kc_9 rfl h5 lk_X8_40 rfl rfl rfl rfl (k_fillSchedule hS (show tV S (updG (updG G 47 (aI 8 h)) 48 (aI 64 g)) D u v from (hT.keep (fun k a b => by simp only [updG]; rw [if_neg (by omega), if_neg (by omega)]))) hv h5 (fs := g) rfl (a := 64 * j) (by have := szS_64 v.length; omega)) ?_
        rintro _ _ D9 ⟨rfl, rfl, e8⟩; have e8 := e8.symm; subst e8
        rw [updG_up]
        refine C.aload_nR dX8_signs_47 rfl ?_
        refine C.callVS0 (k9 := 5) [] dX8_signs_48 mdX8_mixBlock imX8_mixBlock seX8_mixBlock kc_9 rfl h5 lk_X8_44 rfl rfl rfl rfl (k_mixBlock hS (G := (updG (updG G 47 (aI 8 h)) 48 (aI 64 (schG (fun t => wd (pdB v) (64 * j + 4 * t)) g 64)))) hSh h5 (fh := h) (fs := (schG (fun t => wd (pdB v) (64 * j + 4 * t)) g 64)) rfl rfl (hsh_len _ j) hh) ?_
        rintro _ _ D9 ⟨h', rfl, rfl, e8, hh'⟩; have e8 := e8.symm; subst e8
        rw [updG_com _ _ _ (by decide), updG_up]
        refine C.iinc (v := nI (j + 1)) (L' := [some (.ref (S 5)), some (.ref u), some (.int (nI ((szS v.length) / 64))), some (.int (nI (j + 1)))]) dX8_signs_51 rfl (nI_1 j) (by decide) rfl rfl ?_
        refine C.goto (tgt := 29) dX8_signs_54 (by decide) ?_
        exact ih_29 (j + 1) h' _ (by omega) (by omega) (by rw [hsh, ← blk_any _ g]; exact hh')
  refine C.iconst (v := 0) dX8_signs_27 (by decide) ?_
  refine C.istore_n (L' := [some (.ref (S 5)), some (.ref u), some (.int (nI ((szS v.length) / 64))), some (.int 0)]) dX8_signs_28 (by decide) rfl rfl ?_
  have t9 := cut_29 (((szS v.length) / 64) + 1) 0 (va_cpy (gD sha0) fh 0 0 8) fs (by omega) (by omega) rfl
  rw [updG_com _ _ _ (by decide), ← h48, updG_id] at t9
  exact t9
