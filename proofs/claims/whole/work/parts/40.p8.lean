/-! the reference: token, revoke; HANDLES of different numbers differ -/
def sixN (p : Nat → Bool) : Nat → Nat
  | 0 => 0
  | i + 1 => 2 * sixN p i + (if p i = true then 1 else 0)
theorem six_N (p : Nat → Bool) (n : Nat) : six p n = nI (sixN p n) := by
  induction n with
  | zero => rfl
  | succ n ih =>
    rw [six, sixN, ih, show (2 : Int32) = nI 2 from rfl, nI_mulc]
    cases h : p n with
    | true => rw [if_pos rfl, show bI true = nI 1 from rfl, nI_add]
    | false => rw [if_neg (by decide), show bI false = nI 0 from rfl, nI_add]
theorem sixN_lt (p : Nat → Bool) (n : Nat) : sixN p n < 2 ^ n := by
  induction n with
  | zero => exact Nat.one_pos
  | succ n ih =>
    rw [sixN, Nat.pow_succ]
    by_cases h : p n = true
    · rw [if_pos h]; omega
    · rw [if_neg h]; omega
theorem sixN_inj {p q : Nat → Bool} {n : Nat} (h : sixN p n = sixN q n) : ∀ i, i < n → p i = q i := by
  induction n with
  | zero => intro i hi; omega
  | succ n ih =>
    rw [sixN, sixN] at h
    intro i hi
    by_cases e : i = n
    · subst e
      cases hp : p i with
      | true => cases hq : q i with
        | true => rfl
        | false => rw [hp, hq, if_pos rfl, if_neg (by decide)] at h; omega
      | false => cases hq : q i with
        | true => rw [hp, hq, if_pos rfl, if_neg (by decide)] at h; omega
        | false => rfl
    · refine ih ?_ i (by omega)
      by_cases h1 : p n = true
      · by_cases h2 : q n = true
        · rw [if_pos h1, if_pos h2] at h; omega
        · rw [if_pos h1, if_neg h2] at h; omega
      · by_cases h2 : q n = true
        · rw [if_neg h1, if_pos h2] at h; omega
        · rw [if_neg h1, if_neg h2] at h; omega
theorem sgn_inj : ∀ a, a < 64 → ∀ b, b < 64 → b8 (sgn6 (nI a)) = b8 (sgn6 (nI b)) → a = b := by decide +kernel
theorem b64_at {d : List Int32} {n k : Nat} (h : k < n) : (b64 d n).getD k 0 = b8 (sgn6 (six (fun i => dbt d (6 * k + i)) 6)) := by
  rw [b64, List.getD_eq_getElem?_getD, List.getElem?_map, List.getElem?_range h]
  rfl
theorem b64_inj {d e : List Int32} (hd : d.length = 4) (he : e.length = 4) (h : b64 d 22 = b64 e 22) : d = e := by
  have hb : ∀ b, b < 132 → dbt d b = dbt e b := by
    intro b hb
    have h1 : (b64 d 22).getD (b / 6) 0 = (b64 e 22).getD (b / 6) 0 := by rw [h]
    rw [b64_at (by omega), b64_at (by omega), six_N, six_N] at h1
    have h2 := sgn_inj _ (sixN_lt _ 6) _ (sixN_lt _ 6) h1
    have h3 := sixN_inj h2 (b % 6) (by omega)
    rwa [show 6 * (b / 6) + b % 6 = b by omega] at h3
  have hx : ∀ j, j < 4 → d.getD j 0 = e.getD j 0 := by
    intro j hj
    apply Int32.toBitVec_inj.mp
    apply BitVec.eq_of_getLsbD_eq
    intro t ht
    have h1 := hb (32 * j + (31 - t)) (by omega)
    rw [dbt, dbt, show (32 * j + (31 - t)) / 32 = j by omega, show 31 - (32 * j + (31 - t)) % 32 = t by omega] at h1
    exact h1
  apply List.ext_getElem?
  intro j
  by_cases hj : j < 4
  · have h1 := hx j hj
    rw [List.getD_eq_getElem?_getD, List.getD_eq_getElem?_getD, List.getElem?_eq_getElem (by omega), List.getElem?_eq_getElem (by omega)] at h1
    rw [List.getElem?_eq_getElem (by omega), List.getElem?_eq_getElem (by omega)]
    exact congrArg some h1
  · rw [List.getElem?_eq_none (by omega), List.getElem?_eq_none (by omega)]
theorem hfn_yes {U C : List (List Int32)} {v : List Int32} (h : hfn U C v < C.length) : v = b64 (U.getD (rn C (hfn U C v) 0) []) 22 := of_decide_eq_true (fsti_yes (p := fun k => decide (v = b64 (U.getD ((C.getD k []).getD 0 0).toNatClampNeg []) 22)) (k := C.length) (i := 0) (by rw [hfn] at h; omega))
theorem hfn_le {U C : List (List Int32)} {v : List Int32} {z : Nat} (hz : z < C.length) (h : v = b64 (U.getD (rn C z 0) []) 22) : hfn U C v ≤ z := by
  refine Nat.le_of_not_lt fun q => ?_
  have h1 := fsti_lt (p := fun k => decide (v = b64 (U.getD ((C.getD k []).getD 0 0).toNatClampNeg []) 22)) (k := C.length) (i := 0) (Nat.zero_le z) q
  exact absurd h (of_decide_eq_false h1)
/-- at most one ACCESS token has a HANDLE -/
theorem one_E {U M E : List (List Int32)} (hU4 : ∀ d ∈ U, d.length = 4) (hnd : noDup U) (hlw : lwr E 0 U.length) (hU : U.length < 2 ^ 31) (hE : E.length < 2 ^ 31) (hM : ∀ j, j < E.length → ro M (rn E j 0) 0 = 1 ∧ ro M (rn E j 0) 1 = nI j) {v : List Int32} {i j : Nat} (hi : i < E.length) (hj : j < E.length) (h1 : v = b64 (U.getD (rn E i 0) []) 22) (h2 : v = b64 (U.getD (rn E j 0) []) 22) : i = j := by
  obtain ⟨a, ha, ea⟩ := hlw i hi
  obtain ⟨b, hb, eb⟩ := hlw j hj
  have ea2 : rn E i 0 = a := rn_at ea (by omega)
  have eb2 : rn E j 0 = b := rn_at eb (by omega)
  rw [ea2] at h1
  rw [eb2] at h2
  have hab : a = b := hnd a b ha hb (b64_inj (hU4 _ (getD_mem ha)) (hU4 _ (getD_mem hb)) (h1.symm.trans h2))
  have hm1 := (hM i hi).2
  have hm2 := (hM j hj).2
  rw [ea2] at hm1
  rw [eb2, ← hab] at hm2
  exact (nI_eq (by omega) (by omega)).mp (hm1.symm.trans hm2)
theorem whoS_pos {T S : List (List Int32)} {cf : Nat → Bool} {v s : List Int32} (h : ¬ whoS T S cf v s < 0) : whoS T S cf v s = nI (fnd T v) ∧ fnd T v < T.length := by
  rw [whoS] at h ⊢
  by_cases h1 : 0 < v.length ∧ fnd T v < T.length
  · rw [if_pos h1] at h ⊢
    by_cases h2 : (if cf (fnd T v) = true then decide (0 < s.length) && decide (s = S.getD (fnd T v) []) else !decide (0 < s.length)) = true
    · rw [if_pos h2]; exact ⟨rfl, h1.2⟩
    · rw [if_neg h2] at h; exact absurd (by decide) h
  · rw [if_neg h1] at h; exact absurd (by decide) h
theorem hs_updF56 (F : Nat → Nat → Int32) (a b : Nat → Int32) (j : Nat) (x : Int32) : updF (hs F a b) 56 j x = hs (updF F 56 j x) a b := by
  funext k
  rw [hs, hs]
  by_cases h : k = 69
  · rw [h]; rfl
  · by_cases h2 : k = 68
    · rw [h2]; rfl
    · rw [setF_n _ _ h, setF_n _ _ h2]
      by_cases h3 : k = 56
      · rw [h3]; rfl
      · rw [updF_n _ _ _ h3, updF_n _ _ _ h3, setF_n _ _ h, setF_n _ _ h2]
def rvG (f : Nat → Int32) (kx z : Nat) (P : Prop) [Decidable P] : Nat → Int32 := if kx < z ∧ P then upd f kx 1 else f
theorem rvG_0 {f : Nat → Int32} {kx : Nat} {P : Prop} [Decidable P] : rvG f kx 0 P = f := if_neg (fun q => Nat.not_lt_zero _ q.1)
theorem rvG_n {f : Nat → Int32} {kx z : Nat} {P : Prop} [Decidable P] (h : kx = z → ¬ P) : rvG f kx (z + 1) P = rvG f kx z P := by
  rw [rvG, rvG]
  by_cases q : kx < z ∧ P
  · rw [if_pos q, if_pos ⟨by omega, q.2⟩]
  · rw [if_neg q, if_neg (fun w => ?_)]
    by_cases e : kx = z
    · exact h e w.2
    · exact q ⟨by omega, w.2⟩
theorem rvG_y {f : Nat → Int32} {kx z : Nat} {P : Prop} [Decidable P] (h : kx = z) (hp : P) : upd (rvG f kx z P) z 1 = rvG f kx (z + 1) P := by
  rw [rvG, rvG, if_neg (fun q => by omega), if_pos ⟨by omega, hp⟩, h]

theorem p_token {Λ : kL} {m : Nat} {A : Nat → Nat} {I : Nat → Int32} {F : Nat → Nat → Int32} (hA : mInj A) {N : Nat → Int32} {B : Nat → List Int32} {T R : Nat → List (List Int32)} (hR : mR I F N B T R) (hW : wf N B T R) (hSt : kSt Λ) (hSh : kSh Λ) : mCt Λ mX12_token m A [.ref m] I F (mP (opTok N B T R)) := by
  refine mCt.of hA pn_X12 [some (.ref m), none] rfl (Nat.le_of_ble_eq_true rfl) fun X => ?_
  obtain ⟨q_a, q_b, q_n, q_w, q_c, q_r, q_x, q_q, q_k, q_f, q_t⟩ := hR
  obtain ⟨w_a, w_n, w_w, w_c, w_r, w_x, w_q, w_k, w_f, w_t, w_m⟩ := hW
  have hW0 : wf N (setB B 0 []) T R := ⟨⟨Nat.zero_le _, bts_nil, w_a.2.2⟩, w_n, w_w, w_c, w_r, w_x, w_q, w_k, w_f, w_t, w_m⟩
  have hl := w_a.1
  have hc8 := w_c.1
  have ht1 := w_t.1
  have ht2 := w_t.2.2.2.2.1
  have hk200 := w_k.1
  have hul := w_x.2.2.2.2
  have hd200 : (T 28).length ≤ 200 := by have := w_k.2.2.2.2; omega
  have hcf : ∀ k, k < (T 3).length → F 14 k = bI (cfS (T 5) k) := fun k hk => by
    obtain ⟨b, eb⟩ := w_c.2.2.2.2.2.2.1 k (by rw [w_c.2.2.2.1]; exact hk)
    rw [cfS, show ro (T 5) k 0 = bI b from eb, bI_is1]
    exact (q_c.2.2.2.1 k (by rw [w_c.2.2.2.1]; exact hk)).trans eb
  refine M.aload_nR dX12_token_0 rfl ?_
  refine M.aload_nR dX12_token_1 rfl ?_
  refine M.callV [] dX12_token_2 mdX12_used imX12_used seX12_used lk_X12_351 rfl rfl rfl rfl (m_used hA) ?_
  rintro _ I9 F9 ⟨rfl, e9, e8⟩
  have e9 := e9.symm; subst e9; have e8 := e8.symm; subst e8
  rw [q_a.1]
  refine M.callV [.int (nI (B 0).length)] dX12_token_5 mdX12_isForm imX12_isForm seX12_isForm lk_X12_372 rfl rfl rfl rfl (m_isFormS hA hSt hl q_a.2.1 q_a.2.2) ?_
  rintro _ _ _ ⟨x9, a4, b4, c4, d4, rfl, rfl, (⟨hfm, rfl⟩ | ⟨g, hfm, rfl, hv⟩)⟩
  · skip
    refine M.if_eq (tgt := 20) dX12_token_8 (by decide) (fun c_8 => ?_) (fun c_8 => absurd rfl c_8)
    refine M.aload_nR dX12_token_20 rfl ?_
    refine M.sipush (v := 400) dX12_token_21 (by decide) ?_
    refine M.iconst (v := 1) dX12_token_24 (by decide) ?_
    refine M.callV [.int 400, .int 1] dX12_token_25 mdX12_refuses imX12_refuses seX12_refuses lk_X12_421 rfl rfl rfl rfl (m_refuses_1 hA hSt 400) ?_
    rintro _ I9 F9 ⟨rfl, e9, e8⟩
    have e9 := e9.symm; subst e9; have e8 := e8.symm; subst e8
    refine M.iret dX12_token_28 rfl ?_
    rw [opTok, hfm]
    exact ⟨rfl, rfl, ⟨rfl, rfl, q_a.2.2⟩, mRb.fo rfl rfl, ⟨rfl, rfl, q_n.2.2⟩, q_w, q_c, q_r, q_x, q_q, q_k, q_f, q_t⟩
  · skip
    refine M.if_eq (tgt := 20) dX12_token_8 (by decide) (fun c_8 => absurd c_8 (by decide)) (fun c_8 => ?_)
    refine M.aload_nR dX12_token_11 rfl ?_
    refine M.bipush (v := 7) dX12_token_12 (by decide) ?_
    refine M.callV [.int 7] dX12_token_14 mdX12_has imX12_has seX12_has lk_X12_260 rfl rfl rfl rfl (m_hasV hA (F := (f4 F a4 b4 c4 d4)) hv (k := 7) (by decide)) ?_
    rintro _ I9 F9 ⟨rfl, e9, e8⟩
    have e9 := e9.symm; subst e9; have e8 := e8.symm; subst e8
    refine M.if_ne (tgt := 29) dX12_token_17 (by decide) (fun c_17 => ?_) (fun c_17 => ?_)
    · skip
      have h0_7 := of_decide_eq_true (bt1 c_17)
      refine M.aload_nR dX12_token_29 rfl ?_
      refine M.callV [] dX12_token_30 mdX12_asker imX12_asker seX12_asker lk_X12_424 rfl rfl rfl rfl (m_asker hA (I := (upd (upd (upd I 0 0) 2 0) 67 x9)) (F := (f4 F a4 b4 c4 d4)) (T := T 3) (S := T 4) (cf := cfS (T 5)) q_c.1 w_c.1 q_c.2.1 w_c.2.1 w_c.2.2.1 q_c.2.2.1 hcf hv) ?_
      rintro _ I9 F9 ⟨rfl, e9, e8⟩
      have e9 := e9.symm; subst e9; have e8 := e8.symm; subst e8
      refine M.istore_n (L' := [some (.ref m), some (.int (whoT T g))]) dX12_token_33 (by decide) rfl rfl ?_
      refine M.iload_n dX12_token_34 rfl ?_
      refine M.if_ge (tgt := 48) dX12_token_35 (by decide) (fun c_35 => ?_) (fun c_35 => ?_)
      · skip
        have hwp := whoS_pos (T := T 3) (S := T 4) (cf := cfS (T 5)) (v := fv g 1) (s := fv g 10) (Int32.not_lt.mpr c_35)
        have hwt : whoT T g = nI (fnd (T 3) (fv g 1)) := hwp.1
        rw [hwt]
        have hwc : (whoT T g).toNatClampNeg = (fnd (T 3) (fv g 1)) := by rw [hwt, nI_clamp (by omega)]
        refine M.aload_nR dX12_token_48 rfl ?_
        refine M.bipush (v := 7) dX12_token_49 (by decide) ?_
        refine M.ldcwS dX12_token_51 sr_X12_427 ?_
        refine M.callV [.int 7, .ref (kSa Λ RX12 427)] dX12_token_54 mdX12_isValue imX12_isValue seX12_isValue lk_X12_381 rfl rfl rfl rfl (m_isValueV hA (F := (f4 F a4 b4 c4 d4)) hv (k := 7) (by decide) h0_7 (st_X12_427 hSt) sb_authorization_code_b) ?_
        rintro _ I9 F9 ⟨rfl, e9, e8⟩
        have e9 := e9.symm; subst e9; have e8 := e8.symm; subst e8
        refine M.if_eq (tgt := 66) dX12_token_57 (by decide) (fun c_57 => ?_) (fun c_57 => ?_)
        · skip
          refine M.aload_nR dX12_token_66 rfl ?_
          refine M.bipush (v := 7) dX12_token_67 (by decide) ?_
          refine M.ldcS dX12_token_69 sr_X12_235 ?_
          refine M.callV [.int 7, .ref (kSa Λ RX12 235)] dX12_token_71 mdX12_isValue imX12_isValue seX12_isValue lk_X12_381 rfl rfl rfl rfl (m_isValueV hA (F := (f4 F a4 b4 c4 d4)) hv (k := 7) (by decide) h0_7 (st_X12_235 hSt) sb_refresh_token_b) ?_
          rintro _ I9 F9 ⟨rfl, e9, e8⟩
          have e9 := e9.symm; subst e9; have e8 := e8.symm; subst e8
          refine M.if_eq (tgt := 83) dX12_token_74 (by decide) (fun c_74 => ?_) (fun c_74 => ?_)
          · skip
            refine M.aload_nR dX12_token_83 rfl ?_
            refine M.sipush (v := 400) dX12_token_84 (by decide) ?_
            refine M.bipush (v := 8) dX12_token_87 (by decide) ?_
            refine M.callV [.int 400, .int 8] dX12_token_89 mdX12_refuses imX12_refuses seX12_refuses lk_X12_421 rfl rfl rfl rfl (m_refuses_8 hA hSt 400) ?_
            rintro _ I9 F9 ⟨rfl, e9, e8⟩
            have e9 := e9.symm; subst e9; have e8 := e8.symm; subst e8
            refine M.iret dX12_token_92 rfl ?_
            rw [opTok, hfm]
            show mP (opTok1 N (setB B 0 []) T R g) _ _ _
            rw [opTok1, if_neg (fun q => q h0_7), if_neg (Int32.not_lt.mpr c_35), if_neg (of_decide_eq_false ((bI_eq0 _).mp c_57)), if_neg (of_decide_eq_false ((bI_eq0 _).mp c_74))]
            exact ⟨rfl, rfl, ⟨rfl, rfl, q_a.2.2⟩, mRb.fo rfl rfl, ⟨rfl, rfl, q_n.2.2⟩, q_w, q_c, q_r, q_x, q_q, q_k, q_f, q_t⟩
          · skip
            refine M.aload_nR dX12_token_77 rfl ?_
            refine M.iload_n dX12_token_78 rfl ?_
            have hgo := p_turns (Λ := Λ) (m := m) hA (I := (upd (upd (upd I 0 0) 2 0) 67 x9)) (F := (f4 F a4 b4 c4 d4)) (N := N) (B := setB B 0 []) (T := T) (R := R) ⟨⟨rfl, rfl, q_a.2.2⟩, q_b, q_n, q_w, q_c, q_r, q_x, q_q, q_k, q_f, q_t⟩ hW0 hSt rfl hv (c := (fnd (T 3) (fv g 1))) hwp.2
            refine M.callV [.int (nI (fnd (T 3) (fv g 1)))] dX12_token_79 mdX12_turns imX12_turns seX12_turns lk_X12_432 rfl rfl rfl rfl hgo ?_
            rintro _ I2 F2 ⟨rfl, h02, hR2⟩
            refine M.iret dX12_token_82 rfl ?_
            rw [opTok, hfm]
            show mP (opTok1 N (setB B 0 []) T R g) _ _ _
            rw [opTok1, if_neg (fun q => q h0_7), if_neg (Int32.not_lt.mpr c_35), if_neg (of_decide_eq_false ((bI_eq0 _).mp c_57)), if_pos (of_decide_eq_true (bt1 c_74)), hwc]
            exact ⟨rfl, h02, hR2⟩
        · skip
          refine M.aload_nR dX12_token_60 rfl ?_
          refine M.iload_n dX12_token_61 rfl ?_
          have hgo := p_redeems (Λ := Λ) (m := m) hA (I := (upd (upd (upd I 0 0) 2 0) 67 x9)) (F := (f4 F a4 b4 c4 d4)) (N := N) (B := setB B 0 []) (T := T) (R := R) ⟨⟨rfl, rfl, q_a.2.2⟩, q_b, q_n, q_w, q_c, q_r, q_x, q_q, q_k, q_f, q_t⟩ hW0 hSt hSh rfl hv (c := (fnd (T 3) (fv g 1))) hwp.2
          refine M.callV [.int (nI (fnd (T 3) (fv g 1)))] dX12_token_62 mdX12_redeems imX12_redeems seX12_redeems lk_X12_429 rfl rfl rfl rfl hgo ?_
          rintro _ I2 F2 ⟨rfl, h02, hR2⟩
          refine M.iret dX12_token_65 rfl ?_
          rw [opTok, hfm]
          show mP (opTok1 N (setB B 0 []) T R g) _ _ _
          rw [opTok1, if_neg (fun q => q h0_7), if_neg (Int32.not_lt.mpr c_35), if_pos (of_decide_eq_true (bt1 c_57)), hwc]
          exact ⟨rfl, h02, hR2⟩
      · skip
        have hneg : whoT T g < 0 := Int32.not_le.mp c_35
        refine M.aload_nR dX12_token_38 rfl ?_
        refine M.sipush (v := 401) dX12_token_39 (by decide) ?_
        refine M.bipush (v := 6) dX12_token_42 (by decide) ?_
        refine M.callV [.int 401, .int 6] dX12_token_44 mdX12_refuses imX12_refuses seX12_refuses lk_X12_421 rfl rfl rfl rfl (m_refuses_6 hA hSt 401) ?_
        rintro _ I9 F9 ⟨rfl, e9, e8⟩
        have e9 := e9.symm; subst e9; have e8 := e8.symm; subst e8
        refine M.iret dX12_token_47 rfl ?_
        rw [opTok, hfm]
        show mP (opTok1 N (setB B 0 []) T R g) _ _ _
        rw [opTok1, if_neg (fun q => q h0_7), if_pos hneg]
        exact ⟨rfl, rfl, ⟨rfl, rfl, q_a.2.2⟩, mRb.fo rfl rfl, ⟨rfl, rfl, q_n.2.2⟩, q_w, q_c, q_r, q_x, q_q, q_k, q_f, q_t⟩
    · skip
      have hno := of_decide_eq_false ((bI_eq0 _).mp c_17)
      refine M.aload_nR dX12_token_20 rfl ?_
      refine M.sipush (v := 400) dX12_token_21 (by decide) ?_
      refine M.iconst (v := 1) dX12_token_24 (by decide) ?_
      refine M.callV [.int 400, .int 1] dX12_token_25 mdX12_refuses imX12_refuses seX12_refuses lk_X12_421 rfl rfl rfl rfl (m_refuses_1 hA hSt 400) ?_
      rintro _ I9 F9 ⟨rfl, e9, e8⟩
      have e9 := e9.symm; subst e9; have e8 := e8.symm; subst e8
      refine M.iret dX12_token_28 rfl ?_
      rw [opTok, hfm]
      show mP (opTok1 N (setB B 0 []) T R g) _ _ _
      rw [opTok1, if_pos hno]
      exact ⟨rfl, rfl, ⟨rfl, rfl, q_a.2.2⟩, mRb.fo rfl rfl, ⟨rfl, rfl, q_n.2.2⟩, q_w, q_c, q_r, q_x, q_q, q_k, q_f, q_t⟩

theorem p_revoke {Λ : kL} {m : Nat} {A : Nat → Nat} {I : Nat → Int32} {F : Nat → Nat → Int32} (hA : mInj A) {N : Nat → Int32} {B : Nat → List Int32} {T R : Nat → List (List Int32)} (hR : mR I F N B T R) (hW : wf N B T R) (hSt : kSt Λ) : mCt Λ mX12_revoke m A [.ref m] I F (mP (opRev N B T R)) := by
  refine mCt.of hA pn_X12 [some (.ref m), none, none, none] rfl (Nat.le_of_ble_eq_true rfl) fun X => ?_
  obtain ⟨q_a, q_b, q_n, q_w, q_c, q_r, q_x, q_q, q_k, q_f, q_t⟩ := hR
  obtain ⟨w_a, w_n, w_w, w_c, w_r, w_x, w_q, w_k, w_f, w_t, w_m⟩ := hW
  have hl := w_a.1
  have hc8 := w_c.1
  have ht1 := w_t.1
  have ht2 := w_t.2.2.2.2.1
  have hk200 := w_k.1
  have hul := w_x.2.2.2.2
  have hd200 : (T 28).length ≤ 200 := by have := w_k.2.2.2.2; omega
  have hcf : ∀ k, k < (T 3).length → F 14 k = bI (cfS (T 5) k) := fun k hk => by
    obtain ⟨b, eb⟩ := w_c.2.2.2.2.2.2.1 k (by rw [w_c.2.2.2.1]; exact hk)
    rw [cfS, show ro (T 5) k 0 = bI b from eb, bI_is1]
    exact (q_c.2.2.2.1 k (by rw [w_c.2.2.2.1]; exact hk)).trans eb
  refine M.aload_nR dX12_revoke_0 rfl ?_
  refine M.aload_nR dX12_revoke_1 rfl ?_
  refine M.callV [] dX12_revoke_2 mdX12_used imX12_used seX12_used lk_X12_351 rfl rfl rfl rfl (m_used hA) ?_
  rintro _ I9 F9 ⟨rfl, e9, e8⟩
  have e9 := e9.symm; subst e9; have e8 := e8.symm; subst e8
  rw [q_a.1]
  refine M.callV [.int (nI (B 0).length)] dX12_revoke_5 mdX12_isForm imX12_isForm seX12_isForm lk_X12_372 rfl rfl rfl rfl (m_isFormS hA hSt hl q_a.2.1 q_a.2.2) ?_
  rintro _ _ _ ⟨x9, a4, b4, c4, d4, rfl, rfl, (⟨hfm, rfl⟩ | ⟨g, hfm, rfl, hv⟩)⟩
  · skip
    refine M.if_ne (tgt := 20) dX12_revoke_8 (by decide) (fun c_8 => absurd c_8 (fun z => z rfl)) (fun c_8 => ?_)
    refine M.aload_nR dX12_revoke_11 rfl ?_
    refine M.sipush (v := 400) dX12_revoke_12 (by decide) ?_
    refine M.iconst (v := 1) dX12_revoke_15 (by decide) ?_
    refine M.callV [.int 400, .int 1] dX12_revoke_16 mdX12_refuses imX12_refuses seX12_refuses lk_X12_421 rfl rfl rfl rfl (m_refuses_1 hA hSt 400) ?_
    rintro _ I9 F9 ⟨rfl, e9, e8⟩
    have e9 := e9.symm; subst e9; have e8 := e8.symm; subst e8
    refine M.iret dX12_revoke_19 rfl ?_
    rw [opRev, hfm]
    exact ⟨rfl, rfl, ⟨rfl, rfl, q_a.2.2⟩, mRb.fo rfl rfl, ⟨rfl, rfl, q_n.2.2⟩, q_w, q_c, q_r, q_x, q_q, q_k, q_f, q_t⟩
  · skip
    refine M.if_ne (tgt := 20) dX12_revoke_8 (by decide) (fun c_8 => ?_) (fun c_8 => absurd c_8 (by decide))
    refine M.aload_nR dX12_revoke_20 rfl ?_
    refine M.callV [] dX12_revoke_21 mdX12_asker imX12_asker seX12_asker lk_X12_424 rfl rfl rfl rfl (m_asker hA (I := (upd (upd (upd I 0 0) 2 0) 67 x9)) (F := (f4 F a4 b4 c4 d4)) (T := T 3) (S := T 4) (cf := cfS (T 5)) q_c.1 w_c.1 q_c.2.1 w_c.2.1 w_c.2.2.1 q_c.2.2.1 hcf hv) ?_
    rintro _ I9 F9 ⟨rfl, e9, e8⟩
    have e9 := e9.symm; subst e9; have e8 := e8.symm; subst e8
    refine M.istore_n (L' := [some (.ref m), some (.int (whoT T g)), none, none]) dX12_revoke_24 (by decide) rfl rfl ?_
    refine M.iload_n dX12_revoke_25 rfl ?_
    refine M.if_ge (tgt := 39) dX12_revoke_26 (by decide) (fun c_26 => ?_) (fun c_26 => ?_)
    · skip
      have hwp := whoS_pos (T := T 3) (S := T 4) (cf := cfS (T 5)) (v := fv g 1) (s := fv g 10) (Int32.not_lt.mpr c_26)
      have hwt : whoT T g = nI (fnd (T 3) (fv g 1)) := hwp.1
      rw [hwt]
      have hwc : (whoT T g).toNatClampNeg = (fnd (T 3) (fv g 1)) := by rw [hwt, nI_clamp (by omega)]
      refine M.aload_nR dX12_revoke_39 rfl ?_
      refine M.bipush (v := 12) dX12_revoke_40 (by decide) ?_
      refine M.callV [.int 12] dX12_revoke_42 mdX12_has imX12_has seX12_has lk_X12_260 rfl rfl rfl rfl (m_hasV hA (F := (f4 F a4 b4 c4 d4)) hv (k := 12) (by decide)) ?_
      rintro _ I9 F9 ⟨rfl, e9, e8⟩
      have e9 := e9.symm; subst e9; have e8 := e8.symm; subst e8
      refine M.if_ne (tgt := 57) dX12_revoke_45 (by decide) (fun c_45 => ?_) (fun c_45 => ?_)
      · skip
        have h0_12 := of_decide_eq_true (bt1 c_45)
        obtain ⟨i8, a1, a2, a3, a4_, a5⟩ := hv.at (k := 12) (by decide) h0_12
        refine M.aload_nR dX12_revoke_57 rfl ?_
        refine M.bipush (v := 12) dX12_revoke_58 (by decide) ?_
        refine M.callV [.int 12] dX12_revoke_60 mdX12_refreshOf imX12_refreshOf seX12_refreshOf lk_X12_476 rfl rfl rfl rfl (m_refreshOf hA (I := (upd (upd (upd I 0 0) 2 0) 67 x9)) (F := (f4 F a4 b4 c4 d4)) (U := (T 21)) (C := (T 30)) q_t.2.2.2.2.2.2.2.1 ht2 (by omega) q_x.2.2.2 q_t.2.2.2.2.2.2.2.2.1 w_t.2.2.2.2.2.1 hv (k9 := 12) (by decide) h0_12) ?_
        rintro _ I9 _ ⟨a7, b7, rfl, e9, rfl⟩; have e9 := e9.symm; subst e9
        by_cases hlt : hfn (T 21) (T 30) (fv g 12) < (T 30).length
        · rw [if_pos hlt]
          obtain ⟨f, hf, ef⟩ := w_t.2.2.2.2.2.2.1 (hfn (T 21) (T 30) (fv g 12)) hlt
          have erf : rn (T 30) (hfn (T 21) (T 30) (fv g 12)) 1 = f := rn_at ef (by omega)
          refine M.istore_n (L' := [some (.ref m), some (.int (nI (fnd (T 3) (fv g 1)))), some (.int (nI (hfn (T 21) (T 30) (fv g 12)))), none]) dX12_revoke_63 (by decide) rfl rfl ?_
          refine M.iload_n dX12_revoke_64 rfl ?_
          refine M.if_lt (tgt := 95) dX12_revoke_65 (by decide) (fun c_65 => absurd c_65 (nI_pos (by omega))) (fun c_65 => ?_)
          refine M.aload_nR dX12_revoke_68 rfl ?_
          refine M.getr dX12_revoke_69 fl_X12_113 rfl rfl ?_
          refine M.aload_nR dX12_revoke_72 rfl ?_
          refine M.getr dX12_revoke_73 fl_X12_146 rfl rfl ?_
          refine M.iload_n dX12_revoke_76 rfl ?_
          refine M.ialdv (k9 := 59) (j := hfn (T 21) (T 30) (fv g 12)) (g := F 59) (v := nI f) dX12_revoke_77 rfl rfl rfl rfl (show hfn (T 21) (T 30) (fv g 12) < 300 by omega) ((q_t.2.2.2.2.2.2.2.2.2.1 _ hlt).trans ef) ?_
          refine M.ialdv (k9 := 46) (j := f) (g := F 46) (v := ro (T 28) f 0) dX12_revoke_78 rfl rfl rfl rfl (show f < 200 by omega) (q_f.2.1 f hf) ?_
          refine M.iload_n dX12_revoke_79 rfl ?_
          refine M.icmp_ne (tgt := 95) dX12_revoke_80 (by decide) (fun c_80 => ?_) (fun c_80 => ?_)
          · skip
            have hrD : revD T g (fnd (T 3) (fv g 1)) = T 28 := by rw [revD, if_neg (fun q => by have h8 := q.2; rw [erf] at h8; exact c_80 h8)]
            refine M.iconst (v := 0) dX12_revoke_95 (by decide) ?_
            refine M.istore_n (L' := [some (.ref m), some (.int (nI (fnd (T 3) (fv g 1)))), some (.int (nI (hfn (T 21) (T 30) (fv g 12)))), some (.int 0)]) dX12_revoke_96 (by decide) rfl rfl ?_
            have cut_97 : ∀ (k_97 : Nat) (z : Nat) (a9 : Nat → Int32) (b9 : Nat → Int32), (z ≤ (T 29).length) → ((T 29).length + 1 ≤ z + k_97) → M Λ X mX12_revoke m A (mP (opRev N B T R)) (upd (upd (upd I 0 0) 2 0) 67 x9) (hs (setF (hs (f4 F a4 b4 c4 d4) a7 b7) 56 (rvG (F 56) (hfn (T 21) (T 29) (fv g 12)) z (ro (T 28) (rn (T 29) (hfn (T 21) (T 29) (fv g 12)) 1) 0 = nI (fnd (T 3) (fv g 1))))) a9 b9) 97 [some (.ref m), some (.int (nI (fnd (T 3) (fv g 1)))), some (.int (nI (hfn (T 21) (T 30) (fv g 12)))), some (.int (nI z))] [] := by
              intro k_97
              induction k_97 with
              | zero => intro z a9 b9 h1 h2; exact absurd h2 (by omega)
              | succ k_97 ih_97 =>
                intro z a9 b9 h1 h2
                refine M.iload_n dX12_revoke_97 rfl ?_
                refine M.aload_nR dX12_revoke_98 rfl ?_
                refine M.geti (v := nI (T 29).length) dX12_revoke_99 fl_X12_462 rfl rfl q_t.1 ?_
                refine M.icmp_ge (tgt := 164) dX12_revoke_102 (by decide) (fun c_102 => ?_) (fun c_102 => ?_)
                · skip
                  have e1 : z = (T 29).length := nI_gen c_102 h1 (by omega)
                  subst e1
                  refine M.aload_nR dX12_revoke_164 rfl ?_
                  refine M.sipush (v := 200) dX12_revoke_165 (by decide) ?_
                  refine M.iconst (v := 0) dX12_revoke_168 (by decide) ?_
                  refine M.callV [.int 200, .int 0] dX12_revoke_169 mdX12_ends imX12_ends seX12_ends lk_X12_328 rfl rfl rfl rfl (m_ends hA 200 0) ?_
                  rintro _ I9 F9 ⟨rfl, e9, e8⟩
                  have e9 := e9.symm; subst e9; have e8 := e8.symm; subst e8
                  refine M.sipush (v := 200) dX12_revoke_172 (by decide) ?_
                  refine M.iret dX12_revoke_175 rfl ?_
                  rw [opRev, hfm]
                  show mP (opRev1 N (setB B 0 []) T R g) _ _ _
                  rw [opRev1, if_neg (Int32.not_lt.mpr c_26), if_neg (fun q => q h0_12), hwc, hrD]
                  have hmt9 : mRt (upd (upd (upd (upd (upd (upd I 0 0) 2 0) 67 x9) 5 200) 6 0) 4 0) (hs (setF (hs (f4 F a4 b4 c4 d4) a7 b7) 56 (rvG (F 56) (hfn (T 21) (T 29) (fv g 12)) (T 29).length (ro (T 28) (rn (T 29) (hfn (T 21) (T 29) (fv g 12)) 1) 0 = nI (fnd (T 3) (fv g 1))))) a9 b9) (revA T g (fnd (T 3) (fv g 1))) (T 30) := by
                    rw [revA]
                    by_cases hq : (hfn (T 21) (T 29) (fv g 12)) < (T 29).length ∧ (ro (T 28) (rn (T 29) (hfn (T 21) (T 29) (fv g 12)) 1) 0 = nI (fnd (T 3) (fv g 1)))
                    · rw [if_pos hq]
                      exact q_t.rvk w_m.2.2.2.1 hq.1 rfl rfl rfl rfl rfl rfl (show rvG (F 56) (hfn (T 21) (T 29) (fv g 12)) (T 29).length (ro (T 28) (rn (T 29) (hfn (T 21) (T 29) (fv g 12)) 1) 0 = nI (fnd (T 3) (fv g 1))) = _ from if_pos hq) rfl rfl rfl rfl
                    · rw [if_neg hq]
                      have h56 : (rvG (F 56) (hfn (T 21) (T 29) (fv g 12)) (T 29).length (ro (T 28) (rn (T 29) (hfn (T 21) (T 29) (fv g 12)) 1) 0 = nI (fnd (T 3) (fv g 1)))) = F 56 := if_neg hq
                      rw [h56]
                      exact q_t
                  exact ⟨rfl, rfl, ⟨rfl, rfl, q_a.2.2⟩, ⟨rfl, rfl⟩, ⟨rfl, rfl, q_n.2.2⟩, q_w, q_c, q_r, q_x, q_q, q_k, q_f, hmt9⟩
                · skip
                  have lt_z : z < (T 29).length := nI_ltn c_102 (by omega) (by omega)
                  obtain ⟨z8, hz8, ez8⟩ := w_t.2.1 z lt_z
                  obtain ⟨f2, hf2, ef2⟩ := w_t.2.2.1 z lt_z
                  have er2 : rn (T 29) z 1 = f2 := rn_at ef2 (by omega)
                  have er0 : rn (T 29) z 0 = z8 := rn_at ez8 (by omega)
                  refine M.aload_nR dX12_revoke_105 rfl ?_
                  refine M.getr dX12_revoke_106 fl_X12_113 rfl rfl ?_
                  refine M.aload_nR dX12_revoke_109 rfl ?_
                  refine M.getr dX12_revoke_110 fl_X12_131 rfl rfl ?_
                  refine M.iload_n dX12_revoke_113 rfl ?_
                  refine M.ialdv (k9 := 53) (j := z) (g := F 53) (v := nI f2) dX12_revoke_114 rfl rfl rfl rfl (show z < 300 by omega) ((q_t.2.2.1 z lt_z).trans ef2) ?_
                  refine M.ialdv (k9 := 46) (j := f2) (g := F 46) (v := ro (T 28) f2 0) dX12_revoke_115 rfl rfl rfl rfl (show f2 < 200 by omega) (q_f.2.1 f2 hf2) ?_
                  refine M.iload_n dX12_revoke_116 rfl ?_
                  refine M.icmp_ne (tgt := 158) dX12_revoke_117 (by decide) (fun c_117 => ?_) (fun c_117 => ?_)
                  · skip
                    have hg9 : (rvG (F 56) (hfn (T 21) (T 29) (fv g 12)) (z + 1) (ro (T 28) (rn (T 29) (hfn (T 21) (T 29) (fv g 12)) 1) 0 = nI (fnd (T 3) (fv g 1)))) = (rvG (F 56) (hfn (T 21) (T 29) (fv g 12)) z (ro (T 28) (rn (T 29) (hfn (T 21) (T 29) (fv g 12)) 1) 0 = nI (fnd (T 3) (fv g 1)))) := (rvG_n (f := F 56) (kx := (hfn (T 21) (T 29) (fv g 12))) (z := z) (P := (ro (T 28) (rn (T 29) (hfn (T 21) (T 29) (fv g 12)) 1) 0 = nI (fnd (T 3) (fv g 1)))) (fun q hp => by rw [q, er2] at hp; exact c_117 hp))
                    rw [← hg9]
                    refine M.iinc (v := nI (z + 1)) (L' := [some (.ref m), some (.int (nI (fnd (T 3) (fv g 1)))), some (.int (nI (hfn (T 21) (T 30) (fv g 12)))), some (.int (nI (z + 1)))]) dX12_revoke_158 rfl (nI_1 z) (by decide) rfl rfl ?_
                    refine M.goto (tgt := 97) dX12_revoke_161 (by decide) ?_
                    exact ih_97 (z + 1) _ _ (by omega) (by omega)
                  · skip
                    refine M.aload_nR dX12_revoke_120 rfl ?_
                    refine M.aload_nR dX12_revoke_121 rfl ?_
                    refine M.getr dX12_revoke_122 fl_X12_128 rfl rfl ?_
                    refine M.iload_n dX12_revoke_125 rfl ?_
                    refine M.ialdv (k9 := 52) (j := z) (g := F 52) (v := nI z8) dX12_revoke_126 rfl rfl rfl rfl (show z < 300 by omega) ((q_t.2.1 z lt_z).trans ez8) ?_
                    refine M.aload_nR dX12_revoke_127 rfl ?_
                    refine M.getr dX12_revoke_128 fl_X12_155 rfl rfl ?_
                    refine M.aload_nR dX12_revoke_131 rfl ?_
                    refine M.getr dX12_revoke_132 fl_X12_158 rfl rfl ?_
                    refine M.bipush (v := 12) dX12_revoke_135 (by decide) ?_
                    refine M.ialdv (k9 := 64) (j := 12) (g := (f4 F a4 b4 c4 d4) 64) (v := nI i8) dX12_revoke_137 rfl rfl rfl rfl (show 12 < 13 by omega) a1 ?_
                    refine M.aload_nR dX12_revoke_138 rfl ?_
                    refine M.getr dX12_revoke_139 fl_X12_161 rfl rfl ?_
                    refine M.bipush (v := 12) dX12_revoke_142 (by decide) ?_
                    refine M.ialdv (k9 := 65) (j := 12) (g := (f4 F a4 b4 c4 d4) 65) (v := nI (fv g 12).length) dX12_revoke_144 rfl rfl rfl rfl (show 12 < 13 by omega) a2 ?_
                    refine M.callV [.int (nI z8), .ref (A 63), .int (nI i8), .int (nI (fv g 12).length)] dX12_revoke_145 mdX12_isHandle imX12_isHandle seX12_isHandle lk_X12_441 rfl rfl rfl rfl (m_isHandle hA (F := (hs (setF (hs (f4 F a4 b4 c4 d4) a7 b7) 56 (rvG (F 56) (hfn (T 21) (T 29) (fv g 12)) z (ro (T 28) (rn (T 29) (hfn (T 21) (T 29) (fv g 12)) 1) 0 = nI (fnd (T 3) (fv g 1))))) a9 b9)) (a := z8) (by omega) (d := (T 21).getD z8 []) (q_x.2.2.2 z8 hz8) (k1 := 63) rfl rfl (by decide) (by decide) a3 a4_) ?_
                    rintro _ I9 _ ⟨a6, b6, rfl, e9, rfl⟩; have e9 := e9.symm; subst e9
                    rw [hs_hs]
                    refine M.if_eq (tgt := 158) dX12_revoke_148 (by decide) (fun c_148 => ?_) (fun c_148 => ?_)
                    · skip
                      have hg9 : (rvG (F 56) (hfn (T 21) (T 29) (fv g 12)) (z + 1) (ro (T 28) (rn (T 29) (hfn (T 21) (T 29) (fv g 12)) 1) 0 = nI (fnd (T 3) (fv g 1)))) = (rvG (F 56) (hfn (T 21) (T 29) (fv g 12)) z (ro (T 28) (rn (T 29) (hfn (T 21) (T 29) (fv g 12)) 1) 0 = nI (fnd (T 3) (fv g 1)))) := (rvG_n (f := F 56) (kx := (hfn (T 21) (T 29) (fv g 12))) (z := z) (P := (ro (T 28) (rn (T 29) (hfn (T 21) (T 29) (fv g 12)) 1) 0 = nI (fnd (T 3) (fv g 1)))) (fun q hp => by exact of_decide_eq_false ((bI_eq0 _).mp c_148) (by have h8 := hfn_yes (U := (T 21)) (C := (T 29)) (v := fv g 12) (by rw [q]; exact lt_z); rw [q, er0] at h8; exact h8)))
                      rw [← hg9]
                      refine M.iinc (v := nI (z + 1)) (L' := [some (.ref m), some (.int (nI (fnd (T 3) (fv g 1)))), some (.int (nI (hfn (T 21) (T 30) (fv g 12)))), some (.int (nI (z + 1)))]) dX12_revoke_158 rfl (nI_1 z) (by decide) rfl rfl ?_
                      refine M.goto (tgt := 97) dX12_revoke_161 (by decide) ?_
                      exact ih_97 (z + 1) _ _ (by omega) (by omega)
                    · skip
                      have hmt : fv g 12 = b64 ((T 21).getD (rn (T 29) z 0) []) 22 := by rw [er0]; exact of_decide_eq_true (bt1 c_148)
                      have hle := hfn_le lt_z hmt
                      have hkz : (hfn (T 21) (T 29) (fv g 12)) = z := one_E w_x.2.2.1 w_x.2.2.2.1 w_t.2.1 (by omega) (by omega) w_m.1.2.2.2.1 (by omega) lt_z (hfn_yes (by omega)) hmt
                      refine M.aload_nR dX12_revoke_151 rfl ?_
                      refine M.getr dX12_revoke_152 fl_X12_140 rfl rfl ?_
                      refine M.iload_n dX12_revoke_155 rfl ?_
                      refine M.iconst (v := 1) dX12_revoke_156 (by decide) ?_
                      refine M.zast1 (k9 := 56) (j := z) dX12_revoke_157 rfl rfl rfl (show z < 300 by omega) (by decide) ?_
                      rw [hs_updF56, updF_set, rvG_y hkz (show (ro (T 28) (rn (T 29) (hfn (T 21) (T 29) (fv g 12)) 1) 0 = nI (fnd (T 3) (fv g 1))) by rw [hkz, er2]; exact c_117)]
                      refine M.iinc (v := nI (z + 1)) (L' := [some (.ref m), some (.int (nI (fnd (T 3) (fv g 1)))), some (.int (nI (hfn (T 21) (T 30) (fv g 12)))), some (.int (nI (z + 1)))]) dX12_revoke_158 rfl (nI_1 z) (by decide) rfl rfl ?_
                      refine M.goto (tgt := 97) dX12_revoke_161 (by decide) ?_
                      exact ih_97 (z + 1) _ _ (by omega) (by omega)
            have t9 := cut_97 ((T 29).length + 1) 0 ((hs (f4 F a4 b4 c4 d4) a7 b7) 68) ((hs (f4 F a4 b4 c4 d4) a7 b7) 69) (by omega) (by omega)
            rw [rvG_0, show setF (hs (f4 F a4 b4 c4 d4) a7 b7) 56 (F 56) = (hs (f4 F a4 b4 c4 d4) a7 b7) from setF_self (hs (f4 F a4 b4 c4 d4) a7 b7) 56, hs_id] at t9
            exact t9
          · skip
            refine M.aload_nR dX12_revoke_83 rfl ?_
            refine M.getr dX12_revoke_84 fl_X12_125 rfl rfl ?_
            refine M.aload_nR dX12_revoke_87 rfl ?_
            refine M.getr dX12_revoke_88 fl_X12_146 rfl rfl ?_
            refine M.iload_n dX12_revoke_91 rfl ?_
            refine M.ialdv (k9 := 59) (j := hfn (T 21) (T 30) (fv g 12)) (g := F 59) (v := nI f) dX12_revoke_92 rfl rfl rfl rfl (show hfn (T 21) (T 30) (fv g 12) < 300 by omega) ((q_t.2.2.2.2.2.2.2.2.2.1 _ hlt).trans ef) ?_
            refine M.iconst (v := 1) dX12_revoke_93 (by decide) ?_
            refine M.zast1 (k9 := 50) (j := f) dX12_revoke_94 rfl rfl rfl (show f < 200 by omega) (by decide) ?_
            have hrD : revD T g (fnd (T 3) (fv g 1)) = stc (T 28) f 4 1 := by rw [revD, if_pos ⟨hlt, by rw [erf]; exact c_80⟩, erf]
            refine M.iconst (v := 0) dX12_revoke_95 (by decide) ?_
            refine M.istore_n (L' := [some (.ref m), some (.int (nI (fnd (T 3) (fv g 1)))), some (.int (nI (hfn (T 21) (T 30) (fv g 12)))), some (.int 0)]) dX12_revoke_96 (by decide) rfl rfl ?_
            have cut_97 : ∀ (k_97 : Nat) (z : Nat) (a9 : Nat → Int32) (b9 : Nat → Int32), (z ≤ (T 29).length) → ((T 29).length + 1 ≤ z + k_97) → M Λ X mX12_revoke m A (mP (opRev N B T R)) (upd (upd (upd I 0 0) 2 0) 67 x9) (hs (setF (updF (hs (f4 F a4 b4 c4 d4) a7 b7) 50 f 1) 56 (rvG (F 56) (hfn (T 21) (T 29) (fv g 12)) z (ro (T 28) (rn (T 29) (hfn (T 21) (T 29) (fv g 12)) 1) 0 = nI (fnd (T 3) (fv g 1))))) a9 b9) 97 [some (.ref m), some (.int (nI (fnd (T 3) (fv g 1)))), some (.int (nI (hfn (T 21) (T 30) (fv g 12)))), some (.int (nI z))] [] := by
              intro k_97
              induction k_97 with
              | zero => intro z a9 b9 h1 h2; exact absurd h2 (by omega)
              | succ k_97 ih_97 =>
                intro z a9 b9 h1 h2
                refine M.iload_n dX12_revoke_97 rfl ?_
                refine M.aload_nR dX12_revoke_98 rfl ?_
                refine M.geti (v := nI (T 29).length) dX12_revoke_99 fl_X12_462 rfl rfl q_t.1 ?_
                refine M.icmp_ge (tgt := 164) dX12_revoke_102 (by decide) (fun c_102 => ?_) (fun c_102 => ?_)
                · skip
                  have e1 : z = (T 29).length := nI_gen c_102 h1 (by omega)
                  subst e1
                  refine M.aload_nR dX12_revoke_164 rfl ?_
                  refine M.sipush (v := 200) dX12_revoke_165 (by decide) ?_
                  refine M.iconst (v := 0) dX12_revoke_168 (by decide) ?_
                  refine M.callV [.int 200, .int 0] dX12_revoke_169 mdX12_ends imX12_ends seX12_ends lk_X12_328 rfl rfl rfl rfl (m_ends hA 200 0) ?_
                  rintro _ I9 F9 ⟨rfl, e9, e8⟩
                  have e9 := e9.symm; subst e9; have e8 := e8.symm; subst e8
                  refine M.sipush (v := 200) dX12_revoke_172 (by decide) ?_
                  refine M.iret dX12_revoke_175 rfl ?_
                  rw [opRev, hfm]
                  show mP (opRev1 N (setB B 0 []) T R g) _ _ _
                  rw [opRev1, if_neg (Int32.not_lt.mpr c_26), if_neg (fun q => q h0_12), hwc, hrD]
                  have hmt9 : mRt (upd (upd (upd (upd (upd (upd I 0 0) 2 0) 67 x9) 5 200) 6 0) 4 0) (hs (setF (updF (hs (f4 F a4 b4 c4 d4) a7 b7) 50 f 1) 56 (rvG (F 56) (hfn (T 21) (T 29) (fv g 12)) (T 29).length (ro (T 28) (rn (T 29) (hfn (T 21) (T 29) (fv g 12)) 1) 0 = nI (fnd (T 3) (fv g 1))))) a9 b9) (revA T g (fnd (T 3) (fv g 1))) (T 30) := by
                    rw [revA]
                    by_cases hq : (hfn (T 21) (T 29) (fv g 12)) < (T 29).length ∧ (ro (T 28) (rn (T 29) (hfn (T 21) (T 29) (fv g 12)) 1) 0 = nI (fnd (T 3) (fv g 1)))
                    · rw [if_pos hq]
                      exact q_t.rvk w_m.2.2.2.1 hq.1 rfl rfl rfl rfl rfl rfl (show rvG (F 56) (hfn (T 21) (T 29) (fv g 12)) (T 29).length (ro (T 28) (rn (T 29) (hfn (T 21) (T 29) (fv g 12)) 1) 0 = nI (fnd (T 3) (fv g 1))) = _ from if_pos hq) rfl rfl rfl rfl
                    · rw [if_neg hq]
                      have h56 : (rvG (F 56) (hfn (T 21) (T 29) (fv g 12)) (T 29).length (ro (T 28) (rn (T 29) (hfn (T 21) (T 29) (fv g 12)) 1) 0 = nI (fnd (T 3) (fv g 1)))) = F 56 := if_neg hq
                      rw [h56]
                      exact q_t
                  exact ⟨rfl, rfl, ⟨rfl, rfl, q_a.2.2⟩, ⟨rfl, rfl⟩, ⟨rfl, rfl, q_n.2.2⟩, q_w, q_c, q_r, q_x, q_q, q_k, q_f.back w_m.2.2.1 hf rfl rfl rfl rfl rfl rfl, hmt9⟩
                · skip
                  have lt_z : z < (T 29).length := nI_ltn c_102 (by omega) (by omega)
                  obtain ⟨z8, hz8, ez8⟩ := w_t.2.1 z lt_z
                  obtain ⟨f2, hf2, ef2⟩ := w_t.2.2.1 z lt_z
                  have er2 : rn (T 29) z 1 = f2 := rn_at ef2 (by omega)
                  have er0 : rn (T 29) z 0 = z8 := rn_at ez8 (by omega)
                  refine M.aload_nR dX12_revoke_105 rfl ?_
                  refine M.getr dX12_revoke_106 fl_X12_113 rfl rfl ?_
                  refine M.aload_nR dX12_revoke_109 rfl ?_
                  refine M.getr dX12_revoke_110 fl_X12_131 rfl rfl ?_
                  refine M.iload_n dX12_revoke_113 rfl ?_
                  refine M.ialdv (k9 := 53) (j := z) (g := F 53) (v := nI f2) dX12_revoke_114 rfl rfl rfl rfl (show z < 300 by omega) ((q_t.2.2.1 z lt_z).trans ef2) ?_
                  refine M.ialdv (k9 := 46) (j := f2) (g := F 46) (v := ro (T 28) f2 0) dX12_revoke_115 rfl rfl rfl rfl (show f2 < 200 by omega) (q_f.2.1 f2 hf2) ?_
                  refine M.iload_n dX12_revoke_116 rfl ?_
                  refine M.icmp_ne (tgt := 158) dX12_revoke_117 (by decide) (fun c_117 => ?_) (fun c_117 => ?_)
                  · skip
                    have hg9 : (rvG (F 56) (hfn (T 21) (T 29) (fv g 12)) (z + 1) (ro (T 28) (rn (T 29) (hfn (T 21) (T 29) (fv g 12)) 1) 0 = nI (fnd (T 3) (fv g 1)))) = (rvG (F 56) (hfn (T 21) (T 29) (fv g 12)) z (ro (T 28) (rn (T 29) (hfn (T 21) (T 29) (fv g 12)) 1) 0 = nI (fnd (T 3) (fv g 1)))) := (rvG_n (f := F 56) (kx := (hfn (T 21) (T 29) (fv g 12))) (z := z) (P := (ro (T 28) (rn (T 29) (hfn (T 21) (T 29) (fv g 12)) 1) 0 = nI (fnd (T 3) (fv g 1)))) (fun q hp => by rw [q, er2] at hp; exact c_117 hp))
                    rw [← hg9]
                    refine M.iinc (v := nI (z + 1)) (L' := [some (.ref m), some (.int (nI (fnd (T 3) (fv g 1)))), some (.int (nI (hfn (T 21) (T 30) (fv g 12)))), some (.int (nI (z + 1)))]) dX12_revoke_158 rfl (nI_1 z) (by decide) rfl rfl ?_
                    refine M.goto (tgt := 97) dX12_revoke_161 (by decide) ?_
                    exact ih_97 (z + 1) _ _ (by omega) (by omega)
                  · skip
                    refine M.aload_nR dX12_revoke_120 rfl ?_
                    refine M.aload_nR dX12_revoke_121 rfl ?_
                    refine M.getr dX12_revoke_122 fl_X12_128 rfl rfl ?_
                    refine M.iload_n dX12_revoke_125 rfl ?_
                    refine M.ialdv (k9 := 52) (j := z) (g := F 52) (v := nI z8) dX12_revoke_126 rfl rfl rfl rfl (show z < 300 by omega) ((q_t.2.1 z lt_z).trans ez8) ?_
                    refine M.aload_nR dX12_revoke_127 rfl ?_
                    refine M.getr dX12_revoke_128 fl_X12_155 rfl rfl ?_
                    refine M.aload_nR dX12_revoke_131 rfl ?_
                    refine M.getr dX12_revoke_132 fl_X12_158 rfl rfl ?_
                    refine M.bipush (v := 12) dX12_revoke_135 (by decide) ?_
                    refine M.ialdv (k9 := 64) (j := 12) (g := (f4 F a4 b4 c4 d4) 64) (v := nI i8) dX12_revoke_137 rfl rfl rfl rfl (show 12 < 13 by omega) a1 ?_
                    refine M.aload_nR dX12_revoke_138 rfl ?_
                    refine M.getr dX12_revoke_139 fl_X12_161 rfl rfl ?_
                    refine M.bipush (v := 12) dX12_revoke_142 (by decide) ?_
                    refine M.ialdv (k9 := 65) (j := 12) (g := (f4 F a4 b4 c4 d4) 65) (v := nI (fv g 12).length) dX12_revoke_144 rfl rfl rfl rfl (show 12 < 13 by omega) a2 ?_
                    refine M.callV [.int (nI z8), .ref (A 63), .int (nI i8), .int (nI (fv g 12).length)] dX12_revoke_145 mdX12_isHandle imX12_isHandle seX12_isHandle lk_X12_441 rfl rfl rfl rfl (m_isHandle hA (F := (hs (setF (updF (hs (f4 F a4 b4 c4 d4) a7 b7) 50 f 1) 56 (rvG (F 56) (hfn (T 21) (T 29) (fv g 12)) z (ro (T 28) (rn (T 29) (hfn (T 21) (T 29) (fv g 12)) 1) 0 = nI (fnd (T 3) (fv g 1))))) a9 b9)) (a := z8) (by omega) (d := (T 21).getD z8 []) (q_x.2.2.2 z8 hz8) (k1 := 63) rfl rfl (by decide) (by decide) a3 a4_) ?_
                    rintro _ I9 _ ⟨a6, b6, rfl, e9, rfl⟩; have e9 := e9.symm; subst e9
                    rw [hs_hs]
                    refine M.if_eq (tgt := 158) dX12_revoke_148 (by decide) (fun c_148 => ?_) (fun c_148 => ?_)
                    · skip
                      have hg9 : (rvG (F 56) (hfn (T 21) (T 29) (fv g 12)) (z + 1) (ro (T 28) (rn (T 29) (hfn (T 21) (T 29) (fv g 12)) 1) 0 = nI (fnd (T 3) (fv g 1)))) = (rvG (F 56) (hfn (T 21) (T 29) (fv g 12)) z (ro (T 28) (rn (T 29) (hfn (T 21) (T 29) (fv g 12)) 1) 0 = nI (fnd (T 3) (fv g 1)))) := (rvG_n (f := F 56) (kx := (hfn (T 21) (T 29) (fv g 12))) (z := z) (P := (ro (T 28) (rn (T 29) (hfn (T 21) (T 29) (fv g 12)) 1) 0 = nI (fnd (T 3) (fv g 1)))) (fun q hp => by exact of_decide_eq_false ((bI_eq0 _).mp c_148) (by have h8 := hfn_yes (U := (T 21)) (C := (T 29)) (v := fv g 12) (by rw [q]; exact lt_z); rw [q, er0] at h8; exact h8)))
                      rw [← hg9]
                      refine M.iinc (v := nI (z + 1)) (L' := [some (.ref m), some (.int (nI (fnd (T 3) (fv g 1)))), some (.int (nI (hfn (T 21) (T 30) (fv g 12)))), some (.int (nI (z + 1)))]) dX12_revoke_158 rfl (nI_1 z) (by decide) rfl rfl ?_
                      refine M.goto (tgt := 97) dX12_revoke_161 (by decide) ?_
                      exact ih_97 (z + 1) _ _ (by omega) (by omega)
                    · skip
                      have hmt : fv g 12 = b64 ((T 21).getD (rn (T 29) z 0) []) 22 := by rw [er0]; exact of_decide_eq_true (bt1 c_148)
                      have hle := hfn_le lt_z hmt
                      have hkz : (hfn (T 21) (T 29) (fv g 12)) = z := one_E w_x.2.2.1 w_x.2.2.2.1 w_t.2.1 (by omega) (by omega) w_m.1.2.2.2.1 (by omega) lt_z (hfn_yes (by omega)) hmt
                      refine M.aload_nR dX12_revoke_151 rfl ?_
                      refine M.getr dX12_revoke_152 fl_X12_140 rfl rfl ?_
                      refine M.iload_n dX12_revoke_155 rfl ?_
                      refine M.iconst (v := 1) dX12_revoke_156 (by decide) ?_
                      refine M.zast1 (k9 := 56) (j := z) dX12_revoke_157 rfl rfl rfl (show z < 300 by omega) (by decide) ?_
                      rw [hs_updF56, updF_set, rvG_y hkz (show (ro (T 28) (rn (T 29) (hfn (T 21) (T 29) (fv g 12)) 1) 0 = nI (fnd (T 3) (fv g 1))) by rw [hkz, er2]; exact c_117)]
                      refine M.iinc (v := nI (z + 1)) (L' := [some (.ref m), some (.int (nI (fnd (T 3) (fv g 1)))), some (.int (nI (hfn (T 21) (T 30) (fv g 12)))), some (.int (nI (z + 1)))]) dX12_revoke_158 rfl (nI_1 z) (by decide) rfl rfl ?_
                      refine M.goto (tgt := 97) dX12_revoke_161 (by decide) ?_
                      exact ih_97 (z + 1) _ _ (by omega) (by omega)
            have t9 := cut_97 ((T 29).length + 1) 0 ((updF (hs (f4 F a4 b4 c4 d4) a7 b7) 50 f 1) 68) ((updF (hs (f4 F a4 b4 c4 d4) a7 b7) 50 f 1) 69) (by omega) (by omega)
            rw [rvG_0, show setF (updF (hs (f4 F a4 b4 c4 d4) a7 b7) 50 f 1) 56 (F 56) = (updF (hs (f4 F a4 b4 c4 d4) a7 b7) 50 f 1) from setF_self (updF (hs (f4 F a4 b4 c4 d4) a7 b7) 50 f 1) 56, hs_id] at t9
            exact t9
        · rw [if_neg hlt]
          refine M.istore_n (L' := [some (.ref m), some (.int (nI (fnd (T 3) (fv g 1)))), some (.int (-1)), none]) dX12_revoke_63 (by decide) rfl rfl ?_
          refine M.iload_n dX12_revoke_64 rfl ?_
          refine M.if_lt (tgt := 95) dX12_revoke_65 (by decide) (fun c_65 => ?_) (fun c_65 => absurd (by decide) c_65)
          have hrD : revD T g (fnd (T 3) (fv g 1)) = T 28 := by rw [revD, if_neg (fun q => hlt q.1)]
          refine M.iconst (v := 0) dX12_revoke_95 (by decide) ?_
          refine M.istore_n (L' := [some (.ref m), some (.int (nI (fnd (T 3) (fv g 1)))), some (.int (-1)), some (.int 0)]) dX12_revoke_96 (by decide) rfl rfl ?_
          have cut_97 : ∀ (k_97 : Nat) (z : Nat) (a9 : Nat → Int32) (b9 : Nat → Int32), (z ≤ (T 29).length) → ((T 29).length + 1 ≤ z + k_97) → M Λ X mX12_revoke m A (mP (opRev N B T R)) (upd (upd (upd I 0 0) 2 0) 67 x9) (hs (setF (hs (f4 F a4 b4 c4 d4) a7 b7) 56 (rvG (F 56) (hfn (T 21) (T 29) (fv g 12)) z (ro (T 28) (rn (T 29) (hfn (T 21) (T 29) (fv g 12)) 1) 0 = nI (fnd (T 3) (fv g 1))))) a9 b9) 97 [some (.ref m), some (.int (nI (fnd (T 3) (fv g 1)))), some (.int (-1)), some (.int (nI z))] [] := by
            intro k_97
            induction k_97 with
            | zero => intro z a9 b9 h1 h2; exact absurd h2 (by omega)
            | succ k_97 ih_97 =>
              intro z a9 b9 h1 h2
              refine M.iload_n dX12_revoke_97 rfl ?_
              refine M.aload_nR dX12_revoke_98 rfl ?_
              refine M.geti (v := nI (T 29).length) dX12_revoke_99 fl_X12_462 rfl rfl q_t.1 ?_
              refine M.icmp_ge (tgt := 164) dX12_revoke_102 (by decide) (fun c_102 => ?_) (fun c_102 => ?_)
              · skip
                have e1 : z = (T 29).length := nI_gen c_102 h1 (by omega)
                subst e1
                refine M.aload_nR dX12_revoke_164 rfl ?_
                refine M.sipush (v := 200) dX12_revoke_165 (by decide) ?_
                refine M.iconst (v := 0) dX12_revoke_168 (by decide) ?_
                refine M.callV [.int 200, .int 0] dX12_revoke_169 mdX12_ends imX12_ends seX12_ends lk_X12_328 rfl rfl rfl rfl (m_ends hA 200 0) ?_
                rintro _ I9 F9 ⟨rfl, e9, e8⟩
                have e9 := e9.symm; subst e9; have e8 := e8.symm; subst e8
                refine M.sipush (v := 200) dX12_revoke_172 (by decide) ?_
                refine M.iret dX12_revoke_175 rfl ?_
                rw [opRev, hfm]
                show mP (opRev1 N (setB B 0 []) T R g) _ _ _
                rw [opRev1, if_neg (Int32.not_lt.mpr c_26), if_neg (fun q => q h0_12), hwc, hrD]
                have hmt9 : mRt (upd (upd (upd (upd (upd (upd I 0 0) 2 0) 67 x9) 5 200) 6 0) 4 0) (hs (setF (hs (f4 F a4 b4 c4 d4) a7 b7) 56 (rvG (F 56) (hfn (T 21) (T 29) (fv g 12)) (T 29).length (ro (T 28) (rn (T 29) (hfn (T 21) (T 29) (fv g 12)) 1) 0 = nI (fnd (T 3) (fv g 1))))) a9 b9) (revA T g (fnd (T 3) (fv g 1))) (T 30) := by
                  rw [revA]
                  by_cases hq : (hfn (T 21) (T 29) (fv g 12)) < (T 29).length ∧ (ro (T 28) (rn (T 29) (hfn (T 21) (T 29) (fv g 12)) 1) 0 = nI (fnd (T 3) (fv g 1)))
                  · rw [if_pos hq]
                    exact q_t.rvk w_m.2.2.2.1 hq.1 rfl rfl rfl rfl rfl rfl (show rvG (F 56) (hfn (T 21) (T 29) (fv g 12)) (T 29).length (ro (T 28) (rn (T 29) (hfn (T 21) (T 29) (fv g 12)) 1) 0 = nI (fnd (T 3) (fv g 1))) = _ from if_pos hq) rfl rfl rfl rfl
                  · rw [if_neg hq]
                    have h56 : (rvG (F 56) (hfn (T 21) (T 29) (fv g 12)) (T 29).length (ro (T 28) (rn (T 29) (hfn (T 21) (T 29) (fv g 12)) 1) 0 = nI (fnd (T 3) (fv g 1)))) = F 56 := if_neg hq
                    rw [h56]
                    exact q_t
                exact ⟨rfl, rfl, ⟨rfl, rfl, q_a.2.2⟩, ⟨rfl, rfl⟩, ⟨rfl, rfl, q_n.2.2⟩, q_w, q_c, q_r, q_x, q_q, q_k, q_f, hmt9⟩
              · skip
                have lt_z : z < (T 29).length := nI_ltn c_102 (by omega) (by omega)
                obtain ⟨z8, hz8, ez8⟩ := w_t.2.1 z lt_z
                obtain ⟨f2, hf2, ef2⟩ := w_t.2.2.1 z lt_z
                have er2 : rn (T 29) z 1 = f2 := rn_at ef2 (by omega)
                have er0 : rn (T 29) z 0 = z8 := rn_at ez8 (by omega)
                refine M.aload_nR dX12_revoke_105 rfl ?_
                refine M.getr dX12_revoke_106 fl_X12_113 rfl rfl ?_
                refine M.aload_nR dX12_revoke_109 rfl ?_
                refine M.getr dX12_revoke_110 fl_X12_131 rfl rfl ?_
                refine M.iload_n dX12_revoke_113 rfl ?_
                refine M.ialdv (k9 := 53) (j := z) (g := F 53) (v := nI f2) dX12_revoke_114 rfl rfl rfl rfl (show z < 300 by omega) ((q_t.2.2.1 z lt_z).trans ef2) ?_
                refine M.ialdv (k9 := 46) (j := f2) (g := F 46) (v := ro (T 28) f2 0) dX12_revoke_115 rfl rfl rfl rfl (show f2 < 200 by omega) (q_f.2.1 f2 hf2) ?_
                refine M.iload_n dX12_revoke_116 rfl ?_
                refine M.icmp_ne (tgt := 158) dX12_revoke_117 (by decide) (fun c_117 => ?_) (fun c_117 => ?_)
                · skip
                  have hg9 : (rvG (F 56) (hfn (T 21) (T 29) (fv g 12)) (z + 1) (ro (T 28) (rn (T 29) (hfn (T 21) (T 29) (fv g 12)) 1) 0 = nI (fnd (T 3) (fv g 1)))) = (rvG (F 56) (hfn (T 21) (T 29) (fv g 12)) z (ro (T 28) (rn (T 29) (hfn (T 21) (T 29) (fv g 12)) 1) 0 = nI (fnd (T 3) (fv g 1)))) := (rvG_n (f := F 56) (kx := (hfn (T 21) (T 29) (fv g 12))) (z := z) (P := (ro (T 28) (rn (T 29) (hfn (T 21) (T 29) (fv g 12)) 1) 0 = nI (fnd (T 3) (fv g 1)))) (fun q hp => by rw [q, er2] at hp; exact c_117 hp))
                  rw [← hg9]
                  refine M.iinc (v := nI (z + 1)) (L' := [some (.ref m), some (.int (nI (fnd (T 3) (fv g 1)))), some (.int (-1)), some (.int (nI (z + 1)))]) dX12_revoke_158 rfl (nI_1 z) (by decide) rfl rfl ?_
                  refine M.goto (tgt := 97) dX12_revoke_161 (by decide) ?_
                  exact ih_97 (z + 1) _ _ (by omega) (by omega)
                · skip
                  refine M.aload_nR dX12_revoke_120 rfl ?_
                  refine M.aload_nR dX12_revoke_121 rfl ?_
                  refine M.getr dX12_revoke_122 fl_X12_128 rfl rfl ?_
                  refine M.iload_n dX12_revoke_125 rfl ?_
                  refine M.ialdv (k9 := 52) (j := z) (g := F 52) (v := nI z8) dX12_revoke_126 rfl rfl rfl rfl (show z < 300 by omega) ((q_t.2.1 z lt_z).trans ez8) ?_
                  refine M.aload_nR dX12_revoke_127 rfl ?_
                  refine M.getr dX12_revoke_128 fl_X12_155 rfl rfl ?_
                  refine M.aload_nR dX12_revoke_131 rfl ?_
                  refine M.getr dX12_revoke_132 fl_X12_158 rfl rfl ?_
                  refine M.bipush (v := 12) dX12_revoke_135 (by decide) ?_
                  refine M.ialdv (k9 := 64) (j := 12) (g := (f4 F a4 b4 c4 d4) 64) (v := nI i8) dX12_revoke_137 rfl rfl rfl rfl (show 12 < 13 by omega) a1 ?_
                  refine M.aload_nR dX12_revoke_138 rfl ?_
                  refine M.getr dX12_revoke_139 fl_X12_161 rfl rfl ?_
                  refine M.bipush (v := 12) dX12_revoke_142 (by decide) ?_
                  refine M.ialdv (k9 := 65) (j := 12) (g := (f4 F a4 b4 c4 d4) 65) (v := nI (fv g 12).length) dX12_revoke_144 rfl rfl rfl rfl (show 12 < 13 by omega) a2 ?_
                  refine M.callV [.int (nI z8), .ref (A 63), .int (nI i8), .int (nI (fv g 12).length)] dX12_revoke_145 mdX12_isHandle imX12_isHandle seX12_isHandle lk_X12_441 rfl rfl rfl rfl (m_isHandle hA (F := (hs (setF (hs (f4 F a4 b4 c4 d4) a7 b7) 56 (rvG (F 56) (hfn (T 21) (T 29) (fv g 12)) z (ro (T 28) (rn (T 29) (hfn (T 21) (T 29) (fv g 12)) 1) 0 = nI (fnd (T 3) (fv g 1))))) a9 b9)) (a := z8) (by omega) (d := (T 21).getD z8 []) (q_x.2.2.2 z8 hz8) (k1 := 63) rfl rfl (by decide) (by decide) a3 a4_) ?_
                  rintro _ I9 _ ⟨a6, b6, rfl, e9, rfl⟩; have e9 := e9.symm; subst e9
                  rw [hs_hs]
                  refine M.if_eq (tgt := 158) dX12_revoke_148 (by decide) (fun c_148 => ?_) (fun c_148 => ?_)
                  · skip
                    have hg9 : (rvG (F 56) (hfn (T 21) (T 29) (fv g 12)) (z + 1) (ro (T 28) (rn (T 29) (hfn (T 21) (T 29) (fv g 12)) 1) 0 = nI (fnd (T 3) (fv g 1)))) = (rvG (F 56) (hfn (T 21) (T 29) (fv g 12)) z (ro (T 28) (rn (T 29) (hfn (T 21) (T 29) (fv g 12)) 1) 0 = nI (fnd (T 3) (fv g 1)))) := (rvG_n (f := F 56) (kx := (hfn (T 21) (T 29) (fv g 12))) (z := z) (P := (ro (T 28) (rn (T 29) (hfn (T 21) (T 29) (fv g 12)) 1) 0 = nI (fnd (T 3) (fv g 1)))) (fun q hp => by exact of_decide_eq_false ((bI_eq0 _).mp c_148) (by have h8 := hfn_yes (U := (T 21)) (C := (T 29)) (v := fv g 12) (by rw [q]; exact lt_z); rw [q, er0] at h8; exact h8)))
                    rw [← hg9]
                    refine M.iinc (v := nI (z + 1)) (L' := [some (.ref m), some (.int (nI (fnd (T 3) (fv g 1)))), some (.int (-1)), some (.int (nI (z + 1)))]) dX12_revoke_158 rfl (nI_1 z) (by decide) rfl rfl ?_
                    refine M.goto (tgt := 97) dX12_revoke_161 (by decide) ?_
                    exact ih_97 (z + 1) _ _ (by omega) (by omega)
                  · skip
                    have hmt : fv g 12 = b64 ((T 21).getD (rn (T 29) z 0) []) 22 := by rw [er0]; exact of_decide_eq_true (bt1 c_148)
                    have hle := hfn_le lt_z hmt
                    have hkz : (hfn (T 21) (T 29) (fv g 12)) = z := one_E w_x.2.2.1 w_x.2.2.2.1 w_t.2.1 (by omega) (by omega) w_m.1.2.2.2.1 (by omega) lt_z (hfn_yes (by omega)) hmt
                    refine M.aload_nR dX12_revoke_151 rfl ?_
                    refine M.getr dX12_revoke_152 fl_X12_140 rfl rfl ?_
                    refine M.iload_n dX12_revoke_155 rfl ?_
                    refine M.iconst (v := 1) dX12_revoke_156 (by decide) ?_
                    refine M.zast1 (k9 := 56) (j := z) dX12_revoke_157 rfl rfl rfl (show z < 300 by omega) (by decide) ?_
                    rw [hs_updF56, updF_set, rvG_y hkz (show (ro (T 28) (rn (T 29) (hfn (T 21) (T 29) (fv g 12)) 1) 0 = nI (fnd (T 3) (fv g 1))) by rw [hkz, er2]; exact c_117)]
                    refine M.iinc (v := nI (z + 1)) (L' := [some (.ref m), some (.int (nI (fnd (T 3) (fv g 1)))), some (.int (-1)), some (.int (nI (z + 1)))]) dX12_revoke_158 rfl (nI_1 z) (by decide) rfl rfl ?_
                    refine M.goto (tgt := 97) dX12_revoke_161 (by decide) ?_
                    exact ih_97 (z + 1) _ _ (by omega) (by omega)
          have t9 := cut_97 ((T 29).length + 1) 0 ((hs (f4 F a4 b4 c4 d4) a7 b7) 68) ((hs (f4 F a4 b4 c4 d4) a7 b7) 69) (by omega) (by omega)
          rw [rvG_0, show setF (hs (f4 F a4 b4 c4 d4) a7 b7) 56 (F 56) = (hs (f4 F a4 b4 c4 d4) a7 b7) from setF_self (hs (f4 F a4 b4 c4 d4) a7 b7) 56, hs_id] at t9
          exact t9
      · skip
        have hno := of_decide_eq_false ((bI_eq0 _).mp c_45)
        refine M.aload_nR dX12_revoke_48 rfl ?_
        refine M.sipush (v := 400) dX12_revoke_49 (by decide) ?_
        refine M.iconst (v := 1) dX12_revoke_52 (by decide) ?_
        refine M.callV [.int 400, .int 1] dX12_revoke_53 mdX12_refuses imX12_refuses seX12_refuses lk_X12_421 rfl rfl rfl rfl (m_refuses_1 hA hSt 400) ?_
        rintro _ I9 F9 ⟨rfl, e9, e8⟩
        have e9 := e9.symm; subst e9; have e8 := e8.symm; subst e8
        refine M.iret dX12_revoke_56 rfl ?_
        rw [opRev, hfm]
        show mP (opRev1 N (setB B 0 []) T R g) _ _ _
        rw [opRev1, if_neg (Int32.not_lt.mpr c_26), if_pos hno]
        exact ⟨rfl, rfl, ⟨rfl, rfl, q_a.2.2⟩, mRb.fo rfl rfl, ⟨rfl, rfl, q_n.2.2⟩, q_w, q_c, q_r, q_x, q_q, q_k, q_f, q_t⟩
    · skip
      have hneg : whoT T g < 0 := Int32.not_le.mp c_26
      refine M.aload_nR dX12_revoke_29 rfl ?_
      refine M.sipush (v := 401) dX12_revoke_30 (by decide) ?_
      refine M.bipush (v := 6) dX12_revoke_33 (by decide) ?_
      refine M.callV [.int 401, .int 6] dX12_revoke_35 mdX12_refuses imX12_refuses seX12_refuses lk_X12_421 rfl rfl rfl rfl (m_refuses_6 hA hSt 401) ?_
      rintro _ I9 F9 ⟨rfl, e9, e8⟩
      have e9 := e9.symm; subst e9; have e8 := e8.symm; subst e8
      refine M.iret dX12_revoke_38 rfl ?_
      rw [opRev, hfm]
      show mP (opRev1 N (setB B 0 []) T R g) _ _ _
      rw [opRev1, if_pos hneg]
      exact ⟨rfl, rfl, ⟨rfl, rfl, q_a.2.2⟩, mRb.fo rfl rfl, ⟨rfl, rfl, q_n.2.2⟩, q_w, q_c, q_r, q_x, q_q, q_k, q_f, q_t⟩
