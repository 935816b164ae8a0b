/-! the class: who asks, and for what -/
theorem who_sh {T S : List (List Int32)} {cf : Nat → Bool} {v s : List Int32} (h0 : 0 < v.length) (hlt : fnd T v < T.length) (hsec : cf (fnd T v) = true → 1 ≤ (S.getD (fnd T v) []).length) : whoS T S cf v s = if (if cf (fnd T v) = true then decide (S.getD (fnd T v) [] = s) else !decide (0 < s.length)) = true then nI (fnd T v) else -1 := by
  rw [whoS, if_pos ⟨h0, hlt⟩]
  cases hc : cf (fnd T v) with
  | false => rfl
  | true =>
    rw [if_pos rfl, if_pos rfl]
    by_cases h : S.getD (fnd T v) [] = s
    · have := hsec hc
      rw [h] at this
      rw [decide_eq_true h, decide_eq_true h.symm, decide_eq_true (show 0 < s.length from this)]
      rfl
    · rw [decide_eq_false h, decide_eq_false (show ¬ s = S.getD (fnd T v) [] from fun q => h q.symm), Bool.and_false]
theorem cC1.cell {D : kh} {a rl c : Nat} {id sec : List Int32} {cf : Bool} {x : Int32} {mr : Bool} (h : cC1 D a rl c id sec cf x mr) : ∃ i s, D a = some (oCl (nI c) i s x mr rl) := by
  obtain ⟨i, s, u1, -⟩ := h
  exact ⟨i, s, u1⟩
theorem rd_pos {R : List (List Int32)} {v : List Int32} {r : Nat} (hr : r < 2 ^ 31) (h : rdS R v = nI r) : ¬ rdS R v < 0 ∧ (rdS R v).toNatClampNeg = r := ⟨by rw [h]; exact nI_pos hr, by rw [h, nI_clamp hr]⟩
theorem drop_tk (v : List Int32) (p m : Nat) (h : p + m ≤ v.length) : (v.drop p).take m = tl (gD v) p m := by
  have := tl_dt (b := 0) (g := p) (m := m) (gD_tl v) h
  rw [Nat.zero_add] at this
  exact this.symm
theorem gD255 {v : List Int32} (hb : bts v) {i : Nat} (hi : i < v.length) : (v.getD i 0 &&& 255 = 32) ↔ gD v i = 32 := by
  have h := eq255 (x := v.getD i 0) (bts_at hb hi) (c := 32) (by decide)
  exact ⟨fun q => of_decide_eq_true (h.symm.trans (decide_eq_true q)), fun q => of_decide_eq_true (h.trans (decide_eq_true q))⟩

theorem k_isShownN {Λ : kL} {S : Nat → Nat} {G : Nat → kc} {D : kh} (hS : cInj S) {a i rl c nm : Nat} {x : Int32} {mr told : Bool} {v : List Int32} (u1 : D a = some (oCl (nI c) i .null x mr rl)) (hf : G 28 = oFi nm (S 41) told) (hv : tS S G 41 16 2000 v) : cCt Λ mX0_isShownBy 0 0 S [.ref a, .ref (S 28)] G D (fun r G' D' => r = some (.int (bI (!decide (0 < v.length)))) ∧ G' = G ∧ D' = D) := by
  refine cCt.of hS pn_X0 [some (.ref a), some (.ref (S 28))] rfl (Nat.le_of_ble_eq_true rfl) fun X => ?_
  have hv9 := hv; obtain ⟨bv, fv9, v1, v2, v3, v4, -⟩ := hv9
  refine C.aload_nR dX0_isShownBy_0 rfl ?_
  refine C.getD dX0_isShownBy_1 fl_X0_24 u1 rfl ?_
  refine C.ifnonnullN dX0_isShownBy_4 ?_
  refine C.aload_nR dX0_isShownBy_7 rfl ?_
  refine C.callVS0 (k9 := 28) [] dX0_isShownBy_8 mdX3_isThere imX3_isThere seX3_isThere kc_4 rfl hf lk_X0_34 rfl rfl rfl rfl (cCt.w0 (R := fun r => r = some (.int (bI (decide (0 < v.length))))) fun σ9 h9 => c_Field_isThere (h9.at (k := 28) rfl hf) (h9.at (k := 41) rfl v1) (show v.length ≤ 100000 by omega)) ?_
  rintro _ G9 D9 ⟨rfl, e9, e8⟩
  have e9 := e9.symm; subst e9; have e8 := e8.symm; subst e8
  refine C.if_ne (tgt := 18) dX0_isShownBy_11 (by decide) (fun c_11 => ?_) (fun c_11 => ?_)
  · skip
    refine C.iconst (v := 0) dX0_isShownBy_18 (by decide) ?_
    refine C.goto (tgt := 33) dX0_isShownBy_19 (by decide) ?_
    refine C.zret dX0_isShownBy_33 rfl rfl ?_
    refine ⟨congrArg (fun z => some (Value.int z)) ?_, rfl, rfl⟩
    rw [bt1 c_11]; rfl
  · skip
    refine C.iconst (v := 1) dX0_isShownBy_14 (by decide) ?_
    refine C.goto (tgt := 33) dX0_isShownBy_15 (by decide) ?_
    refine C.zret dX0_isShownBy_33 rfl rfl ?_
    refine ⟨congrArg (fun z => some (Value.int z)) ?_, rfl, rfl⟩
    rw [(bI_eq0 _).mp c_11]; rfl

theorem k_isShownR {Λ : kL} {S : Nat → Nat} {G : Nat → kc} {D : kh} (hS : cInj S) {a i rl c nm : Nat} {x : Int32} {mr told : Bool} {v : List Int32} {q : Nat} {sec : List Int32} (u1 : D a = some (oCl (nI c) i (.ref q) x mr rl)) (u2 : tx D q sec) (hf : G 28 = oFi nm (S 41) told) (hv : tS S G 41 16 2000 v) : cCt Λ mX0_isShownBy 0 0 S [.ref a, .ref (S 28)] G D (fun r G' D' => r = some (.int (bI (decide (sec = v)))) ∧ G' = G ∧ D' = D) := by
  refine cCt.of hS pn_X0 [some (.ref a), some (.ref (S 28))] rfl (Nat.le_of_ble_eq_true rfl) fun X => ?_
  have hv9 := hv; obtain ⟨bv, fv9, v1, v2, v3, v4, -⟩ := hv9
  refine C.aload_nR dX0_isShownBy_0 rfl ?_
  refine C.getD dX0_isShownBy_1 fl_X0_24 u1 rfl ?_
  refine C.ifnonnullR (tgt := 22) dX0_isShownBy_4 (by decide) ?_
  refine C.aload_nR dX0_isShownBy_22 rfl ?_
  refine C.getD dX0_isShownBy_23 fl_X0_24 u1 rfl ?_
  refine C.aload_nR dX0_isShownBy_26 rfl ?_
  refine C.getS (k9 := 28) (fs := [.ref nm, .ref (S 41), .int (bI told)]) dX0_isShownBy_27 fl_X0_40 rfl hf rfl ?_
  have u9 := u2; obtain ⟨r9, b9, c9, f9, z1, z2⟩ := u9
  refine C.callVD0 [.ref (S 41)] dX0_isShownBy_30 mdX9_same imX9_same seX9_same kc_10 z1 lk_X0_43 rfl rfl rfl rfl (cCt.w0 (R := fun r => r = some (.int (bI (decide (sec = v))))) fun σ9 h9 => v_same (u2.mono h9.2.1) (hv.tx h9 rfl rfl)) ?_
  rintro _ G9 D9 ⟨rfl, e9, e8⟩
  have e9 := e9.symm; subst e9; have e8 := e8.symm; subst e8
  refine C.zret dX0_isShownBy_33 rfl (bI_nar _) ?_
  exact ⟨rfl, rfl, rfl⟩

theorem k_isShownBy {Λ : kL} {S : Nat → Nat} {G : Nat → kc} {D : kh} (hS : cInj S) {a rl c nm : Nat} {id sec : List Int32} {cf : Bool} {x : Int32} {mr told : Bool} {v : List Int32} (hC : cC1 D a rl c id sec cf x mr) (hf : G 28 = oFi nm (S 41) told) (hv : tS S G 41 16 2000 v) : cCt Λ mX0_isShownBy 0 0 S [.ref a, .ref (S 28)] G D (fun r G' D' => r = some (.int (bI (if cf = true then decide (sec = v) else !decide (0 < v.length)))) ∧ G' = G ∧ D' = D) := by
  obtain ⟨i, s, u1, u2, u3⟩ := hC
  cases cf with
  | false => have e : s = .null := u3; subst e; exact k_isShownN hS u1 hf hv
  | true => obtain ⟨q, e, u4⟩ := u3; subst e; exact k_isShownR hS u1 u4 hf hv

theorem k_whoAsks {Λ : kL} {S : Nat → Nat} {G : Nat → kc} {D : kh} (hS : cInj S) {A L : Nat → List Nat} {N : Nat → Int32} {B : Nat → List Int32} {T R : Nat → List (List Int32)} (hR : cR Λ S G D A L N B T R) (hW : wf N B T R) {g : fvs} (hG : cG Λ S G g) : cCt Λ mX11_whoAsks 0 0 S [.ref (S 0)] G D (fun r G' D' => (¬ whoT T g < 0 ∧ (fnd (T 3) (fv g 1)) < (T 3).length ∧ r = some (.ref ((A 7).getD (fnd (T 3) (fv g 1)) 0)) ∧ G' = G ∧ D' = D) ∨ (whoT T g < 0 ∧ r = some .null ∧ G' = G ∧ D' = D)) := by
  refine cCt.of hS pn_X11 [some (.ref (S 0)), none] rfl (Nat.le_of_ble_eq_true rfl) fun X => ?_
  obtain ⟨p_a, p_b, p_n, p_k, p_f, p_h, p_w, p_c, p_r, p_q, p_o, p_m, p_t, p_d⟩ := hR
  obtain ⟨w_a, w_n, w_w, w_c, w_r, w_x, w_q, w_k, w_f, w_t, w_m, w_l⟩ := hW
  have p_a9 := p_a; obtain ⟨ft, a1, a2, a3, a4, a5, a6⟩ := p_a9
  have p_b9 := p_b; obtain ⟨fo9, b1, b2, b3, b4, b5, b6⟩ := p_b9
  have hf9_1 := hG.1.2.2.2.2.1; obtain ⟨to_1, bq_1, nq_1, fq_1, _, _⟩ := hf9_1
  have ht9_1 := hG.2.2.1; obtain ⟨bt_1, ff_1, gt_1, gr_1, _⟩ := ht9_1
  have hf9_10 := hG.1.2.2.2.2.2.2.2.2.2.2.2.2.2.1; obtain ⟨to_10, bq_10, nq_10, fq_10, _, _⟩ := hf9_10
  have ht9_10 := hG.2.2.2.2.2.2.2.2.2.2.2.1; obtain ⟨bt_10, ff_10, gt_10, gr_10, _⟩ := ht9_10
  refine C.aload_nR dX11_whoAsks_0 rfl ?_
  refine C.aload_nR dX11_whoAsks_1 rfl ?_
  refine C.getS (k9 := 0) (fs := [.ref (S 1), .ref (S 2), .ref (S 3), .ref (S 4), .ref (S 5), .ref (S 6), .ref (S 7), .ref (S 8), .ref (S 9), .ref (S 10), .ref (S 11), .ref (S 12), .int (N 26), .int (N 27), .int (N 28), .int (N 25), .int (N 5), .int (N 6)]) dX11_whoAsks_2 fl_X11_24 rfl p_n rfl ?_
  refine C.getS (k9 := 3) (fs := [.ref (S 15), .ref (S 17), .ref (S 18), .ref (S 19), .ref (S 20), .ref (S 21), .ref (S 22), .ref (S 23), .ref (S 24), .ref (S 25), .ref (S 26), .ref (S 27), .ref (S 28), .ref (S 29), .ref (S 30), .ref (S 44)]) dX11_whoAsks_5 fl_X11_195 rfl p_k.1 rfl ?_
  refine C.getS (k9 := 19) (fs := [.ref (kSa Λ RX4 37), .ref (S 32), .int (bI to_1)]) dX11_whoAsks_8 fl_X11_199 rfl fq_1 rfl ?_
  refine C.callVS0 (k9 := 0) [.ref (S 32)] dX11_whoAsks_11 mdX11_clientOf imX11_clientOf seX11_clientOf kc_12 rfl p_n lk_X11_145 rfl rfl rfl rfl (k_clientOf_S hS (N := N) (show G 0 = oGs S N from p_n) p_c.1 p_c.2 w_c.1 hG.2.2.1) ?_
  rintro _ _ _ (⟨hlt, rfl, e9, e8⟩ | ⟨hlt, rfl, e9, e8⟩)
  · have e9 := e9.symm; subst e9; have e8 := e8.symm; subst e8
    have hCc := p_c.2.2.2 _ hlt
    obtain ⟨i9, s9, u1⟩ := hCc.cell
    have h0c : 0 < (fv g 1).length := by have h9 := (w_c.2.2.2.2.1 _ hlt).1; rw [← fnd_yes hlt] at h9; exact h9
    refine C.astore_n (L' := [some (.ref (S 0)), some (.ref ((A 7).getD (fnd (T 3) (fv g 1)) 0))]) dX11_whoAsks_14 (by decide) rfl rfl ?_
    refine C.aload_nR dX11_whoAsks_15 rfl ?_
    refine C.ifnullR dX11_whoAsks_16 ?_
    refine C.aload_nR dX11_whoAsks_19 rfl ?_
    refine C.aload_nR dX11_whoAsks_20 rfl ?_
    refine C.getS (k9 := 0) (fs := [.ref (S 1), .ref (S 2), .ref (S 3), .ref (S 4), .ref (S 5), .ref (S 6), .ref (S 7), .ref (S 8), .ref (S 9), .ref (S 10), .ref (S 11), .ref (S 12), .int (N 26), .int (N 27), .int (N 28), .int (N 25), .int (N 5), .int (N 6)]) dX11_whoAsks_21 fl_X11_24 rfl p_n rfl ?_
    refine C.getS (k9 := 3) (fs := [.ref (S 15), .ref (S 17), .ref (S 18), .ref (S 19), .ref (S 20), .ref (S 21), .ref (S 22), .ref (S 23), .ref (S 24), .ref (S 25), .ref (S 26), .ref (S 27), .ref (S 28), .ref (S 29), .ref (S 30), .ref (S 44)]) dX11_whoAsks_24 fl_X11_414 rfl p_k.1 rfl ?_
    refine C.callVD0 [.ref (S 28)] dX11_whoAsks_27 mdX0_isShownBy imX0_isShownBy seX0_isShownBy kc_1 u1 lk_X11_417 rfl rfl rfl rfl (k_isShownBy hS hCc fq_10 hG.2.2.2.2.2.2.2.2.2.2.2.1) ?_
    rintro _ G9 D9 ⟨rfl, e9, e8⟩
    have e9 := e9.symm; subst e9; have e8 := e8.symm; subst e8
    refine C.if_eq (tgt := 37) dX11_whoAsks_30 (by decide) (fun c_30 => ?_) (fun c_30 => ?_)
    · skip
      refine C.aconst_null dX11_whoAsks_37 ?_
      refine C.aret (r := none) dX11_whoAsks_38 rfl (by first | exact Or.inl ⟨_, rfl⟩ | exact Or.inr ⟨_, rfl⟩) ?_
      have hwh := who_sh (cf := cfS (T 5)) (S := T 4) (s := fv g 10) h0c hlt (fun q => (w_c.2.2.2.2.2.2.2.2 _ hlt).1 (of_decide_eq_true q))
      rw [(bI_eq0 _).mp c_30, if_neg Bool.false_ne_true] at hwh
      refine Or.inr ⟨?_, rfl, rfl, rfl⟩
      rw [whoT, hwh]; decide
    · skip
      refine C.aload_nR dX11_whoAsks_33 rfl ?_
      refine C.goto (tgt := 38) dX11_whoAsks_34 (by decide) ?_
      refine C.aret (r := some ((A 7).getD (fnd (T 3) (fv g 1)) 0)) dX11_whoAsks_38 rfl (by first | exact Or.inl ⟨_, rfl⟩ | exact Or.inr ⟨_, rfl⟩) ?_
      have hwh := who_sh (cf := cfS (T 5)) (S := T 4) (s := fv g 10) h0c hlt (fun q => (w_c.2.2.2.2.2.2.2.2 _ hlt).1 (of_decide_eq_true q))
      rw [bt1 c_30, if_pos rfl] at hwh
      refine Or.inl ⟨?_, hlt, rfl, rfl, rfl⟩
      rw [whoT, hwh]; exact nI_pos (by have := w_c.1; omega)
  · have e9 := e9.symm; subst e9; have e8 := e8.symm; subst e8
    refine C.astore_nN (L' := [some (.ref (S 0)), some (.null)]) dX11_whoAsks_14 (by decide) rfl rfl ?_
    refine C.aload_nN dX11_whoAsks_15 rfl ?_
    refine C.ifnullN (tgt := 37) dX11_whoAsks_16 (by decide) ?_
    refine C.aconst_null dX11_whoAsks_37 ?_
    refine C.aret (r := none) dX11_whoAsks_38 rfl (by first | exact Or.inl ⟨_, rfl⟩ | exact Or.inr ⟨_, rfl⟩) ?_
    refine Or.inr ⟨?_, rfl, rfl, rfl⟩
    rw [whoT, whoS, if_neg (fun q => hlt q.2)]; decide

theorem tS.len {S : Nat → Nat} {G : Nat → kc} {k j cap : Nat} {v : List Int32} (h : tS S G k j cap v) : v.length ≤ 100000 := by
  obtain ⟨b, f, h1, h2, h3, h4, -⟩ := h
  omega

theorem k_redirectFor {Λ : kL} {S : Nat → Nat} {G : Nat → kc} {D : kh} (hS : cInj S) {a i rl : Nat} {k1 x : Int32} {s9 : Value} {mr : Bool} (u1 : D a = some (oCl k1 i s9 x mr rl)) {l : List Nat} (hl : D rl = some (kLi (rv l))) {R : List (List Int32)} (ht : txs D l R) (hR3 : R.length ≤ 3) {v : List Int32} (hT : tS S G 33 16 2000 v) : cCt Λ mX0_redirectFor 0 0 S [.ref a, .ref (S 33)] G D (fun r G' D' => (¬ rdS R v < 0 ∧ r = some (.ref (l.getD (rdS R v).toNatClampNeg 0)) ∧ G' = G ∧ D' = D) ∨ (rdS R v < 0 ∧ r = some .null ∧ G' = G ∧ D' = D)) := by
  refine cCt.of hS pn_X0 [some (.ref a), some (.ref (S 33)), none] rfl (Nat.le_of_ble_eq_true rfl) fun X => ?_
  refine C.aload_nR dX0_redirectFor_0 rfl ?_
  refine C.callVX0 [] dX0_redirectFor_1 mdX9_size imX9_size seX9_size kc_10 (show tV S G D (S 33) v from (tS.v hT (by decide) (by decide))).ob lk_X0_49 rfl rfl rfl rfl (cCt.w0 (R := fun r => r = some (.int (nI v.length))) fun σ9 h9 => v_size ((show tV S G D (S 33) v from (tS.v hT (by decide) (by decide))).tx h9)) ?_
  rintro _ G9 D9 ⟨rfl, e9, e8⟩
  have e9 := e9.symm; subst e9; have e8 := e8.symm; subst e8
  refine C.if_ne (tgt := 34) dX0_redirectFor_4 (by decide) (fun c_4 => ?_) (fun c_4 => ?_)
  · skip
    have hv0 : 0 < v.length := Nat.pos_of_ne_zero fun q => c_4 (by rw [q]; rfl)
    have cut_36 : ∀ (k_36 : Nat) (i : Nat), (i ≤ R.length) → (R.length + 1 ≤ i + k_36) → (fxd R v 0 = fxd R v i) → C Λ X mX0_redirectFor 0 0 S (fun r G' D' => (¬ rdS R v < 0 ∧ r = some (.ref (l.getD (rdS R v).toNatClampNeg 0)) ∧ G' = G ∧ D' = D) ∨ (rdS R v < 0 ∧ r = some .null ∧ G' = G ∧ D' = D)) 0 0 G D 36 [some (.ref a), some (.ref (S 33)), some (.int (nI i))] [] := by
      intro k_36
      induction k_36 with
      | zero => intro i h1 h2 hz; exact absurd h2 (by omega)
      | succ k_36 ih_36 =>
        intro i h1 h2 hz
        refine C.iload_n dX0_redirectFor_36 rfl ?_
        refine C.aload_nR dX0_redirectFor_37 rfl ?_
        refine C.getD dX0_redirectFor_38 fl_X0_10 u1 rfl ?_
        refine C.callLD0  [] dX0_redirectFor_41 mdJx4a65c_size_8abf5 imJx4a65c_size_8abf5 seJx4a65c_size_8abf5 hl lk_X0_53 rfl rfl rfl rfl (cCt.w0 (R := fun r => r = some (.int (nI (rv l).length))) fun σ9 h9 => c_list_size (h9.2.1 _ _ hl)) ?_
        rintro _ G9 D9 ⟨rfl, e9, e8⟩
        have e9 := e9.symm; subst e9; have e8 := e8.symm; subst e8
        refine C.icmp_ge (tgt := 83) dX0_redirectFor_44 (by decide) (fun c_44 => ?_) (fun c_44 => ?_)
        · skip
          have hend : R.length ≤ i := by have h9 := c_44; rw [rv_len, ht.1] at h9; exact (nI_leI (by omega) (by omega)).mp h9
          refine C.aconst_null dX0_redirectFor_83 ?_
          refine C.aret (r := none) dX0_redirectFor_84 rfl (by first | exact Or.inl ⟨_, rfl⟩ | exact Or.inr ⟨_, rfl⟩) ?_
          refine Or.inr ⟨?_, rfl, rfl, rfl⟩
          rw [rdS, if_pos hv0, hz, fxd_out hend]; decide
        · skip
          have lt_i : i < R.length := by have h9 := c_44; rw [rv_len, ht.1] at h9; exact nI_ltn h9 (by omega) (by omega)
          have hu := ht.2 i lt_i
          have hu9 := hu; obtain ⟨r9, b9, c9, f9, u9, z2⟩ := hu9
          refine C.aload_nR dX0_redirectFor_47 rfl ?_
          refine C.aload_nR dX0_redirectFor_48 rfl ?_
          refine C.getD dX0_redirectFor_49 fl_X0_10 u1 rfl ?_
          refine C.iload_n dX0_redirectFor_52 rfl ?_
          refine C.callLD0  [.int (nI i)] dX0_redirectFor_53 mdJx4a65c_get_915e3 imJx4a65c_get_915e3 seJx4a65c_get_915e3 hl lk_X0_54 rfl rfl rfl rfl (cCt.w0 (R := fun r => r = some (.ref (l.getD i 0))) fun σ9 h9 => c_list_get (h9.2.1 _ _ hl) (rv_at (k := i) (by rw [ht.1]; omega))) ?_
          rintro _ G9 D9 ⟨rfl, e9, e8⟩
          have e9 := e9.symm; subst e9; have e8 := e8.symm; subst e8
          refine C.castD dX0_redirectFor_56 cl_X0_44 cs_10 kc_10 u9 ?_
          refine C.callVX0 [.ref (l.getD i 0)] dX0_redirectFor_59 mdX9_same imX9_same seX9_same kc_10 (show tV S G D (S 33) v from (tS.v hT (by decide) (by decide))).ob lk_X0_43 rfl rfl rfl rfl (cCt.w0 (R := fun r => r = some (.int (bI (decide (v = R.getD i []))))) fun σ9 h9 => v_same ((show tV S G D (S 33) v from (tS.v hT (by decide) (by decide))).tx h9) (hu.mono h9.2.1)) ?_
          rintro _ G9 D9 ⟨rfl, e9, e8⟩
          have e9 := e9.symm; subst e9; have e8 := e8.symm; subst e8
          refine C.if_eq (tgt := 77) dX0_redirectFor_62 (by decide) (fun c_62 => ?_) (fun c_62 => ?_)
          · skip
            refine C.iinc (v := nI (i + 1)) (L' := [some (.ref a), some (.ref (S 33)), some (.int (nI (i + 1)))]) dX0_redirectFor_77 rfl (nI_1 i) (by decide) rfl rfl ?_
            refine C.goto (tgt := 36) dX0_redirectFor_80 (by decide) ?_
            exact ih_36 (i + 1) (by omega) (by omega) (hz.trans (fxd_f lt_i (of_decide_eq_false ((bI_eq0 _).mp c_62))))
          · skip
            refine C.aload_nR dX0_redirectFor_65 rfl ?_
            refine C.getD dX0_redirectFor_66 fl_X0_10 u1 rfl ?_
            refine C.iload_n dX0_redirectFor_69 rfl ?_
            refine C.callLD0  [.int (nI i)] dX0_redirectFor_70 mdJx4a65c_get_915e3 imJx4a65c_get_915e3 seJx4a65c_get_915e3 hl lk_X0_54 rfl rfl rfl rfl (cCt.w0 (R := fun r => r = some (.ref (l.getD i 0))) fun σ9 h9 => c_list_get (h9.2.1 _ _ hl) (rv_at (k := i) (by rw [ht.1]; omega))) ?_
            rintro _ G9 D9 ⟨rfl, e9, e8⟩
            have e9 := e9.symm; subst e9; have e8 := e8.symm; subst e8
            refine C.castD dX0_redirectFor_73 cl_X0_44 cs_10 kc_10 u9 ?_
            refine C.aret (r := some (l.getD i 0)) dX0_redirectFor_76 rfl (by first | exact Or.inl ⟨_, rfl⟩ | exact Or.inr ⟨_, rfl⟩) ?_
            obtain ⟨z1, z3⟩ := rd_pos (r := i) (by omega) (show rdS R v = nI i by rw [rdS, if_pos hv0, hz, fxd_t lt_i (of_decide_eq_true (bt1 c_62))])
            refine Or.inl ⟨z1, ?_, rfl, rfl⟩
            rw [z3]; rfl
    refine C.iconst (v := 0) dX0_redirectFor_34 (by decide) ?_
    refine C.istore_n (L' := [some (.ref a), some (.ref (S 33)), some (.int 0)]) dX0_redirectFor_35 (by decide) rfl rfl ?_
    exact cut_36 (R.length + 1) 0 (by omega) (by omega) rfl
  · skip
    have hv0 : ¬ 0 < v.length := by have h9 := (nI_eq (b := 0) (by have := hT.len; omega) (by decide)).mp c_4; omega
    refine C.aload_nR dX0_redirectFor_7 rfl ?_
    refine C.getD dX0_redirectFor_8 fl_X0_10 u1 rfl ?_
    refine C.callLD0  [] dX0_redirectFor_11 mdJx4a65c_size_8abf5 imJx4a65c_size_8abf5 seJx4a65c_size_8abf5 hl lk_X0_53 rfl rfl rfl rfl (cCt.w0 (R := fun r => r = some (.int (nI (rv l).length))) fun σ9 h9 => c_list_size (h9.2.1 _ _ hl)) ?_
    rintro _ G9 D9 ⟨rfl, e9, e8⟩
    have e9 := e9.symm; subst e9; have e8 := e8.symm; subst e8
    refine C.iconst (v := 1) dX0_redirectFor_14 (by decide) ?_
    refine C.icmp_ne (tgt := 32) dX0_redirectFor_15 (by decide) (fun c_15 => ?_) (fun c_15 => ?_)
    · skip
      have h1R : ¬ R.length = 1 := fun q => c_15 (by rw [rv_len, ht.1, q]; rfl)
      refine C.aconst_null dX0_redirectFor_32 ?_
      refine C.aret (r := none) dX0_redirectFor_33 rfl (by first | exact Or.inl ⟨_, rfl⟩ | exact Or.inr ⟨_, rfl⟩) ?_
      refine Or.inr ⟨?_, rfl, rfl, rfl⟩
      rw [rdS, if_neg hv0, if_neg h1R]; decide
    · skip
      have h1R : R.length = 1 := by have h9 := c_15; rw [rv_len, ht.1] at h9; exact (nI_eq (b := 1) (by omega) (by decide)).mp h9
      have hu := ht.2 0 (by omega)
      have hu9 := hu; obtain ⟨r9, b9, c9, f9, u9, z2⟩ := hu9
      refine C.aload_nR dX0_redirectFor_18 rfl ?_
      refine C.getD dX0_redirectFor_19 fl_X0_10 u1 rfl ?_
      refine C.iconst (v := 0) dX0_redirectFor_22 (by decide) ?_
      refine C.callLD0  [.int 0] dX0_redirectFor_23 mdJx4a65c_get_915e3 imJx4a65c_get_915e3 seJx4a65c_get_915e3 hl lk_X0_54 rfl rfl rfl rfl (cCt.w0 (R := fun r => r = some (.ref (l.getD 0 0))) fun σ9 h9 => c_list_get (h9.2.1 _ _ hl) (rv_at (k := 0) (by rw [ht.1]; omega))) ?_
      rintro _ G9 D9 ⟨rfl, e9, e8⟩
      have e9 := e9.symm; subst e9; have e8 := e8.symm; subst e8
      refine C.castD dX0_redirectFor_26 cl_X0_44 cs_10 kc_10 u9 ?_
      refine C.goto (tgt := 33) dX0_redirectFor_29 (by decide) ?_
      refine C.aret (r := some (l.getD 0 0)) dX0_redirectFor_33 rfl (by first | exact Or.inl ⟨_, rfl⟩ | exact Or.inr ⟨_, rfl⟩) ?_
      obtain ⟨z1, z3⟩ := rd_pos (r := 0) (by decide) (show rdS R v = nI 0 by rw [rdS, if_neg hv0, if_pos h1R]; rfl)
      refine Or.inl ⟨z1, ?_, rfl, rfl⟩
      rw [z3]; rfl
