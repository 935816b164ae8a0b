/-! the class: first calls -/
def gA (S : Nat → Nat) (G : Nat → kc) (N : Nat → Int32) (s e : Int32) : Nat → kc := updG (updG G 0 (oGs S (ans N s e))) 2 (oT (S 14) (nI 0) 0)
theorem ush_b8 {x : Int32} {k : Nat} (hk : k < 25) : b8 (ush x (nI k)) = b8 (x >>> (nI k &&& 31)) := by
  have e : ((nI k).toUInt32 &&& Int32.toUInt32 31).toBitVec % 32 = BitVec.ofNat 32 k := (show ∀ k, k < 25 → ((nI k).toUInt32 &&& Int32.toUInt32 31).toBitVec % 32 = BitVec.ofNat 32 k by decide) k hk
  have hb : ∀ j, j < 8 → (ush x (nI k)).toBitVec.getLsbD j = (x >>> (nI k &&& 31)).toBitVec.getLsbD j := by
    intro j hj
    rw [sar_bit (by omega)]
    show (x.toUInt32 >>> ((nI k).toUInt32 &&& Int32.toUInt32 31)).toBitVec.getLsbD j = _
    rw [UInt32.toBitVec_shiftRight, e, BitVec.ushiftRight_eq', BitVec.getLsbD_ushiftRight]
    rw [BitVec.toNat_ofNat, Nat.mod_eq_of_lt (show k < 2 ^ 32 by omega)]
    rfl
  have h8 : (ush x (nI k)).toInt8 = (x >>> (nI k &&& 31)).toInt8 := by
    apply Int8.toBitVec_inj.mp
    rw [Int32.toBitVec_toInt8, Int32.toBitVec_toInt8]
    apply BitVec.eq_of_getLsbD_eq
    intro i hi
    rw [BitVec.getLsbD_signExtend, BitVec.getLsbD_signExtend, if_pos (by omega), if_pos (by omega), hb i hi]
  rw [b8, b8, h8]
theorem ibs_dby (x : Int32) : ibs x = dby [x] 4 := by
  have h24 := ush_b8 (x := x) (k := 24) (by decide)
  have h16 := ush_b8 (x := x) (k := 16) (by decide)
  have h8 := ush_b8 (x := x) (k := 8) (by decide)
  have h0 : b8 x = b8 (x >>> (nI 0 &&& 31)) := by
    rw [show x >>> (nI 0 &&& 31) = x from by
      apply Int32.toBitVec_inj.mp
      apply BitVec.eq_of_getLsbD_eq
      intro i hi
      rw [sar_bit (s := 0) (by omega), Nat.zero_add]]
  have e1 : ibs x = [b8 (ush x (nI 24)), b8 (ush x (nI 16)), b8 (ush x (nI 8)), b8 x] := rfl
  have e2 : dby [x] 4 = [b8 (x >>> (nI 24 &&& 31)), b8 (x >>> (nI 16 &&& 31)), b8 (x >>> (nI 8 &&& 31)), b8 (x >>> (nI 0 &&& 31))] := rfl
  rw [e1, e2, h24, h16, h8, h0]
theorem dby5 (a b c d e : Int32) : dby [a, b, c, d, e] 20 = ((((dby [a] 4 ++ dby [b] 4) ++ dby [c] 4) ++ dby [d] 4) ++ dby [e] 4) := rfl
theorem bts_ibs (x : Int32) : bts (ibs x) := by rw [ibs_dby]; exact bts_dby _ _
theorem o_addInt {Λ : kL} {S : Nat → Nat} {G : Nat → kc} {D : kh} {k j cap : Nat} {v : List Int32} (hS : cInj S) (h : tO S G k j cap v) (hk : Nat.blt k 51 = true) (hj : Nat.blt j 51 = true) (x : Int32) (hc : v.length + 4 ≤ cap) : cCt Λ mX9_addInt 0 0 S [.ref (S k), .int x] G D (apQ S G D k j cap (v ++ dby [x] 4)) := by
  have hm := h
  obtain ⟨_, _, _, _, hm, _⟩ := hm
  rw [← ibs_dby]
  exact cCt.ap (w := ibs x) hS h (Nat.le_of_ble_eq_true hk) (Nat.le_of_ble_eq_true hj) (bts_ibs x) fun f h1 h2 σ h9 => c_Text_addInt (h9.at hk h1) (h9.at hj h2) (by omega) hm x
theorem cntT_c {p q : Nat → Bool} {n : Nat} (h : ∀ k, k < n → p k = q k) : cntT p n = cntT q n := by
  induction n with
  | zero => rfl
  | succ n ih => rw [cntT_s, cntT_s, ih fun k hk => h k (by omega), h n (by omega)]

theorem k_answer {Λ : kL} {S : Nat → Nat} {G : Nat → kc} {D : kh} (hS : cInj S) {N : Nat → Int32} {v : List Int32} (hP : G 0 = oGs S N) (hO : tO S G 2 14 6200 v) (x y : Int32) : cCt Λ mX11_answer 0 0 S [.ref (S 0), .int x, .int y] G D (fun r G' D' => r = some (.int x) ∧ G' = gA S G N x y ∧ D' = D) := by
  refine cCt.of hS pn_X11 [some (.ref (S 0)), some (.int x), some (.int y)] rfl (Nat.le_of_ble_eq_true rfl) fun X => ?_
  have hO9 := hO; obtain ⟨fo9, b1, b2, b3, b4, b5, b6⟩ := hO9
  refine C.aload_nR dX11_answer_0 rfl ?_
  refine C.iload_n dX11_answer_1 rfl ?_
  refine C.putS (k9 := 0) (fs := [.ref (S 1), .ref (S 2), .ref (S 3), .ref (S 4), .ref (S 5), .ref (S 6), .ref (S 7), .ref (S 8), .ref (S 9), .ref (S 10), .ref (S 11), .ref (S 12), .int (N 26), .int (N 27), .int (N 28), .int (N 25), .int (N 5), .int (N 6)]) (fs' := [.ref (S 1), .ref (S 2), .ref (S 3), .ref (S 4), .ref (S 5), .ref (S 6), .ref (S 7), .ref (S 8), .ref (S 9), .ref (S 10), .ref (S 11), .ref (S 12), .int (N 26), .int (N 27), .int (N 28), .int (N 25), .int x, .int (N 6)]) dX11_answer_2 fp_X11_80 (fun h => by cases h) rfl hP rfl rfl (Nat.le_of_ble_eq_true rfl) rfl ?_
  refine C.aload_nR dX11_answer_5 rfl ?_
  refine C.iload_n dX11_answer_6 rfl ?_
  refine C.putS (k9 := 0) (fs := [.ref (S 1), .ref (S 2), .ref (S 3), .ref (S 4), .ref (S 5), .ref (S 6), .ref (S 7), .ref (S 8), .ref (S 9), .ref (S 10), .ref (S 11), .ref (S 12), .int (N 26), .int (N 27), .int (N 28), .int (N 25), .int x, .int (N 6)]) (fs' := [.ref (S 1), .ref (S 2), .ref (S 3), .ref (S 4), .ref (S 5), .ref (S 6), .ref (S 7), .ref (S 8), .ref (S 9), .ref (S 10), .ref (S 11), .ref (S 12), .int (N 26), .int (N 27), .int (N 28), .int (N 25), .int x, .int y]) dX11_answer_7 fp_X11_83 (fun h => by cases h) rfl rfl rfl rfl (Nat.le_of_ble_eq_true rfl) rfl ?_
  refine C.aload_nR dX11_answer_10 rfl ?_
  refine C.getS (k9 := 0) (fs := [.ref (S 1), .ref (S 2), .ref (S 3), .ref (S 4), .ref (S 5), .ref (S 6), .ref (S 7), .ref (S 8), .ref (S 9), .ref (S 10), .ref (S 11), .ref (S 12), .int (N 26), .int (N 27), .int (N 28), .int (N 25), .int x, .int y]) dX11_answer_11 fl_X11_18 rfl rfl rfl ?_
  refine C.callVS0 (k9 := 2) [] dX11_answer_14 mdX9_clear imX9_clear seX9_clear kc_10 rfl b1 lk_X11_109 rfl rfl rfl rfl (cCt.w1 (R := fun r => r = none) (i := 2) hS (by decide) fun σ9 h9 => c_Text_clear (h9.at (k := 2) rfl b1)) ?_
  rintro _ _ D9 ⟨rfl, rfl, e8⟩; have e8 := e8.symm; subst e8
  refine C.iload_n dX11_answer_17 rfl ?_
  refine C.iret dX11_answer_18 rfl ?_
  refine ⟨rfl, ?_, rfl⟩
  rw [updG_up]
  rfl

theorem k_wordOf_1 {Λ : kL} {σ : kh} : jCt Λ mX11_wordOf 0 0 [.int 1] σ (fun r σ' => r = some (.ref (kSa Λ RX11 530)) ∧ σ' = σ) := by
  refine jCt.of pn_X11 [some (.int 1)] rfl (Nat.le_of_ble_eq_true rfl) fun X => ?_
  refine J.iload_n dX11_wordOf_0 rfl ?_
  refine J.tableIn (off := 59) (tgt := 60) dX11_wordOf_1 (by decide) (by decide) rfl (by decide) ?_
  refine J.ldcwS dX11_wordOf_60 sr_X11_530 ?_
  refine J.aret (r := some (kSa Λ RX11 530)) dX11_wordOf_63 rfl (by first | exact Or.inl ⟨_, rfl⟩ | exact Or.inr ⟨_, rfl⟩) ?_
  exact ⟨rfl, rfl⟩

theorem k_wordOf_3 {Λ : kL} {σ : kh} : jCt Λ mX11_wordOf 0 0 [.int 3] σ (fun r σ' => r = some (.ref (kSa Λ RX11 532)) ∧ σ' = σ) := by
  refine jCt.of pn_X11 [some (.int 3)] rfl (Nat.le_of_ble_eq_true rfl) fun X => ?_
  refine J.iload_n dX11_wordOf_0 rfl ?_
  refine J.tableIn (off := 63) (tgt := 64) dX11_wordOf_1 (by decide) (by decide) rfl (by decide) ?_
  refine J.ldcwS dX11_wordOf_64 sr_X11_532 ?_
  refine J.aret (r := some (kSa Λ RX11 532)) dX11_wordOf_67 rfl (by first | exact Or.inl ⟨_, rfl⟩ | exact Or.inr ⟨_, rfl⟩) ?_
  exact ⟨rfl, rfl⟩

theorem k_wordOf_4 {Λ : kL} {σ : kh} : jCt Λ mX11_wordOf 0 0 [.int 4] σ (fun r σ' => r = some (.ref (kSa Λ RX11 534)) ∧ σ' = σ) := by
  refine jCt.of pn_X11 [some (.int 4)] rfl (Nat.le_of_ble_eq_true rfl) fun X => ?_
  refine J.iload_n dX11_wordOf_0 rfl ?_
  refine J.tableIn (off := 67) (tgt := 68) dX11_wordOf_1 (by decide) (by decide) rfl (by decide) ?_
  refine J.ldcwS dX11_wordOf_68 sr_X11_534 ?_
  refine J.aret (r := some (kSa Λ RX11 534)) dX11_wordOf_71 rfl (by first | exact Or.inl ⟨_, rfl⟩ | exact Or.inr ⟨_, rfl⟩) ?_
  exact ⟨rfl, rfl⟩

theorem k_wordOf_5 {Λ : kL} {σ : kh} : jCt Λ mX11_wordOf 0 0 [.int 5] σ (fun r σ' => r = some (.ref (kSa Λ RX11 536)) ∧ σ' = σ) := by
  refine jCt.of pn_X11 [some (.int 5)] rfl (Nat.le_of_ble_eq_true rfl) fun X => ?_
  refine J.iload_n dX11_wordOf_0 rfl ?_
  refine J.tableIn (off := 71) (tgt := 72) dX11_wordOf_1 (by decide) (by decide) rfl (by decide) ?_
  refine J.ldcwS dX11_wordOf_72 sr_X11_536 ?_
  refine J.aret (r := some (kSa Λ RX11 536)) dX11_wordOf_75 rfl (by first | exact Or.inl ⟨_, rfl⟩ | exact Or.inr ⟨_, rfl⟩) ?_
  exact ⟨rfl, rfl⟩

theorem k_wordOf_6 {Λ : kL} {σ : kh} : jCt Λ mX11_wordOf 0 0 [.int 6] σ (fun r σ' => r = some (.ref (kSa Λ RX11 538)) ∧ σ' = σ) := by
  refine jCt.of pn_X11 [some (.int 6)] rfl (Nat.le_of_ble_eq_true rfl) fun X => ?_
  refine J.iload_n dX11_wordOf_0 rfl ?_
  refine J.tableIn (off := 75) (tgt := 76) dX11_wordOf_1 (by decide) (by decide) rfl (by decide) ?_
  refine J.ldcwS dX11_wordOf_76 sr_X11_538 ?_
  refine J.aret (r := some (kSa Λ RX11 538)) dX11_wordOf_79 rfl (by first | exact Or.inl ⟨_, rfl⟩ | exact Or.inr ⟨_, rfl⟩) ?_
  exact ⟨rfl, rfl⟩

theorem k_wordOf_7 {Λ : kL} {σ : kh} : jCt Λ mX11_wordOf 0 0 [.int 7] σ (fun r σ' => r = some (.ref (kSa Λ RX11 540)) ∧ σ' = σ) := by
  refine jCt.of pn_X11 [some (.int 7)] rfl (Nat.le_of_ble_eq_true rfl) fun X => ?_
  refine J.iload_n dX11_wordOf_0 rfl ?_
  refine J.tableIn (off := 79) (tgt := 80) dX11_wordOf_1 (by decide) (by decide) rfl (by decide) ?_
  refine J.ldcwS dX11_wordOf_80 sr_X11_540 ?_
  refine J.aret (r := some (kSa Λ RX11 540)) dX11_wordOf_83 rfl (by first | exact Or.inl ⟨_, rfl⟩ | exact Or.inr ⟨_, rfl⟩) ?_
  exact ⟨rfl, rfl⟩

theorem k_wordOf_8 {Λ : kL} {σ : kh} : jCt Λ mX11_wordOf 0 0 [.int 8] σ (fun r σ' => r = some (.ref (kSa Λ RX11 542)) ∧ σ' = σ) := by
  refine jCt.of pn_X11 [some (.int 8)] rfl (Nat.le_of_ble_eq_true rfl) fun X => ?_
  refine J.iload_n dX11_wordOf_0 rfl ?_
  refine J.tableIn (off := 83) (tgt := 84) dX11_wordOf_1 (by decide) (by decide) rfl (by decide) ?_
  refine J.ldcwS dX11_wordOf_84 sr_X11_542 ?_
  refine J.aret (r := some (kSa Λ RX11 542)) dX11_wordOf_87 rfl (by first | exact Or.inl ⟨_, rfl⟩ | exact Or.inr ⟨_, rfl⟩) ?_
  exact ⟨rfl, rfl⟩

theorem k_wordOf_9 {Λ : kL} {σ : kh} : jCt Λ mX11_wordOf 0 0 [.int 9] σ (fun r σ' => r = some (.ref (kSa Λ RX11 544)) ∧ σ' = σ) := by
  refine jCt.of pn_X11 [some (.int 9)] rfl (Nat.le_of_ble_eq_true rfl) fun X => ?_
  refine J.iload_n dX11_wordOf_0 rfl ?_
  refine J.tableIn (off := 87) (tgt := 88) dX11_wordOf_1 (by decide) (by decide) rfl (by decide) ?_
  refine J.ldcwS dX11_wordOf_88 sr_X11_544 ?_
  refine J.aret (r := some (kSa Λ RX11 544)) dX11_wordOf_91 rfl (by first | exact Or.inl ⟨_, rfl⟩ | exact Or.inr ⟨_, rfl⟩) ?_
  exact ⟨rfl, rfl⟩

theorem k_wordOf_10 {Λ : kL} {σ : kh} : jCt Λ mX11_wordOf 0 0 [.int 10] σ (fun r σ' => r = some (.ref (kSa Λ RX11 546)) ∧ σ' = σ) := by
  refine jCt.of pn_X11 [some (.int 10)] rfl (Nat.le_of_ble_eq_true rfl) fun X => ?_
  refine J.iload_n dX11_wordOf_0 rfl ?_
  refine J.tableIn (off := 91) (tgt := 92) dX11_wordOf_1 (by decide) (by decide) rfl (by decide) ?_
  refine J.ldcwS dX11_wordOf_92 sr_X11_546 ?_
  refine J.aret (r := some (kSa Λ RX11 546)) dX11_wordOf_95 rfl (by first | exact Or.inl ⟨_, rfl⟩ | exact Or.inr ⟨_, rfl⟩) ?_
  exact ⟨rfl, rfl⟩

theorem k_wordOf_11 {Λ : kL} {σ : kh} : jCt Λ mX11_wordOf 0 0 [.int 11] σ (fun r σ' => r = some (.ref (kSa Λ RX11 548)) ∧ σ' = σ) := by
  refine jCt.of pn_X11 [some (.int 11)] rfl (Nat.le_of_ble_eq_true rfl) fun X => ?_
  refine J.iload_n dX11_wordOf_0 rfl ?_
  refine J.tableIn (off := 95) (tgt := 96) dX11_wordOf_1 (by decide) (by decide) rfl (by decide) ?_
  refine J.ldcwS dX11_wordOf_96 sr_X11_548 ?_
  refine J.aret (r := some (kSa Λ RX11 548)) dX11_wordOf_99 rfl (by first | exact Or.inl ⟨_, rfl⟩ | exact Or.inr ⟨_, rfl⟩) ?_
  exact ⟨rfl, rfl⟩

theorem k_deny_1 {Λ : kL} {S : Nat → Nat} {G : Nat → kc} {D : kh} (hS : cInj S) (hSt : kSt Λ) {N : Nat → Int32} {v : List Int32} (hP : G 0 = oGs S N) (hO : tO S G 2 14 6200 v) (x : Int32) : cCt Λ mX11_deny 0 0 S [.ref (S 0), .int x, .int 1] G D (fun r G' D' => ∃ f, tl f 0 (sb_openError ++ sb_invalid_request ++ sb_close).length = (sb_openError ++ sb_invalid_request ++ sb_close) ∧ bts (sb_openError ++ sb_invalid_request ++ sb_close) ∧ r = some (.int x) ∧ G' = gW S (gA S G N x 1) 2 14 6200 f (sb_openError ++ sb_invalid_request ++ sb_close).length ∧ D' = D) := by
  refine cCt.of hS pn_X11 [some (.ref (S 0)), some (.int x), some (.int 1)] rfl (Nat.le_of_ble_eq_true rfl) fun X => ?_
  have hO9 := hO; obtain ⟨fo9, b1, b2, b3, b4, b5, b6⟩ := hO9
  refine C.aload_nR dX11_deny_0 rfl ?_
  refine C.iload_n dX11_deny_1 rfl ?_
  refine C.iload_n dX11_deny_2 rfl ?_
  refine C.callVS0 (k9 := 0) [.int x, .int 1] dX11_deny_3 mdX11_answer imX11_answer seX11_answer kc_12 rfl hP lk_X11_240 rfl rfl rfl rfl (k_answer hS (N := N) (show G 0 = oGs S N from hP) (show tO S G 2 14 6200 v from hO) x 1) ?_
  rintro _ _ D9 ⟨rfl, rfl, e8⟩; have e8 := e8.symm; subst e8
  refine C.pop dX11_deny_6 rfl ?_
  refine C.aload_nR dX11_deny_7 rfl ?_
  refine C.getS (k9 := 0) (fs := [.ref (S 1), .ref (S 2), .ref (S 3), .ref (S 4), .ref (S 5), .ref (S 6), .ref (S 7), .ref (S 8), .ref (S 9), .ref (S 10), .ref (S 11), .ref (S 12), .int (N 26), .int (N 27), .int (N 28), .int (N 25), .int x, .int 1]) dX11_deny_8 fl_X11_18 rfl rfl rfl ?_
  refine C.ldcwS dX11_deny_11 sr_X11_528 ?_
  refine C.callVS0 (k9 := 2) [.ref (kSa Λ RX11 528)] dX11_deny_14 mdX9_addWord imX9_addWord seX9_addWord kc_10 rfl rfl lk_X11_443 rfl rfl rfl rfl (o_addWord hS (show tO S (gA S G N x 1) 2 14 6200 [] from ⟨fo9, rfl, b2, Nat.zero_le _, by decide, rfl, bts_nil⟩) rfl rfl (st_X11_528 hSt) sb_openError_b (by decide)) ?_
  rintro _ _ D9 ⟨f9_1, h_f9_1, b_f9_1, rfl, rfl, e8⟩; have e8 := e8.symm; subst e8
  rw [List.nil_append] at h_f9_1 b_f9_1 ⊢
  refine C.aload_nR dX11_deny_17 rfl ?_
  refine C.getS (k9 := 0) (fs := [.ref (S 1), .ref (S 2), .ref (S 3), .ref (S 4), .ref (S 5), .ref (S 6), .ref (S 7), .ref (S 8), .ref (S 9), .ref (S 10), .ref (S 11), .ref (S 12), .int (N 26), .int (N 27), .int (N 28), .int (N 25), .int x, .int 1]) dX11_deny_18 fl_X11_18 rfl rfl rfl ?_
  refine C.iload_n dX11_deny_21 rfl ?_
  refine C.callS0 [.int 1] dX11_deny_22 mdX11_wordOf ssX11_wordOf lk_X11_446 rfl rfl rfl rfl (cCt.w0 (R := fun r => r = some (.ref (kSa Λ RX11 530))) fun σ9 h9 => k_wordOf_1) ?_
  rintro _ G9 D9 ⟨rfl, e9, e8⟩
  have e9 := e9.symm; subst e9; have e8 := e8.symm; subst e8
  refine C.callVS0 (k9 := 2) [.ref (kSa Λ RX11 530)] dX11_deny_25 mdX9_addWord imX9_addWord seX9_addWord kc_10 rfl rfl lk_X11_443 rfl rfl rfl rfl (o_addWord hS (show tO S (gW S (gA S G N x 1) 2 14 6200 f9_1 sb_openError.length) 2 14 6200 sb_openError from (tO.gW (by decide) (by decide) (by decide) h_f9_1 b_f9_1)) rfl rfl (st_X11_530 hSt) sb_invalid_request_b (by decide)) ?_
  rintro _ _ D9 ⟨f9_2, h_f9_2, b_f9_2, rfl, rfl, e8⟩; have e8 := e8.symm; subst e8
  rw [gW_gW _ _ _ _ _ _ _ (by decide)]
  refine C.aload_nR dX11_deny_28 rfl ?_
  refine C.getS (k9 := 0) (fs := [.ref (S 1), .ref (S 2), .ref (S 3), .ref (S 4), .ref (S 5), .ref (S 6), .ref (S 7), .ref (S 8), .ref (S 9), .ref (S 10), .ref (S 11), .ref (S 12), .int (N 26), .int (N 27), .int (N 28), .int (N 25), .int x, .int 1]) dX11_deny_29 fl_X11_18 rfl rfl rfl ?_
  refine C.ldcwS dX11_deny_32 sr_X11_522 ?_
  refine C.callVS0 (k9 := 2) [.ref (kSa Λ RX11 522)] dX11_deny_35 mdX9_addWord imX9_addWord seX9_addWord kc_10 rfl rfl lk_X11_443 rfl rfl rfl rfl (o_addWord hS (show tO S (gW S (gA S G N x 1) 2 14 6200 f9_2 (sb_openError ++ sb_invalid_request).length) 2 14 6200 (sb_openError ++ sb_invalid_request) from (tO.gW (by decide) (by decide) (by decide) h_f9_2 b_f9_2)) rfl rfl (st_X11_522 hSt) sb_close_b (by decide)) ?_
  rintro _ _ D9 ⟨f9_3, h_f9_3, b_f9_3, rfl, rfl, e8⟩; have e8 := e8.symm; subst e8
  rw [gW_gW _ _ _ _ _ _ _ (by decide)]
  refine C.iload_n dX11_deny_38 rfl ?_
  refine C.iret dX11_deny_39 rfl ?_
  exact ⟨_, h_f9_3, b_f9_3, rfl, rfl, rfl⟩

theorem k_deny_5 {Λ : kL} {S : Nat → Nat} {G : Nat → kc} {D : kh} (hS : cInj S) (hSt : kSt Λ) {N : Nat → Int32} {v : List Int32} (hP : G 0 = oGs S N) (hO : tO S G 2 14 6200 v) (x : Int32) : cCt Λ mX11_deny 0 0 S [.ref (S 0), .int x, .int 5] G D (fun r G' D' => ∃ f, tl f 0 (sb_openError ++ sb_invalid_scope ++ sb_close).length = (sb_openError ++ sb_invalid_scope ++ sb_close) ∧ bts (sb_openError ++ sb_invalid_scope ++ sb_close) ∧ r = some (.int x) ∧ G' = gW S (gA S G N x 5) 2 14 6200 f (sb_openError ++ sb_invalid_scope ++ sb_close).length ∧ D' = D) := by
  refine cCt.of hS pn_X11 [some (.ref (S 0)), some (.int x), some (.int 5)] rfl (Nat.le_of_ble_eq_true rfl) fun X => ?_
  have hO9 := hO; obtain ⟨fo9, b1, b2, b3, b4, b5, b6⟩ := hO9
  refine C.aload_nR dX11_deny_0 rfl ?_
  refine C.iload_n dX11_deny_1 rfl ?_
  refine C.iload_n dX11_deny_2 rfl ?_
  refine C.callVS0 (k9 := 0) [.int x, .int 5] dX11_deny_3 mdX11_answer imX11_answer seX11_answer kc_12 rfl hP lk_X11_240 rfl rfl rfl rfl (k_answer hS (N := N) (show G 0 = oGs S N from hP) (show tO S G 2 14 6200 v from hO) x 5) ?_
  rintro _ _ D9 ⟨rfl, rfl, e8⟩; have e8 := e8.symm; subst e8
  refine C.pop dX11_deny_6 rfl ?_
  refine C.aload_nR dX11_deny_7 rfl ?_
  refine C.getS (k9 := 0) (fs := [.ref (S 1), .ref (S 2), .ref (S 3), .ref (S 4), .ref (S 5), .ref (S 6), .ref (S 7), .ref (S 8), .ref (S 9), .ref (S 10), .ref (S 11), .ref (S 12), .int (N 26), .int (N 27), .int (N 28), .int (N 25), .int x, .int 5]) dX11_deny_8 fl_X11_18 rfl rfl rfl ?_
  refine C.ldcwS dX11_deny_11 sr_X11_528 ?_
  refine C.callVS0 (k9 := 2) [.ref (kSa Λ RX11 528)] dX11_deny_14 mdX9_addWord imX9_addWord seX9_addWord kc_10 rfl rfl lk_X11_443 rfl rfl rfl rfl (o_addWord hS (show tO S (gA S G N x 5) 2 14 6200 [] from ⟨fo9, rfl, b2, Nat.zero_le _, by decide, rfl, bts_nil⟩) rfl rfl (st_X11_528 hSt) sb_openError_b (by decide)) ?_
  rintro _ _ D9 ⟨f9_1, h_f9_1, b_f9_1, rfl, rfl, e8⟩; have e8 := e8.symm; subst e8
  rw [List.nil_append] at h_f9_1 b_f9_1 ⊢
  refine C.aload_nR dX11_deny_17 rfl ?_
  refine C.getS (k9 := 0) (fs := [.ref (S 1), .ref (S 2), .ref (S 3), .ref (S 4), .ref (S 5), .ref (S 6), .ref (S 7), .ref (S 8), .ref (S 9), .ref (S 10), .ref (S 11), .ref (S 12), .int (N 26), .int (N 27), .int (N 28), .int (N 25), .int x, .int 5]) dX11_deny_18 fl_X11_18 rfl rfl rfl ?_
  refine C.iload_n dX11_deny_21 rfl ?_
  refine C.callS0 [.int 5] dX11_deny_22 mdX11_wordOf ssX11_wordOf lk_X11_446 rfl rfl rfl rfl (cCt.w0 (R := fun r => r = some (.ref (kSa Λ RX11 536))) fun σ9 h9 => k_wordOf_5) ?_
  rintro _ G9 D9 ⟨rfl, e9, e8⟩
  have e9 := e9.symm; subst e9; have e8 := e8.symm; subst e8
  refine C.callVS0 (k9 := 2) [.ref (kSa Λ RX11 536)] dX11_deny_25 mdX9_addWord imX9_addWord seX9_addWord kc_10 rfl rfl lk_X11_443 rfl rfl rfl rfl (o_addWord hS (show tO S (gW S (gA S G N x 5) 2 14 6200 f9_1 sb_openError.length) 2 14 6200 sb_openError from (tO.gW (by decide) (by decide) (by decide) h_f9_1 b_f9_1)) rfl rfl (st_X11_536 hSt) sb_invalid_scope_b (by decide)) ?_
  rintro _ _ D9 ⟨f9_2, h_f9_2, b_f9_2, rfl, rfl, e8⟩; have e8 := e8.symm; subst e8
  rw [gW_gW _ _ _ _ _ _ _ (by decide)]
  refine C.aload_nR dX11_deny_28 rfl ?_
  refine C.getS (k9 := 0) (fs := [.ref (S 1), .ref (S 2), .ref (S 3), .ref (S 4), .ref (S 5), .ref (S 6), .ref (S 7), .ref (S 8), .ref (S 9), .ref (S 10), .ref (S 11), .ref (S 12), .int (N 26), .int (N 27), .int (N 28), .int (N 25), .int x, .int 5]) dX11_deny_29 fl_X11_18 rfl rfl rfl ?_
  refine C.ldcwS dX11_deny_32 sr_X11_522 ?_
  refine C.callVS0 (k9 := 2) [.ref (kSa Λ RX11 522)] dX11_deny_35 mdX9_addWord imX9_addWord seX9_addWord kc_10 rfl rfl lk_X11_443 rfl rfl rfl rfl (o_addWord hS (show tO S (gW S (gA S G N x 5) 2 14 6200 f9_2 (sb_openError ++ sb_invalid_scope).length) 2 14 6200 (sb_openError ++ sb_invalid_scope) from (tO.gW (by decide) (by decide) (by decide) h_f9_2 b_f9_2)) rfl rfl (st_X11_522 hSt) sb_close_b (by decide)) ?_
  rintro _ _ D9 ⟨f9_3, h_f9_3, b_f9_3, rfl, rfl, e8⟩; have e8 := e8.symm; subst e8
  rw [gW_gW _ _ _ _ _ _ _ (by decide)]
  refine C.iload_n dX11_deny_38 rfl ?_
  refine C.iret dX11_deny_39 rfl ?_
  exact ⟨_, h_f9_3, b_f9_3, rfl, rfl, rfl⟩

theorem k_deny_6 {Λ : kL} {S : Nat → Nat} {G : Nat → kc} {D : kh} (hS : cInj S) (hSt : kSt Λ) {N : Nat → Int32} {v : List Int32} (hP : G 0 = oGs S N) (hO : tO S G 2 14 6200 v) (x : Int32) : cCt Λ mX11_deny 0 0 S [.ref (S 0), .int x, .int 6] G D (fun r G' D' => ∃ f, tl f 0 (sb_openError ++ sb_invalid_client ++ sb_close).length = (sb_openError ++ sb_invalid_client ++ sb_close) ∧ bts (sb_openError ++ sb_invalid_client ++ sb_close) ∧ r = some (.int x) ∧ G' = gW S (gA S G N x 6) 2 14 6200 f (sb_openError ++ sb_invalid_client ++ sb_close).length ∧ D' = D) := by
  refine cCt.of hS pn_X11 [some (.ref (S 0)), some (.int x), some (.int 6)] rfl (Nat.le_of_ble_eq_true rfl) fun X => ?_
  have hO9 := hO; obtain ⟨fo9, b1, b2, b3, b4, b5, b6⟩ := hO9
  refine C.aload_nR dX11_deny_0 rfl ?_
  refine C.iload_n dX11_deny_1 rfl ?_
  refine C.iload_n dX11_deny_2 rfl ?_
  refine C.callVS0 (k9 := 0) [.int x, .int 6] dX11_deny_3 mdX11_answer imX11_answer seX11_answer kc_12 rfl hP lk_X11_240 rfl rfl rfl rfl (k_answer hS (N := N) (show G 0 = oGs S N from hP) (show tO S G 2 14 6200 v from hO) x 6) ?_
  rintro _ _ D9 ⟨rfl, rfl, e8⟩; have e8 := e8.symm; subst e8
  refine C.pop dX11_deny_6 rfl ?_
  refine C.aload_nR dX11_deny_7 rfl ?_
  refine C.getS (k9 := 0) (fs := [.ref (S 1), .ref (S 2), .ref (S 3), .ref (S 4), .ref (S 5), .ref (S 6), .ref (S 7), .ref (S 8), .ref (S 9), .ref (S 10), .ref (S 11), .ref (S 12), .int (N 26), .int (N 27), .int (N 28), .int (N 25), .int x, .int 6]) dX11_deny_8 fl_X11_18 rfl rfl rfl ?_
  refine C.ldcwS dX11_deny_11 sr_X11_528 ?_
  refine C.callVS0 (k9 := 2) [.ref (kSa Λ RX11 528)] dX11_deny_14 mdX9_addWord imX9_addWord seX9_addWord kc_10 rfl rfl lk_X11_443 rfl rfl rfl rfl (o_addWord hS (show tO S (gA S G N x 6) 2 14 6200 [] from ⟨fo9, rfl, b2, Nat.zero_le _, by decide, rfl, bts_nil⟩) rfl rfl (st_X11_528 hSt) sb_openError_b (by decide)) ?_
  rintro _ _ D9 ⟨f9_1, h_f9_1, b_f9_1, rfl, rfl, e8⟩; have e8 := e8.symm; subst e8
  rw [List.nil_append] at h_f9_1 b_f9_1 ⊢
  refine C.aload_nR dX11_deny_17 rfl ?_
  refine C.getS (k9 := 0) (fs := [.ref (S 1), .ref (S 2), .ref (S 3), .ref (S 4), .ref (S 5), .ref (S 6), .ref (S 7), .ref (S 8), .ref (S 9), .ref (S 10), .ref (S 11), .ref (S 12), .int (N 26), .int (N 27), .int (N 28), .int (N 25), .int x, .int 6]) dX11_deny_18 fl_X11_18 rfl rfl rfl ?_
  refine C.iload_n dX11_deny_21 rfl ?_
  refine C.callS0 [.int 6] dX11_deny_22 mdX11_wordOf ssX11_wordOf lk_X11_446 rfl rfl rfl rfl (cCt.w0 (R := fun r => r = some (.ref (kSa Λ RX11 538))) fun σ9 h9 => k_wordOf_6) ?_
  rintro _ G9 D9 ⟨rfl, e9, e8⟩
  have e9 := e9.symm; subst e9; have e8 := e8.symm; subst e8
  refine C.callVS0 (k9 := 2) [.ref (kSa Λ RX11 538)] dX11_deny_25 mdX9_addWord imX9_addWord seX9_addWord kc_10 rfl rfl lk_X11_443 rfl rfl rfl rfl (o_addWord hS (show tO S (gW S (gA S G N x 6) 2 14 6200 f9_1 sb_openError.length) 2 14 6200 sb_openError from (tO.gW (by decide) (by decide) (by decide) h_f9_1 b_f9_1)) rfl rfl (st_X11_538 hSt) sb_invalid_client_b (by decide)) ?_
  rintro _ _ D9 ⟨f9_2, h_f9_2, b_f9_2, rfl, rfl, e8⟩; have e8 := e8.symm; subst e8
  rw [gW_gW _ _ _ _ _ _ _ (by decide)]
  refine C.aload_nR dX11_deny_28 rfl ?_
  refine C.getS (k9 := 0) (fs := [.ref (S 1), .ref (S 2), .ref (S 3), .ref (S 4), .ref (S 5), .ref (S 6), .ref (S 7), .ref (S 8), .ref (S 9), .ref (S 10), .ref (S 11), .ref (S 12), .int (N 26), .int (N 27), .int (N 28), .int (N 25), .int x, .int 6]) dX11_deny_29 fl_X11_18 rfl rfl rfl ?_
  refine C.ldcwS dX11_deny_32 sr_X11_522 ?_
  refine C.callVS0 (k9 := 2) [.ref (kSa Λ RX11 522)] dX11_deny_35 mdX9_addWord imX9_addWord seX9_addWord kc_10 rfl rfl lk_X11_443 rfl rfl rfl rfl (o_addWord hS (show tO S (gW S (gA S G N x 6) 2 14 6200 f9_2 (sb_openError ++ sb_invalid_client).length) 2 14 6200 (sb_openError ++ sb_invalid_client) from (tO.gW (by decide) (by decide) (by decide) h_f9_2 b_f9_2)) rfl rfl (st_X11_522 hSt) sb_close_b (by decide)) ?_
  rintro _ _ D9 ⟨f9_3, h_f9_3, b_f9_3, rfl, rfl, e8⟩; have e8 := e8.symm; subst e8
  rw [gW_gW _ _ _ _ _ _ _ (by decide)]
  refine C.iload_n dX11_deny_38 rfl ?_
  refine C.iret dX11_deny_39 rfl ?_
  exact ⟨_, h_f9_3, b_f9_3, rfl, rfl, rfl⟩

theorem k_deny_7 {Λ : kL} {S : Nat → Nat} {G : Nat → kc} {D : kh} (hS : cInj S) (hSt : kSt Λ) {N : Nat → Int32} {v : List Int32} (hP : G 0 = oGs S N) (hO : tO S G 2 14 6200 v) (x : Int32) : cCt Λ mX11_deny 0 0 S [.ref (S 0), .int x, .int 7] G D (fun r G' D' => ∃ f, tl f 0 (sb_openError ++ sb_invalid_grant ++ sb_close).length = (sb_openError ++ sb_invalid_grant ++ sb_close) ∧ bts (sb_openError ++ sb_invalid_grant ++ sb_close) ∧ r = some (.int x) ∧ G' = gW S (gA S G N x 7) 2 14 6200 f (sb_openError ++ sb_invalid_grant ++ sb_close).length ∧ D' = D) := by
  refine cCt.of hS pn_X11 [some (.ref (S 0)), some (.int x), some (.int 7)] rfl (Nat.le_of_ble_eq_true rfl) fun X => ?_
  have hO9 := hO; obtain ⟨fo9, b1, b2, b3, b4, b5, b6⟩ := hO9
  refine C.aload_nR dX11_deny_0 rfl ?_
  refine C.iload_n dX11_deny_1 rfl ?_
  refine C.iload_n dX11_deny_2 rfl ?_
  refine C.callVS0 (k9 := 0) [.int x, .int 7] dX11_deny_3 mdX11_answer imX11_answer seX11_answer kc_12 rfl hP lk_X11_240 rfl rfl rfl rfl (k_answer hS (N := N) (show G 0 = oGs S N from hP) (show tO S G 2 14 6200 v from hO) x 7) ?_
  rintro _ _ D9 ⟨rfl, rfl, e8⟩; have e8 := e8.symm; subst e8
  refine C.pop dX11_deny_6 rfl ?_
  refine C.aload_nR dX11_deny_7 rfl ?_
  refine C.getS (k9 := 0) (fs := [.ref (S 1), .ref (S 2), .ref (S 3), .ref (S 4), .ref (S 5), .ref (S 6), .ref (S 7), .ref (S 8), .ref (S 9), .ref (S 10), .ref (S 11), .ref (S 12), .int (N 26), .int (N 27), .int (N 28), .int (N 25), .int x, .int 7]) dX11_deny_8 fl_X11_18 rfl rfl rfl ?_
  refine C.ldcwS dX11_deny_11 sr_X11_528 ?_
  refine C.callVS0 (k9 := 2) [.ref (kSa Λ RX11 528)] dX11_deny_14 mdX9_addWord imX9_addWord seX9_addWord kc_10 rfl rfl lk_X11_443 rfl rfl rfl rfl (o_addWord hS (show tO S (gA S G N x 7) 2 14 6200 [] from ⟨fo9, rfl, b2, Nat.zero_le _, by decide, rfl, bts_nil⟩) rfl rfl (st_X11_528 hSt) sb_openError_b (by decide)) ?_
  rintro _ _ D9 ⟨f9_1, h_f9_1, b_f9_1, rfl, rfl, e8⟩; have e8 := e8.symm; subst e8
  rw [List.nil_append] at h_f9_1 b_f9_1 ⊢
  refine C.aload_nR dX11_deny_17 rfl ?_
  refine C.getS (k9 := 0) (fs := [.ref (S 1), .ref (S 2), .ref (S 3), .ref (S 4), .ref (S 5), .ref (S 6), .ref (S 7), .ref (S 8), .ref (S 9), .ref (S 10), .ref (S 11), .ref (S 12), .int (N 26), .int (N 27), .int (N 28), .int (N 25), .int x, .int 7]) dX11_deny_18 fl_X11_18 rfl rfl rfl ?_
  refine C.iload_n dX11_deny_21 rfl ?_
  refine C.callS0 [.int 7] dX11_deny_22 mdX11_wordOf ssX11_wordOf lk_X11_446 rfl rfl rfl rfl (cCt.w0 (R := fun r => r = some (.ref (kSa Λ RX11 540))) fun σ9 h9 => k_wordOf_7) ?_
  rintro _ G9 D9 ⟨rfl, e9, e8⟩
  have e9 := e9.symm; subst e9; have e8 := e8.symm; subst e8
  refine C.callVS0 (k9 := 2) [.ref (kSa Λ RX11 540)] dX11_deny_25 mdX9_addWord imX9_addWord seX9_addWord kc_10 rfl rfl lk_X11_443 rfl rfl rfl rfl (o_addWord hS (show tO S (gW S (gA S G N x 7) 2 14 6200 f9_1 sb_openError.length) 2 14 6200 sb_openError from (tO.gW (by decide) (by decide) (by decide) h_f9_1 b_f9_1)) rfl rfl (st_X11_540 hSt) sb_invalid_grant_b (by decide)) ?_
  rintro _ _ D9 ⟨f9_2, h_f9_2, b_f9_2, rfl, rfl, e8⟩; have e8 := e8.symm; subst e8
  rw [gW_gW _ _ _ _ _ _ _ (by decide)]
  refine C.aload_nR dX11_deny_28 rfl ?_
  refine C.getS (k9 := 0) (fs := [.ref (S 1), .ref (S 2), .ref (S 3), .ref (S 4), .ref (S 5), .ref (S 6), .ref (S 7), .ref (S 8), .ref (S 9), .ref (S 10), .ref (S 11), .ref (S 12), .int (N 26), .int (N 27), .int (N 28), .int (N 25), .int x, .int 7]) dX11_deny_29 fl_X11_18 rfl rfl rfl ?_
  refine C.ldcwS dX11_deny_32 sr_X11_522 ?_
  refine C.callVS0 (k9 := 2) [.ref (kSa Λ RX11 522)] dX11_deny_35 mdX9_addWord imX9_addWord seX9_addWord kc_10 rfl rfl lk_X11_443 rfl rfl rfl rfl (o_addWord hS (show tO S (gW S (gA S G N x 7) 2 14 6200 f9_2 (sb_openError ++ sb_invalid_grant).length) 2 14 6200 (sb_openError ++ sb_invalid_grant) from (tO.gW (by decide) (by decide) (by decide) h_f9_2 b_f9_2)) rfl rfl (st_X11_522 hSt) sb_close_b (by decide)) ?_
  rintro _ _ D9 ⟨f9_3, h_f9_3, b_f9_3, rfl, rfl, e8⟩; have e8 := e8.symm; subst e8
  rw [gW_gW _ _ _ _ _ _ _ (by decide)]
  refine C.iload_n dX11_deny_38 rfl ?_
  refine C.iret dX11_deny_39 rfl ?_
  exact ⟨_, h_f9_3, b_f9_3, rfl, rfl, rfl⟩

theorem k_deny_8 {Λ : kL} {S : Nat → Nat} {G : Nat → kc} {D : kh} (hS : cInj S) (hSt : kSt Λ) {N : Nat → Int32} {v : List Int32} (hP : G 0 = oGs S N) (hO : tO S G 2 14 6200 v) (x : Int32) : cCt Λ mX11_deny 0 0 S [.ref (S 0), .int x, .int 8] G D (fun r G' D' => ∃ f, tl f 0 (sb_openError ++ sb_unsupported_grant_type ++ sb_close).length = (sb_openError ++ sb_unsupported_grant_type ++ sb_close) ∧ bts (sb_openError ++ sb_unsupported_grant_type ++ sb_close) ∧ r = some (.int x) ∧ G' = gW S (gA S G N x 8) 2 14 6200 f (sb_openError ++ sb_unsupported_grant_type ++ sb_close).length ∧ D' = D) := by
  refine cCt.of hS pn_X11 [some (.ref (S 0)), some (.int x), some (.int 8)] rfl (Nat.le_of_ble_eq_true rfl) fun X => ?_
  have hO9 := hO; obtain ⟨fo9, b1, b2, b3, b4, b5, b6⟩ := hO9
  refine C.aload_nR dX11_deny_0 rfl ?_
  refine C.iload_n dX11_deny_1 rfl ?_
  refine C.iload_n dX11_deny_2 rfl ?_
  refine C.callVS0 (k9 := 0) [.int x, .int 8] dX11_deny_3 mdX11_answer imX11_answer seX11_answer kc_12 rfl hP lk_X11_240 rfl rfl rfl rfl (k_answer hS (N := N) (show G 0 = oGs S N from hP) (show tO S G 2 14 6200 v from hO) x 8) ?_
  rintro _ _ D9 ⟨rfl, rfl, e8⟩; have e8 := e8.symm; subst e8
  refine C.pop dX11_deny_6 rfl ?_
  refine C.aload_nR dX11_deny_7 rfl ?_
  refine C.getS (k9 := 0) (fs := [.ref (S 1), .ref (S 2), .ref (S 3), .ref (S 4), .ref (S 5), .ref (S 6), .ref (S 7), .ref (S 8), .ref (S 9), .ref (S 10), .ref (S 11), .ref (S 12), .int (N 26), .int (N 27), .int (N 28), .int (N 25), .int x, .int 8]) dX11_deny_8 fl_X11_18 rfl rfl rfl ?_
  refine C.ldcwS dX11_deny_11 sr_X11_528 ?_
  refine C.callVS0 (k9 := 2) [.ref (kSa Λ RX11 528)] dX11_deny_14 mdX9_addWord imX9_addWord seX9_addWord kc_10 rfl rfl lk_X11_443 rfl rfl rfl rfl (o_addWord hS (show tO S (gA S G N x 8) 2 14 6200 [] from ⟨fo9, rfl, b2, Nat.zero_le _, by decide, rfl, bts_nil⟩) rfl rfl (st_X11_528 hSt) sb_openError_b (by decide)) ?_
  rintro _ _ D9 ⟨f9_1, h_f9_1, b_f9_1, rfl, rfl, e8⟩; have e8 := e8.symm; subst e8
  rw [List.nil_append] at h_f9_1 b_f9_1 ⊢
  refine C.aload_nR dX11_deny_17 rfl ?_
  refine C.getS (k9 := 0) (fs := [.ref (S 1), .ref (S 2), .ref (S 3), .ref (S 4), .ref (S 5), .ref (S 6), .ref (S 7), .ref (S 8), .ref (S 9), .ref (S 10), .ref (S 11), .ref (S 12), .int (N 26), .int (N 27), .int (N 28), .int (N 25), .int x, .int 8]) dX11_deny_18 fl_X11_18 rfl rfl rfl ?_
  refine C.iload_n dX11_deny_21 rfl ?_
  refine C.callS0 [.int 8] dX11_deny_22 mdX11_wordOf ssX11_wordOf lk_X11_446 rfl rfl rfl rfl (cCt.w0 (R := fun r => r = some (.ref (kSa Λ RX11 542))) fun σ9 h9 => k_wordOf_8) ?_
  rintro _ G9 D9 ⟨rfl, e9, e8⟩
  have e9 := e9.symm; subst e9; have e8 := e8.symm; subst e8
  refine C.callVS0 (k9 := 2) [.ref (kSa Λ RX11 542)] dX11_deny_25 mdX9_addWord imX9_addWord seX9_addWord kc_10 rfl rfl lk_X11_443 rfl rfl rfl rfl (o_addWord hS (show tO S (gW S (gA S G N x 8) 2 14 6200 f9_1 sb_openError.length) 2 14 6200 sb_openError from (tO.gW (by decide) (by decide) (by decide) h_f9_1 b_f9_1)) rfl rfl (st_X11_542 hSt) sb_unsupported_grant_type_b (by decide)) ?_
  rintro _ _ D9 ⟨f9_2, h_f9_2, b_f9_2, rfl, rfl, e8⟩; have e8 := e8.symm; subst e8
  rw [gW_gW _ _ _ _ _ _ _ (by decide)]
  refine C.aload_nR dX11_deny_28 rfl ?_
  refine C.getS (k9 := 0) (fs := [.ref (S 1), .ref (S 2), .ref (S 3), .ref (S 4), .ref (S 5), .ref (S 6), .ref (S 7), .ref (S 8), .ref (S 9), .ref (S 10), .ref (S 11), .ref (S 12), .int (N 26), .int (N 27), .int (N 28), .int (N 25), .int x, .int 8]) dX11_deny_29 fl_X11_18 rfl rfl rfl ?_
  refine C.ldcwS dX11_deny_32 sr_X11_522 ?_
  refine C.callVS0 (k9 := 2) [.ref (kSa Λ RX11 522)] dX11_deny_35 mdX9_addWord imX9_addWord seX9_addWord kc_10 rfl rfl lk_X11_443 rfl rfl rfl rfl (o_addWord hS (show tO S (gW S (gA S G N x 8) 2 14 6200 f9_2 (sb_openError ++ sb_unsupported_grant_type).length) 2 14 6200 (sb_openError ++ sb_unsupported_grant_type) from (tO.gW (by decide) (by decide) (by decide) h_f9_2 b_f9_2)) rfl rfl (st_X11_522 hSt) sb_close_b (by decide)) ?_
  rintro _ _ D9 ⟨f9_3, h_f9_3, b_f9_3, rfl, rfl, e8⟩; have e8 := e8.symm; subst e8
  rw [gW_gW _ _ _ _ _ _ _ (by decide)]
  refine C.iload_n dX11_deny_38 rfl ?_
  refine C.iret dX11_deny_39 rfl ?_
  exact ⟨_, h_f9_3, b_f9_3, rfl, rfl, rfl⟩

theorem k_deny_11 {Λ : kL} {S : Nat → Nat} {G : Nat → kc} {D : kh} (hS : cInj S) (hSt : kSt Λ) {N : Nat → Int32} {v : List Int32} (hP : G 0 = oGs S N) (hO : tO S G 2 14 6200 v) (x : Int32) : cCt Λ mX11_deny 0 0 S [.ref (S 0), .int x, .int 11] G D (fun r G' D' => ∃ f, tl f 0 (sb_openError ++ sb_temporarily_unavailable ++ sb_close).length = (sb_openError ++ sb_temporarily_unavailable ++ sb_close) ∧ bts (sb_openError ++ sb_temporarily_unavailable ++ sb_close) ∧ r = some (.int x) ∧ G' = gW S (gA S G N x 11) 2 14 6200 f (sb_openError ++ sb_temporarily_unavailable ++ sb_close).length ∧ D' = D) := by
  refine cCt.of hS pn_X11 [some (.ref (S 0)), some (.int x), some (.int 11)] rfl (Nat.le_of_ble_eq_true rfl) fun X => ?_
  have hO9 := hO; obtain ⟨fo9, b1, b2, b3, b4, b5, b6⟩ := hO9
  refine C.aload_nR dX11_deny_0 rfl ?_
  refine C.iload_n dX11_deny_1 rfl ?_
  refine C.iload_n dX11_deny_2 rfl ?_
  refine C.callVS0 (k9 := 0) [.int x, .int 11] dX11_deny_3 mdX11_answer imX11_answer seX11_answer kc_12 rfl hP lk_X11_240 rfl rfl rfl rfl (k_answer hS (N := N) (show G 0 = oGs S N from hP) (show tO S G 2 14 6200 v from hO) x 11) ?_
  rintro _ _ D9 ⟨rfl, rfl, e8⟩; have e8 := e8.symm; subst e8
  refine C.pop dX11_deny_6 rfl ?_
  refine C.aload_nR dX11_deny_7 rfl ?_
  refine C.getS (k9 := 0) (fs := [.ref (S 1), .ref (S 2), .ref (S 3), .ref (S 4), .ref (S 5), .ref (S 6), .ref (S 7), .ref (S 8), .ref (S 9), .ref (S 10), .ref (S 11), .ref (S 12), .int (N 26), .int (N 27), .int (N 28), .int (N 25), .int x, .int 11]) dX11_deny_8 fl_X11_18 rfl rfl rfl ?_
  refine C.ldcwS dX11_deny_11 sr_X11_528 ?_
  refine C.callVS0 (k9 := 2) [.ref (kSa Λ RX11 528)] dX11_deny_14 mdX9_addWord imX9_addWord seX9_addWord kc_10 rfl rfl lk_X11_443 rfl rfl rfl rfl (o_addWord hS (show tO S (gA S G N x 11) 2 14 6200 [] from ⟨fo9, rfl, b2, Nat.zero_le _, by decide, rfl, bts_nil⟩) rfl rfl (st_X11_528 hSt) sb_openError_b (by decide)) ?_
  rintro _ _ D9 ⟨f9_1, h_f9_1, b_f9_1, rfl, rfl, e8⟩; have e8 := e8.symm; subst e8
  rw [List.nil_append] at h_f9_1 b_f9_1 ⊢
  refine C.aload_nR dX11_deny_17 rfl ?_
  refine C.getS (k9 := 0) (fs := [.ref (S 1), .ref (S 2), .ref (S 3), .ref (S 4), .ref (S 5), .ref (S 6), .ref (S 7), .ref (S 8), .ref (S 9), .ref (S 10), .ref (S 11), .ref (S 12), .int (N 26), .int (N 27), .int (N 28), .int (N 25), .int x, .int 11]) dX11_deny_18 fl_X11_18 rfl rfl rfl ?_
  refine C.iload_n dX11_deny_21 rfl ?_
  refine C.callS0 [.int 11] dX11_deny_22 mdX11_wordOf ssX11_wordOf lk_X11_446 rfl rfl rfl rfl (cCt.w0 (R := fun r => r = some (.ref (kSa Λ RX11 548))) fun σ9 h9 => k_wordOf_11) ?_
  rintro _ G9 D9 ⟨rfl, e9, e8⟩
  have e9 := e9.symm; subst e9; have e8 := e8.symm; subst e8
  refine C.callVS0 (k9 := 2) [.ref (kSa Λ RX11 548)] dX11_deny_25 mdX9_addWord imX9_addWord seX9_addWord kc_10 rfl rfl lk_X11_443 rfl rfl rfl rfl (o_addWord hS (show tO S (gW S (gA S G N x 11) 2 14 6200 f9_1 sb_openError.length) 2 14 6200 sb_openError from (tO.gW (by decide) (by decide) (by decide) h_f9_1 b_f9_1)) rfl rfl (st_X11_548 hSt) sb_temporarily_unavailable_b (by decide)) ?_
  rintro _ _ D9 ⟨f9_2, h_f9_2, b_f9_2, rfl, rfl, e8⟩; have e8 := e8.symm; subst e8
  rw [gW_gW _ _ _ _ _ _ _ (by decide)]
  refine C.aload_nR dX11_deny_28 rfl ?_
  refine C.getS (k9 := 0) (fs := [.ref (S 1), .ref (S 2), .ref (S 3), .ref (S 4), .ref (S 5), .ref (S 6), .ref (S 7), .ref (S 8), .ref (S 9), .ref (S 10), .ref (S 11), .ref (S 12), .int (N 26), .int (N 27), .int (N 28), .int (N 25), .int x, .int 11]) dX11_deny_29 fl_X11_18 rfl rfl rfl ?_
  refine C.ldcwS dX11_deny_32 sr_X11_522 ?_
  refine C.callVS0 (k9 := 2) [.ref (kSa Λ RX11 522)] dX11_deny_35 mdX9_addWord imX9_addWord seX9_addWord kc_10 rfl rfl lk_X11_443 rfl rfl rfl rfl (o_addWord hS (show tO S (gW S (gA S G N x 11) 2 14 6200 f9_2 (sb_openError ++ sb_temporarily_unavailable).length) 2 14 6200 (sb_openError ++ sb_temporarily_unavailable) from (tO.gW (by decide) (by decide) (by decide) h_f9_2 b_f9_2)) rfl rfl (st_X11_522 hSt) sb_close_b (by decide)) ?_
  rintro _ _ D9 ⟨f9_3, h_f9_3, b_f9_3, rfl, rfl, e8⟩; have e8 := e8.symm; subst e8
  rw [gW_gW _ _ _ _ _ _ _ (by decide)]
  refine C.iload_n dX11_deny_38 rfl ?_
  refine C.iret dX11_deny_39 rfl ?_
  exact ⟨_, h_f9_3, b_f9_3, rfl, rfl, rfl⟩

theorem q_status {Λ : kL} {S : Nat → Nat} {G : Nat → kc} {D : kh} (hS : cInj S) {A L : Nat → List Nat} {N : Nat → Int32} {B : Nat → List Int32} {T R : Nat → List (List Int32)} (hR : cR Λ S G D A L N B T R) (hW : wf N B T R) : cCt Λ mX11_status 0 0 S [.ref (S 0)] G D (cP Λ S (N 5, 0, N, B, T, R)) := by
  refine cCt.of hS pn_X11 [some (.ref (S 0))] rfl (Nat.le_of_ble_eq_true rfl) fun X => ?_
  obtain ⟨p_a, p_b, p_n, p_k, p_f, p_h, p_w, p_c, p_r, p_q, p_o, p_m, p_t, p_d⟩ := hR
  obtain ⟨w_a, w_n, w_w, w_c, w_r, w_x, w_q, w_k, w_f, w_t, w_m, w_l⟩ := hW
  have p_a9 := p_a; obtain ⟨ft, a1, a2, a3, a4, a5, a6⟩ := p_a9
  have p_b9 := p_b; obtain ⟨fo9, b1, b2, b3, b4, b5, b6⟩ := p_b9
  refine C.aload_nR dX11_status_0 rfl ?_
  refine C.getS (k9 := 0) (fs := [.ref (S 1), .ref (S 2), .ref (S 3), .ref (S 4), .ref (S 5), .ref (S 6), .ref (S 7), .ref (S 8), .ref (S 9), .ref (S 10), .ref (S 11), .ref (S 12), .int (N 26), .int (N 27), .int (N 28), .int (N 25), .int (N 5), .int (N 6)]) dX11_status_1 fl_X11_80 rfl p_n rfl ?_
  refine C.iret dX11_status_4 rfl ?_
  exact ⟨rfl, A, L, p_a, p_b, p_n, p_k, p_f, p_h, p_w, p_c, p_r, p_q, p_o, p_m, p_t, p_d⟩

theorem q_error {Λ : kL} {S : Nat → Nat} {G : Nat → kc} {D : kh} (hS : cInj S) {A L : Nat → List Nat} {N : Nat → Int32} {B : Nat → List Int32} {T R : Nat → List (List Int32)} (hR : cR Λ S G D A L N B T R) (hW : wf N B T R) : cCt Λ mX11_error 0 0 S [.ref (S 0)] G D (cP Λ S (N 6, 0, N, B, T, R)) := by
  refine cCt.of hS pn_X11 [some (.ref (S 0))] rfl (Nat.le_of_ble_eq_true rfl) fun X => ?_
  obtain ⟨p_a, p_b, p_n, p_k, p_f, p_h, p_w, p_c, p_r, p_q, p_o, p_m, p_t, p_d⟩ := hR
  obtain ⟨w_a, w_n, w_w, w_c, w_r, w_x, w_q, w_k, w_f, w_t, w_m, w_l⟩ := hW
  have p_a9 := p_a; obtain ⟨ft, a1, a2, a3, a4, a5, a6⟩ := p_a9
  have p_b9 := p_b; obtain ⟨fo9, b1, b2, b3, b4, b5, b6⟩ := p_b9
  refine C.aload_nR dX11_error_0 rfl ?_
  refine C.getS (k9 := 0) (fs := [.ref (S 1), .ref (S 2), .ref (S 3), .ref (S 4), .ref (S 5), .ref (S 6), .ref (S 7), .ref (S 8), .ref (S 9), .ref (S 10), .ref (S 11), .ref (S 12), .int (N 26), .int (N 27), .int (N 28), .int (N 25), .int (N 5), .int (N 6)]) dX11_error_1 fl_X11_83 rfl p_n rfl ?_
  refine C.iret dX11_error_4 rfl ?_
  exact ⟨rfl, A, L, p_a, p_b, p_n, p_k, p_f, p_h, p_w, p_c, p_r, p_q, p_o, p_m, p_t, p_d⟩

theorem q_outs {Λ : kL} {S : Nat → Nat} {G : Nat → kc} {D : kh} (hS : cInj S) {A L : Nat → List Nat} {N : Nat → Int32} {B : Nat → List Int32} {T R : Nat → List (List Int32)} (hR : cR Λ S G D A L N B T R) (hW : wf N B T R) : cCt Λ mX11_outs 0 0 S [.ref (S 0)] G D (cP Λ S (nI (B 1).length, 0, N, B, T, R)) := by
  refine cCt.of hS pn_X11 [some (.ref (S 0))] rfl (Nat.le_of_ble_eq_true rfl) fun X => ?_
  obtain ⟨p_a, p_b, p_n, p_k, p_f, p_h, p_w, p_c, p_r, p_q, p_o, p_m, p_t, p_d⟩ := hR
  obtain ⟨w_a, w_n, w_w, w_c, w_r, w_x, w_q, w_k, w_f, w_t, w_m, w_l⟩ := hW
  have p_a9 := p_a; obtain ⟨ft, a1, a2, a3, a4, a5, a6⟩ := p_a9
  have p_b9 := p_b; obtain ⟨fo9, b1, b2, b3, b4, b5, b6⟩ := p_b9
  refine C.aload_nR dX11_outs_0 rfl ?_
  refine C.getS (k9 := 0) (fs := [.ref (S 1), .ref (S 2), .ref (S 3), .ref (S 4), .ref (S 5), .ref (S 6), .ref (S 7), .ref (S 8), .ref (S 9), .ref (S 10), .ref (S 11), .ref (S 12), .int (N 26), .int (N 27), .int (N 28), .int (N 25), .int (N 5), .int (N 6)]) dX11_outs_1 fl_X11_18 rfl p_n rfl ?_
  refine C.callVS0 (k9 := 2) [] dX11_outs_4 mdX9_size imX9_size seX9_size kc_10 rfl b1 lk_X11_86 rfl rfl rfl rfl (cCt.w0 (R := fun r => r = some (.int (nI (B 1).length))) fun σ9 h9 => v_size ((show tO S G 2 14 6200 (B 1) from p_b).s.tx h9 rfl rfl)) ?_
  rintro _ G9 D9 ⟨rfl, e9, e8⟩
  have e9 := e9.symm; subst e9; have e8 := e8.symm; subst e8
  refine C.iret dX11_outs_7 rfl ?_
  exact ⟨rfl, A, L, p_a, p_b, p_n, p_k, p_f, p_h, p_w, p_c, p_r, p_q, p_o, p_m, p_t, p_d⟩

theorem q_out {Λ : kL} {S : Nat → Nat} {G : Nat → kc} {D : kh} (hS : cInj S) {A L : Nat → List Nat} {N : Nat → Int32} {B : Nat → List Int32} {T R : Nat → List (List Int32)} (hR : cR Λ S G D A L N B T R) (hW : wf N B T R) (x : Int32) : cCt Λ mX11_out 0 0 S [.ref (S 0), .int x] G D (cP Λ S (opOut N B T R x)) := by
  refine cCt.of hS pn_X11 [some (.ref (S 0)), some (.int x)] rfl (Nat.le_of_ble_eq_true rfl) fun X => ?_
  obtain ⟨p_a, p_b, p_n, p_k, p_f, p_h, p_w, p_c, p_r, p_q, p_o, p_m, p_t, p_d⟩ := hR
  obtain ⟨w_a, w_n, w_w, w_c, w_r, w_x, w_q, w_k, w_f, w_t, w_m, w_l⟩ := hW
  have p_a9 := p_a; obtain ⟨ft, a1, a2, a3, a4, a5, a6⟩ := p_a9
  have p_b9 := p_b; obtain ⟨fo9, b1, b2, b3, b4, b5, b6⟩ := p_b9
  refine C.aload_nR dX11_out_0 rfl ?_
  refine C.getS (k9 := 0) (fs := [.ref (S 1), .ref (S 2), .ref (S 3), .ref (S 4), .ref (S 5), .ref (S 6), .ref (S 7), .ref (S 8), .ref (S 9), .ref (S 10), .ref (S 11), .ref (S 12), .int (N 26), .int (N 27), .int (N 28), .int (N 25), .int (N 5), .int (N 6)]) dX11_out_1 fl_X11_18 rfl p_n rfl ?_
  refine C.iload_n dX11_out_4 rfl ?_
  refine C.callVS0 (k9 := 2) [.int x] dX11_out_5 mdX9_at imX9_at seX9_at kc_10 rfl b1 lk_X11_349 rfl rfl rfl rfl (cCt.w0 (R := fun r => r = some (.int (tat fo9 0 (B 1).length x))) fun σ9 h9 => c_Text_at (h9.at (k := 2) rfl b1) (h9.at (k := 14) rfl b2) (by omega) b4 x) ?_
  rintro _ G9 D9 ⟨rfl, e9, e8⟩
  have e9 := e9.symm; subst e9; have e8 := e8.symm; subst e8
  refine C.iret dX11_out_8 rfl ?_
  refine ⟨congrArg (fun z => some (Value.int z)) ?_, A, L, p_a, p_b, p_n, p_k, p_f, p_h, p_w, p_c, p_r, p_q, p_o, p_m, p_t, p_d⟩
  show _ = if 0 ≤ x ∧ x < nI (B 1).length then _ else _
  rw [tat]
  by_cases h : 0 ≤ x ∧ x < nI (B 1).length
  · rw [if_pos h, if_pos h, Nat.zero_add, tl_at0 b5 (oix_lt (nle0 h.1) h.2 (by omega))]
  · rw [if_neg h, if_neg h]

theorem q_feed {Λ : kL} {S : Nat → Nat} {G : Nat → kc} {D : kh} (hS : cInj S) {A L : Nat → List Nat} {N : Nat → Int32} {B : Nat → List Int32} {T R : Nat → List (List Int32)} (hR : cR Λ S G D A L N B T R) (hW : wf N B T R) (a b c d e : Int32) : cCt Λ mX11_feed 0 0 S [.ref (S 0), .int a, .int b, .int c, .int d, .int e] G D (cP Λ S (opFeed N B T R a b c d e)) := by
  refine cCt.of hS pn_X11 [some (.ref (S 0)), some (.int a), some (.int b), some (.int c), some (.int d), some (.int e)] rfl (Nat.le_of_ble_eq_true rfl) fun X => ?_
  obtain ⟨p_a, p_b, p_n, p_k, p_f, p_h, p_w, p_c, p_r, p_q, p_o, p_m, p_t, p_d⟩ := hR
  obtain ⟨w_a, w_n, w_w, w_c, w_r, w_x, w_q, w_k, w_f, w_t, w_m, w_l⟩ := hW
  have p_a9 := p_a; obtain ⟨ft, a1, a2, a3, a4, a5, a6⟩ := p_a9
  have p_b9 := p_b; obtain ⟨fo9, b1, b2, b3, b4, b5, b6⟩ := p_b9
  refine C.aload_nR dX11_feed_0 rfl ?_
  refine C.getS (k9 := 0) (fs := [.ref (S 1), .ref (S 2), .ref (S 3), .ref (S 4), .ref (S 5), .ref (S 6), .ref (S 7), .ref (S 8), .ref (S 9), .ref (S 10), .ref (S 11), .ref (S 12), .int (N 26), .int (N 27), .int (N 28), .int (N 25), .int (N 5), .int (N 6)]) dX11_feed_1 fl_X11_14 rfl p_n rfl ?_
  refine C.callVS0 (k9 := 1) [] dX11_feed_4 mdX9_size imX9_size seX9_size kc_10 rfl a1 lk_X11_86 rfl rfl rfl rfl (cCt.w0 (R := fun r => r = some (.int (nI (B 0).length))) fun σ9 h9 => v_size ((show tO S G 1 13 2000 (B 0) from p_a).s.tx h9 rfl rfl)) ?_
  rintro _ G9 D9 ⟨rfl, e9, e8⟩
  have e9 := e9.symm; subst e9; have e8 := e8.symm; subst e8
  refine C.bipush (v := 20) dX11_feed_7 (by decide) ?_
  refine C.iadd dX11_feed_9 ?_
  rw [show (nI (B 0).length) + 20 = nI ((B 0).length + 20) from nI_add (B 0).length 20]
  refine C.sipush (v := 2000) dX11_feed_10 (by decide) ?_
  refine C.icmp_le (tgt := 18) dX11_feed_13 (by decide) (fun c_13 => ?_) (fun c_13 => ?_)
  · skip
    have hle : (B 0).length + 20 ≤ 2000 := (nI_leI (b := 2000) (by omega) (by omega)).mp c_13
    refine C.aload_nR dX11_feed_18 rfl ?_
    refine C.getS (k9 := 0) (fs := [.ref (S 1), .ref (S 2), .ref (S 3), .ref (S 4), .ref (S 5), .ref (S 6), .ref (S 7), .ref (S 8), .ref (S 9), .ref (S 10), .ref (S 11), .ref (S 12), .int (N 26), .int (N 27), .int (N 28), .int (N 25), .int (N 5), .int (N 6)]) dX11_feed_19 fl_X11_14 rfl p_n rfl ?_
    refine C.iload_n dX11_feed_22 rfl ?_
    refine C.callVS0 (k9 := 1) [.int a] dX11_feed_23 mdX9_addInt imX9_addInt seX9_addInt kc_10 rfl a1 lk_X11_90 rfl rfl rfl rfl (o_addInt hS (show tO S G 1 13 2000 (B 0) from p_a) rfl rfl a (by first | omega | (simp only [List.length_append, dby_len]; omega))) ?_
    rintro _ _ D9 ⟨f9_1, h_f9_1, b_f9_1, rfl, rfl, e8⟩; have e8 := e8.symm; subst e8
    refine C.aload_nR dX11_feed_26 rfl ?_
    refine C.getS (k9 := 0) (fs := [.ref (S 1), .ref (S 2), .ref (S 3), .ref (S 4), .ref (S 5), .ref (S 6), .ref (S 7), .ref (S 8), .ref (S 9), .ref (S 10), .ref (S 11), .ref (S 12), .int (N 26), .int (N 27), .int (N 28), .int (N 25), .int (N 5), .int (N 6)]) dX11_feed_27 fl_X11_14 rfl p_n rfl ?_
    refine C.iload_n dX11_feed_30 rfl ?_
    refine C.callVS0 (k9 := 1) [.int b] dX11_feed_31 mdX9_addInt imX9_addInt seX9_addInt kc_10 rfl rfl lk_X11_90 rfl rfl rfl rfl (o_addInt hS (show tO S (gW S G 1 13 2000 f9_1 ((B 0) ++ dby [a] 4).length) 1 13 2000 ((B 0) ++ dby [a] 4) from (tO.gW (by decide) (by simp only [List.length_append, dby_len]; omega) (by decide) h_f9_1 b_f9_1)) rfl rfl b (by first | omega | (simp only [List.length_append, dby_len]; omega))) ?_
    rintro _ _ D9 ⟨f9_2, h_f9_2, b_f9_2, rfl, rfl, e8⟩; have e8 := e8.symm; subst e8
    rw [gW_gW _ _ _ _ _ _ _ (by decide)]
    refine C.aload_nR dX11_feed_34 rfl ?_
    refine C.getS (k9 := 0) (fs := [.ref (S 1), .ref (S 2), .ref (S 3), .ref (S 4), .ref (S 5), .ref (S 6), .ref (S 7), .ref (S 8), .ref (S 9), .ref (S 10), .ref (S 11), .ref (S 12), .int (N 26), .int (N 27), .int (N 28), .int (N 25), .int (N 5), .int (N 6)]) dX11_feed_35 fl_X11_14 rfl p_n rfl ?_
    refine C.iload_n dX11_feed_38 rfl ?_
    refine C.callVS0 (k9 := 1) [.int c] dX11_feed_39 mdX9_addInt imX9_addInt seX9_addInt kc_10 rfl rfl lk_X11_90 rfl rfl rfl rfl (o_addInt hS (show tO S (gW S G 1 13 2000 f9_2 (((B 0) ++ dby [a] 4) ++ dby [b] 4).length) 1 13 2000 (((B 0) ++ dby [a] 4) ++ dby [b] 4) from (tO.gW (by decide) (by simp only [List.length_append, dby_len]; omega) (by decide) h_f9_2 b_f9_2)) rfl rfl c (by first | omega | (simp only [List.length_append, dby_len]; omega))) ?_
    rintro _ _ D9 ⟨f9_3, h_f9_3, b_f9_3, rfl, rfl, e8⟩; have e8 := e8.symm; subst e8
    rw [gW_gW _ _ _ _ _ _ _ (by decide)]
    refine C.aload_nR dX11_feed_42 rfl ?_
    refine C.getS (k9 := 0) (fs := [.ref (S 1), .ref (S 2), .ref (S 3), .ref (S 4), .ref (S 5), .ref (S 6), .ref (S 7), .ref (S 8), .ref (S 9), .ref (S 10), .ref (S 11), .ref (S 12), .int (N 26), .int (N 27), .int (N 28), .int (N 25), .int (N 5), .int (N 6)]) dX11_feed_43 fl_X11_14 rfl p_n rfl ?_
    refine C.iload dX11_feed_46 rfl ?_
    refine C.callVS0 (k9 := 1) [.int d] dX11_feed_48 mdX9_addInt imX9_addInt seX9_addInt kc_10 rfl rfl lk_X11_90 rfl rfl rfl rfl (o_addInt hS (show tO S (gW S G 1 13 2000 f9_3 ((((B 0) ++ dby [a] 4) ++ dby [b] 4) ++ dby [c] 4).length) 1 13 2000 ((((B 0) ++ dby [a] 4) ++ dby [b] 4) ++ dby [c] 4) from (tO.gW (by decide) (by simp only [List.length_append, dby_len]; omega) (by decide) h_f9_3 b_f9_3)) rfl rfl d (by first | omega | (simp only [List.length_append, dby_len]; omega))) ?_
    rintro _ _ D9 ⟨f9_4, h_f9_4, b_f9_4, rfl, rfl, e8⟩; have e8 := e8.symm; subst e8
    rw [gW_gW _ _ _ _ _ _ _ (by decide)]
    refine C.aload_nR dX11_feed_51 rfl ?_
    refine C.getS (k9 := 0) (fs := [.ref (S 1), .ref (S 2), .ref (S 3), .ref (S 4), .ref (S 5), .ref (S 6), .ref (S 7), .ref (S 8), .ref (S 9), .ref (S 10), .ref (S 11), .ref (S 12), .int (N 26), .int (N 27), .int (N 28), .int (N 25), .int (N 5), .int (N 6)]) dX11_feed_52 fl_X11_14 rfl p_n rfl ?_
    refine C.iload dX11_feed_55 rfl ?_
    refine C.callVS0 (k9 := 1) [.int e] dX11_feed_57 mdX9_addInt imX9_addInt seX9_addInt kc_10 rfl rfl lk_X11_90 rfl rfl rfl rfl (o_addInt hS (show tO S (gW S G 1 13 2000 f9_4 (((((B 0) ++ dby [a] 4) ++ dby [b] 4) ++ dby [c] 4) ++ dby [d] 4).length) 1 13 2000 (((((B 0) ++ dby [a] 4) ++ dby [b] 4) ++ dby [c] 4) ++ dby [d] 4) from (tO.gW (by decide) (by simp only [List.length_append, dby_len]; omega) (by decide) h_f9_4 b_f9_4)) rfl rfl e (by first | omega | (simp only [List.length_append, dby_len]; omega))) ?_
    rintro _ _ D9 ⟨f9_5, h_f9_5, b_f9_5, rfl, rfl, e8⟩; have e8 := e8.symm; subst e8
    rw [gW_gW _ _ _ _ _ _ _ (by decide)]
    refine C.aload_nR dX11_feed_60 rfl ?_
    refine C.getS (k9 := 0) (fs := [.ref (S 1), .ref (S 2), .ref (S 3), .ref (S 4), .ref (S 5), .ref (S 6), .ref (S 7), .ref (S 8), .ref (S 9), .ref (S 10), .ref (S 11), .ref (S 12), .int (N 26), .int (N 27), .int (N 28), .int (N 25), .int (N 5), .int (N 6)]) dX11_feed_61 fl_X11_14 rfl p_n rfl ?_
    refine C.callVS0 (k9 := 1) [] dX11_feed_64 mdX9_size imX9_size seX9_size kc_10 rfl rfl lk_X11_86 rfl rfl rfl rfl (cCt.w0 (R := fun r => r = some (.int (nI ((((((B 0) ++ dby [a] 4) ++ dby [b] 4) ++ dby [c] 4) ++ dby [d] 4) ++ dby [e] 4).length))) fun σ9 h9 => v_size ((show tO S (gW S G 1 13 2000 f9_5 ((((((B 0) ++ dby [a] 4) ++ dby [b] 4) ++ dby [c] 4) ++ dby [d] 4) ++ dby [e] 4).length) 1 13 2000 ((((((B 0) ++ dby [a] 4) ++ dby [b] 4) ++ dby [c] 4) ++ dby [d] 4) ++ dby [e] 4) from (tO.gW (by decide) (by simp only [List.length_append, dby_len]; omega) (by decide) h_f9_5 b_f9_5)).s.tx h9 rfl rfl)) ?_
    rintro _ G9 D9 ⟨rfl, e9, e8⟩
    have e9 := e9.symm; subst e9; have e8 := e8.symm; subst e8
    refine C.iret dX11_feed_67 rfl ?_
    have ev : ((((((B 0) ++ dby [a] 4) ++ dby [b] 4) ++ dby [c] 4) ++ dby [d] 4) ++ dby [e] 4) = B 0 ++ dby [a, b, c, d, e] 20 := by rw [dby5]; simp only [List.append_assoc]
    rw [opFeed, if_neg (by omega)]
    refine ⟨congrArg (fun z => some (Value.int z)) (by rw [ev, List.length_append, dby_len]), A, L, ?_, p_b, p_n, p_k, p_f, p_h, p_w, p_c, p_r, p_q, p_o, p_m, p_t, p_d⟩
    have hta : tO S (gW S G 1 13 2000 f9_5 ((((((B 0) ++ dby [a] 4) ++ dby [b] 4) ++ dby [c] 4) ++ dby [d] 4) ++ dby [e] 4).length) 1 13 2000 ((((((B 0) ++ dby [a] 4) ++ dby [b] 4) ++ dby [c] 4) ++ dby [d] 4) ++ dby [e] 4) := (tO.gW (by decide) (by simp only [List.length_append, dby_len]; omega) (by decide) h_f9_5 b_f9_5)
    show tO S (gW S G 1 13 2000 f9_5 ((((((B 0) ++ dby [a] 4) ++ dby [b] 4) ++ dby [c] 4) ++ dby [d] 4) ++ dby [e] 4).length) 1 13 2000 (B 0 ++ dby [a, b, c, d, e] 20)
    rw [ev] at hta
    rw [ev]
    exact hta
  · skip
    have hgt : 2000 < (B 0).length + 20 := Nat.lt_of_not_le fun q => c_13 ((nI_leI (b := 2000) (by omega) (by omega)).mpr q)
    refine C.iconst (v := (-1)) dX11_feed_16 (by decide) ?_
    refine C.iret dX11_feed_17 rfl ?_
    rw [opFeed, if_pos hgt]
    exact ⟨rfl, A, L, p_a, p_b, p_n, p_k, p_f, p_h, p_w, p_c, p_r, p_q, p_o, p_m, p_t, p_d⟩

theorem q_end {Λ : kL} {S : Nat → Nat} {G : Nat → kc} {D : kh} (hS : cInj S) {A L : Nat → List Nat} {N : Nat → Int32} {B : Nat → List Int32} {T R : Nat → List (List Int32)} (hR : cR Λ S G D A L N B T R) (hW : wf N B T R) (x : Int32) : cCt Λ mX11_end 0 0 S [.ref (S 0), .int x] G D (cP Λ S (opEnd N B T R x)) := by
  refine cCt.of hS pn_X11 [some (.ref (S 0)), some (.int x)] rfl (Nat.le_of_ble_eq_true rfl) fun X => ?_
  obtain ⟨p_a, p_b, p_n, p_k, p_f, p_h, p_w, p_c, p_r, p_q, p_o, p_m, p_t, p_d⟩ := hR
  obtain ⟨w_a, w_n, w_w, w_c, w_r, w_x, w_q, w_k, w_f, w_t, w_m, w_l⟩ := hW
  have p_a9 := p_a; obtain ⟨ft, a1, a2, a3, a4, a5, a6⟩ := p_a9
  have p_b9 := p_b; obtain ⟨fo9, b1, b2, b3, b4, b5, b6⟩ := p_b9
  refine C.aload_nR dX11_end_0 rfl ?_
  refine C.getS (k9 := 0) (fs := [.ref (S 1), .ref (S 2), .ref (S 3), .ref (S 4), .ref (S 5), .ref (S 6), .ref (S 7), .ref (S 8), .ref (S 9), .ref (S 10), .ref (S 11), .ref (S 12), .int (N 26), .int (N 27), .int (N 28), .int (N 25), .int (N 5), .int (N 6)]) dX11_end_1 fl_X11_14 rfl p_n rfl ?_
  refine C.iload_n dX11_end_4 rfl ?_
  refine C.callVS0 (k9 := 1) [.int x] dX11_end_5 mdX9_cutTo imX9_cutTo seX9_cutTo kc_10 rfl a1 lk_X11_93 rfl rfl rfl rfl (Q' := fun r G' D' => (¬ (0 ≤ x ∧ x ≤ nI (B 0).length) ∧ r = some (.int 0) ∧ G' = G ∧ D' = D) ∨ ((0 ≤ x ∧ x ≤ nI (B 0).length) ∧ r = some (.int 1) ∧ G' = updG G 1 (oT (S 13) (nI 0) x) ∧ D' = D)) (fun σ9 h9 => (c_Text_cutTo (h9.at (k := 1) rfl a1) x).mono fun r σ' h => ?_) ?_
  · rcases h with ⟨e1, e2, e3⟩ | ⟨e1, e2, e3⟩
    · subst e3; exact ⟨G, D, Or.inl ⟨e1, e2, rfl, rfl⟩, h9, cFr.rf⟩
    · subst e3; exact ⟨_, D, Or.inr ⟨e1, e2, rfl, rfl⟩, h9.putS hS (by decide) _, cFr.putS (by decide)⟩
  rintro _ _ _ (⟨hx, rfl, e9, e8⟩ | ⟨hx, rfl, rfl, e8⟩)
  · have e9 := e9.symm; subst e9; have e8 := e8.symm; subst e8
    refine C.zret dX11_end_8 rfl rfl ?_
    rw [opEnd, if_neg hx]
    exact ⟨rfl, A, L, p_a, p_b, p_n, p_k, p_f, p_h, p_w, p_c, p_r, p_q, p_o, p_m, p_t, p_d⟩
  · have e8 := e8.symm; subst e8
    refine C.zret dX11_end_8 rfl rfl ?_
    have hx9 := (le_nI (nle0 hx.1) (by omega)).mp hx.2
    rw [opEnd, if_pos hx]
    refine ⟨rfl, A, L, ⟨ft, ?_, a2, ?_, a4, tl_take a5 hx9, bts_take _ a6⟩, p_b, p_n, p_k, p_f, p_h, p_w, p_c, p_r, p_q, p_o, p_m, p_t, p_d⟩
    · show oT (S 13) (nI 0) x = oT (S 13) (nI 0) (nI ((B 0).take x.toNatClampNeg).length)
      rw [List.length_take, Nat.min_eq_left hx9, ← oix_eq (nle0 hx.1)]
    · show ((B 0).take x.toNatClampNeg).length ≤ 2000
      rw [List.length_take]; omega

theorem q_again {Λ : kL} {S : Nat → Nat} {G : Nat → kc} {D : kh} (hS : cInj S) {A L : Nat → List Nat} {N : Nat → Int32} {B : Nat → List Int32} {T R : Nat → List (List Int32)} (hR : cR Λ S G D A L N B T R) (hW : wf N B T R) (f x : Int32) : cCt Λ mX11_again 0 0 S [.ref (S 0), .int f, .int x] G D (cP Λ S (opAgain N B T R f x)) := by
  refine cCt.of hS pn_X11 [some (.ref (S 0)), some (.int f), some (.int x)] rfl (Nat.le_of_ble_eq_true rfl) fun X => ?_
  obtain ⟨p_a, p_b, p_n, p_k, p_f, p_h, p_w, p_c, p_r, p_q, p_o, p_m, p_t, p_d⟩ := hR
  obtain ⟨w_a, w_n, w_w, w_c, w_r, w_x, w_q, w_k, w_f, w_t, w_m, w_l⟩ := hW
  have p_a9 := p_a; obtain ⟨ft, a1, a2, a3, a4, a5, a6⟩ := p_a9
  have p_b9 := p_b; obtain ⟨fo9, b1, b2, b3, b4, b5, b6⟩ := p_b9
  refine C.iload_n dX11_again_0 rfl ?_
  refine C.if_lt (tgt := 32) dX11_again_1 (by decide) (fun c_1 => ?_) (fun c_1 => ?_)
  · skip
    refine C.iconst (v := (-1)) dX11_again_32 (by decide) ?_
    refine C.iret dX11_again_33 rfl ?_
    rw [opAgain, if_pos (by first | exact Or.inl c_1 | exact Or.inr (Or.inl c_5) | exact Or.inr (Or.inr (Or.inl hgt)) | exact Or.inr (Or.inr (Or.inr hgt2)) | exact Or.inr (Or.inr (Or.inl (by omega))))]
    exact ⟨rfl, A, L, p_a, p_b, p_n, p_k, p_f, p_h, p_w, p_c, p_r, p_q, p_o, p_m, p_t, p_d⟩
  · skip
    have hf0 : ¬ f < 0 := c_1
    refine C.iload_n dX11_again_4 rfl ?_
    refine C.if_lt (tgt := 32) dX11_again_5 (by decide) (fun c_5 => ?_) (fun c_5 => ?_)
    · skip
      refine C.iconst (v := (-1)) dX11_again_32 (by decide) ?_
      refine C.iret dX11_again_33 rfl ?_
      rw [opAgain, if_pos (by first | exact Or.inl c_1 | exact Or.inr (Or.inl c_5) | exact Or.inr (Or.inr (Or.inl hgt)) | exact Or.inr (Or.inr (Or.inr hgt2)) | exact Or.inr (Or.inr (Or.inl (by omega))))]
      exact ⟨rfl, A, L, p_a, p_b, p_n, p_k, p_f, p_h, p_w, p_c, p_r, p_q, p_o, p_m, p_t, p_d⟩
    · skip
      have hx0 : ¬ x < 0 := c_5
      have hcf : f.toNatClampNeg < 2 ^ 31 := by obtain ⟨j, hj, e⟩ := nI_of hf0; rw [e, nI_clamp hj]; exact hj
      have hcx : x.toNatClampNeg < 2 ^ 31 := by obtain ⟨j, hj, e⟩ := nI_of hx0; rw [e, nI_clamp hj]; exact hj
      refine C.iload_n dX11_again_8 rfl ?_
      refine C.aload_nR dX11_again_9 rfl ?_
      refine C.getS (k9 := 0) (fs := [.ref (S 1), .ref (S 2), .ref (S 3), .ref (S 4), .ref (S 5), .ref (S 6), .ref (S 7), .ref (S 8), .ref (S 9), .ref (S 10), .ref (S 11), .ref (S 12), .int (N 26), .int (N 27), .int (N 28), .int (N 25), .int (N 5), .int (N 6)]) dX11_again_10 fl_X11_18 rfl p_n rfl ?_
      refine C.callVS0 (k9 := 2) [] dX11_again_13 mdX9_size imX9_size seX9_size kc_10 rfl b1 lk_X11_86 rfl rfl rfl rfl (cCt.w0 (R := fun r => r = some (.int (nI (B 1).length))) fun σ9 h9 => v_size ((show tO S G 2 14 6200 (B 1) from p_b).s.tx h9 rfl rfl)) ?_
      rintro _ G9 D9 ⟨rfl, e9, e8⟩
      have e9 := e9.symm; subst e9; have e8 := e8.symm; subst e8
      refine C.icmp_gt (tgt := 32) dX11_again_16 (by decide) (fun c_16 => ?_) (fun c_16 => ?_)
      · skip
        have hbig : (B 1).length < x.toNatClampNeg := by have h9 := c_16; rw [oix_eq hx0] at h9; exact (nI_ltI (by omega) hcx).mp h9
        refine C.iconst (v := (-1)) dX11_again_32 (by decide) ?_
        refine C.iret dX11_again_33 rfl ?_
        rw [opAgain, if_pos (by first | exact Or.inl c_1 | exact Or.inr (Or.inl c_5) | exact Or.inr (Or.inr (Or.inl hgt)) | exact Or.inr (Or.inr (Or.inr hgt2)) | exact Or.inr (Or.inr (Or.inl (by omega))))]
        exact ⟨rfl, A, L, p_a, p_b, p_n, p_k, p_f, p_h, p_w, p_c, p_r, p_q, p_o, p_m, p_t, p_d⟩
      · skip
        have hsm : x.toNatClampNeg ≤ (B 1).length := Nat.le_of_not_lt fun q => c_16 (by rw [oix_eq hx0]; exact (nI_ltI (by omega) hcx).mpr q)
        refine C.iload_n dX11_again_19 rfl ?_
        refine C.aload_nR dX11_again_20 rfl ?_
        refine C.getS (k9 := 0) (fs := [.ref (S 1), .ref (S 2), .ref (S 3), .ref (S 4), .ref (S 5), .ref (S 6), .ref (S 7), .ref (S 8), .ref (S 9), .ref (S 10), .ref (S 11), .ref (S 12), .int (N 26), .int (N 27), .int (N 28), .int (N 25), .int (N 5), .int (N 6)]) dX11_again_21 fl_X11_18 rfl p_n rfl ?_
        refine C.callVS0 (k9 := 2) [] dX11_again_24 mdX9_size imX9_size seX9_size kc_10 rfl b1 lk_X11_86 rfl rfl rfl rfl (cCt.w0 (R := fun r => r = some (.int (nI (B 1).length))) fun σ9 h9 => v_size ((show tO S G 2 14 6200 (B 1) from p_b).s.tx h9 rfl rfl)) ?_
        rintro _ G9 D9 ⟨rfl, e9, e8⟩
        have e9 := e9.symm; subst e9; have e8 := e8.symm; subst e8
        refine C.iload_n dX11_again_27 rfl ?_
        refine C.isub dX11_again_28 ?_
        rw [show (nI (B 1).length) - x = nI ((B 1).length - x.toNatClampNeg) from (by have h9 := pk_sub (a := (B 1).length) (b := x.toNatClampNeg) hsm; rwa [← oix_eq hx0] at h9)]
        refine C.icmp_le (tgt := 34) dX11_again_29 (by decide) (fun c_29 => ?_) (fun c_29 => ?_)
        · skip
          have hle : f.toNatClampNeg + x.toNatClampNeg ≤ (B 1).length := by have h9 := c_29; rw [oix_eq hf0] at h9; have := (nI_leI hcf (by omega)).mp h9; omega
          refine C.iload_n dX11_again_34 rfl ?_
          refine C.sipush (v := 2000) dX11_again_35 (by decide) ?_
          refine C.aload_nR dX11_again_38 rfl ?_
          refine C.getS (k9 := 0) (fs := [.ref (S 1), .ref (S 2), .ref (S 3), .ref (S 4), .ref (S 5), .ref (S 6), .ref (S 7), .ref (S 8), .ref (S 9), .ref (S 10), .ref (S 11), .ref (S 12), .int (N 26), .int (N 27), .int (N 28), .int (N 25), .int (N 5), .int (N 6)]) dX11_again_39 fl_X11_14 rfl p_n rfl ?_
          refine C.callVS0 (k9 := 1) [] dX11_again_42 mdX9_size imX9_size seX9_size kc_10 rfl a1 lk_X11_86 rfl rfl rfl rfl (cCt.w0 (R := fun r => r = some (.int (nI (B 0).length))) fun σ9 h9 => v_size ((show tO S G 1 13 2000 (B 0) from p_a).s.tx h9 rfl rfl)) ?_
          rintro _ G9 D9 ⟨rfl, e9, e8⟩
          have e9 := e9.symm; subst e9; have e8 := e8.symm; subst e8
          refine C.isub dX11_again_45 ?_
          rw [show 2000 - (nI (B 0).length) = nI (2000 - (B 0).length) from pk_sub (a := 2000) (by omega)]
          refine C.icmp_le (tgt := 51) dX11_again_46 (by decide) (fun c_46 => ?_) (fun c_46 => ?_)
          · skip
            have hle2 : (B 0).length + x.toNatClampNeg ≤ 2000 := by have h9 := c_46; rw [oix_eq hx0] at h9; have := (nI_leI hcx (by omega)).mp h9; omega
            refine C.aload_nR dX11_again_51 rfl ?_
            refine C.getS (k9 := 0) (fs := [.ref (S 1), .ref (S 2), .ref (S 3), .ref (S 4), .ref (S 5), .ref (S 6), .ref (S 7), .ref (S 8), .ref (S 9), .ref (S 10), .ref (S 11), .ref (S 12), .int (N 26), .int (N 27), .int (N 28), .int (N 25), .int (N 5), .int (N 6)]) dX11_again_52 fl_X11_14 rfl p_n rfl ?_
            refine C.aload_nR dX11_again_55 rfl ?_
            refine C.getS (k9 := 0) (fs := [.ref (S 1), .ref (S 2), .ref (S 3), .ref (S 4), .ref (S 5), .ref (S 6), .ref (S 7), .ref (S 8), .ref (S 9), .ref (S 10), .ref (S 11), .ref (S 12), .int (N 26), .int (N 27), .int (N 28), .int (N 25), .int (N 5), .int (N 6)]) dX11_again_56 fl_X11_18 rfl p_n rfl ?_
            refine C.iload_n dX11_again_59 rfl ?_
            refine C.iload_n dX11_again_60 rfl ?_
            have ef := oix_eq hf0; have ex := oix_eq hx0
            have hct := o_addPart (Λ := Λ) (D := D) hS (show tO S G 1 13 2000 (B 0) from p_a) rfl rfl ((show tS S G 2 14 6200 (B 1) from p_b.s).u hS rfl rfl (by decide) (by decide) (by decide) (by decide)) (g := f.toNatClampNeg) (m := x.toNatClampNeg) (by omega) (by omega) b6
            rw [← ef, ← ex] at hct
            refine C.callVS0 (k9 := 1) [.ref (S 2), .int f, .int x] dX11_again_61 mdX9_addPart imX9_addPart seX9_addPart kc_10 rfl a1 lk_X11_97 rfl rfl rfl rfl hct ?_
            rintro _ _ D9 ⟨f9_1, h_f9_1, b_f9_1, rfl, rfl, e8⟩; have e8 := e8.symm; subst e8
            refine C.aload_nR dX11_again_64 rfl ?_
            refine C.getS (k9 := 0) (fs := [.ref (S 1), .ref (S 2), .ref (S 3), .ref (S 4), .ref (S 5), .ref (S 6), .ref (S 7), .ref (S 8), .ref (S 9), .ref (S 10), .ref (S 11), .ref (S 12), .int (N 26), .int (N 27), .int (N 28), .int (N 25), .int (N 5), .int (N 6)]) dX11_again_65 fl_X11_14 rfl p_n rfl ?_
            refine C.callVS0 (k9 := 1) [] dX11_again_68 mdX9_size imX9_size seX9_size kc_10 rfl rfl lk_X11_86 rfl rfl rfl rfl (cCt.w0 (R := fun r => r = some (.int (nI ((B 0) ++ ((B 1).drop f.toNatClampNeg).take x.toNatClampNeg).length))) fun σ9 h9 => v_size ((show tO S (gW S G 1 13 2000 f9_1 ((B 0) ++ ((B 1).drop f.toNatClampNeg).take x.toNatClampNeg).length) 1 13 2000 ((B 0) ++ ((B 1).drop f.toNatClampNeg).take x.toNatClampNeg) from (tO.gW (by decide) (by rw [List.length_append, dt_len hle]; omega) (by decide) h_f9_1 b_f9_1)).s.tx h9 rfl rfl)) ?_
            rintro _ G9 D9 ⟨rfl, e9, e8⟩
            have e9 := e9.symm; subst e9; have e8 := e8.symm; subst e8
            refine C.iret dX11_again_71 rfl ?_
            rw [opAgain, if_neg (fun q => q.elim hf0 (fun q => q.elim hx0 (fun q => q.elim (fun z => by omega) (fun z => by omega))))]
            refine ⟨congrArg (fun z => some (Value.int z)) (by rw [List.length_append, dt_len hle]), A, L, (tO.gW (by decide) (by rw [List.length_append, dt_len hle]; omega) (by decide) h_f9_1 b_f9_1), p_b, p_n, p_k, p_f, p_h, p_w, p_c, p_r, p_q, p_o, p_m, p_t, p_d⟩
          · skip
            have hgt2 : 2000 < (B 0).length + x.toNatClampNeg := Nat.lt_of_not_le fun q => c_46 (by rw [oix_eq hx0]; exact (nI_leI hcx (by omega)).mpr (by omega))
            refine C.iconst (v := (-1)) dX11_again_49 (by decide) ?_
            refine C.iret dX11_again_50 rfl ?_
            rw [opAgain, if_pos (by first | exact Or.inl c_1 | exact Or.inr (Or.inl c_5) | exact Or.inr (Or.inr (Or.inl hgt)) | exact Or.inr (Or.inr (Or.inr hgt2)) | exact Or.inr (Or.inr (Or.inl (by omega))))]
            exact ⟨rfl, A, L, p_a, p_b, p_n, p_k, p_f, p_h, p_w, p_c, p_r, p_q, p_o, p_m, p_t, p_d⟩
        · skip
          have hgt : (B 1).length < f.toNatClampNeg + x.toNatClampNeg := Nat.lt_of_not_le fun q => c_29 (by rw [oix_eq hf0]; exact (nI_leI hcf (by omega)).mpr (by omega))
          refine C.iconst (v := (-1)) dX11_again_32 (by decide) ?_
          refine C.iret dX11_again_33 rfl ?_
          rw [opAgain, if_pos (by first | exact Or.inl c_1 | exact Or.inr (Or.inl c_5) | exact Or.inr (Or.inr (Or.inl hgt)) | exact Or.inr (Or.inr (Or.inr hgt2)) | exact Or.inr (Or.inr (Or.inl (by omega))))]
          exact ⟨rfl, A, L, p_a, p_b, p_n, p_k, p_f, p_h, p_w, p_c, p_r, p_q, p_o, p_m, p_t, p_d⟩
