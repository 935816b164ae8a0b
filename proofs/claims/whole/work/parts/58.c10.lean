/-! the class: giveTokens, turn -/
theorem k_giveT {Λ : kL} {S : Nat → Nat} {G : Nat → kc} {D : kh} (hS : cInj S) {A L : Nat → List Nat} {N : Nat → Int32} {B : Nat → List Int32} {T R : Nat → List (List Int32)} (hR : cR Λ S G D A L N B T R) (hSt : kSt Λ) (hJ : kJd Λ) (hw : wfw (T 2)) (hn : wfn N) (hx60 : (T 20).length ≤ 60) (hu : (T 21).length + 2 ≤ 800) (hM : (T 22).length = (T 21).length) (he3 : (T 29).length ≤ 300) (hg3 : (T 30).length ≤ 300) {f : Nat} (hf2 : f < 2 ^ 31) (x : Int32) {d : List Int32} {W1 : List (List Int32)} (htk : tk1 (T 21) (T 20) = some (d, W1)) {e : List Int32} {W2 : List (List Int32)} (htk2 : tk1 (T 21 ++ [d]) W1 = some (e, W2)) : cCt Λ mX11_giveTokens 6 4700 S [.ref (S 0), .ref ((A 10).getD f 0), .int x, .int 1] G D (cP Λ S (opCom N B T R f x [d, e] W2 true)) := by
  refine cCt.of hS pn_X11 [some (.ref (S 0)), some (.ref ((A 10).getD f 0)), some (.int x), some (.int 1)] rfl (Nat.le_of_ble_eq_true rfl) fun X => ?_
  obtain ⟨p_a, p_b, p_n, p_k, p_f, p_h, p_w, p_c, p_r, p_q, p_o, p_m, p_t, p_d⟩ := hR
  have p_b9 := p_b; obtain ⟨fo9, b1, b2, b3, b4, b5, b6⟩ := p_b9
  obtain ⟨a, ha1, ha2, ha⟩ := hn
  have hcd := cdl_len a 7
  have hsl : (scw (T 2) x (T 2).length).length ≤ 13 * (T 2).length := scw_len (fun k hk => (hw.2.2 k hk).2.1) x _ (Nat.le_refl _)
  have hw8 := hw.1
  have hr11 := rv_len (A 11); have hl11 := p_t.2.2.1; have hr12 := rv_len (A 12); have hl12 := p_t.2.2.2.1
  have l_oa : sb_openAccess.length = 17 := rfl
  have l_be : sb_bearer.length = 37 := rfl
  have l_ar : sb_andRefresh.length = 18 := rfl
  have l_as : sb_andScope.length = 10 := rfl
  have l_cl : sb_close.length = 2 := rfl
  refine C.aload_nR dX11_giveTokens_0 rfl ?_
  refine C.sipush (v := 200) dX11_giveTokens_1 (by decide) ?_
  refine C.iconst (v := 0) dX11_giveTokens_4 (by decide) ?_
  refine C.callVS0 (k9 := 0) [.int 200, .int 0] dX11_giveTokens_5 mdX11_answer imX11_answer seX11_answer kc_12 rfl p_n lk_X11_240 rfl rfl rfl rfl (k_answer hS (N := N) (show G 0 = oGs S N from p_n) (show tO S G 2 14 6200 (B 1) from p_b) 200 0) ?_
  rintro _ _ D9 ⟨rfl, rfl, e8⟩; have e8 := e8.symm; subst e8
  refine C.pop dX11_giveTokens_8 rfl ?_
  refine C.aload_nR dX11_giveTokens_9 rfl ?_
  refine C.getS (k9 := 0) (fs := [.ref (S 1), .ref (S 2), .ref (S 3), .ref (S 4), .ref (S 5), .ref (S 6), .ref (S 7), .ref (S 8), .ref (S 9), .ref (S 10), .ref (S 11), .ref (S 12), .int (N 26), .int (N 27), .int (N 28), .int (N 25), .int 200, .int 0]) dX11_giveTokens_10 fl_X11_18 rfl rfl rfl ?_
  refine C.ldcwS dX11_giveTokens_13 sr_X11_505 ?_
  refine C.callVS0 (k9 := 2) [.ref (kSa Λ RX11 505)] dX11_giveTokens_16 mdX9_addWord imX9_addWord seX9_addWord kc_10 rfl rfl lk_X11_443 rfl rfl rfl rfl (o_addWord hS (show tO S (gA S G N 200 0) 2 14 6200 [] from ⟨fo9, rfl, b2, Nat.zero_le _, by decide, rfl, bts_nil⟩) rfl rfl (st_X11_505 hSt) sb_openAccess_b (by simp only [List.length_append, List.length_cons, List.length_nil, b64_len, l_oa, l_be, l_ar, l_as, l_cl]; omega)) ?_
  rintro _ _ D9 ⟨f9_1, h_f9_1, b_f9_1, rfl, rfl, e8⟩; have e8 := e8.symm; subst e8
  rw [List.nil_append] at h_f9_1 b_f9_1 ⊢
  refine C.aload_nR dX11_giveTokens_19 rfl ?_
  refine C.getS (k9 := 0) (fs := [.ref (S 1), .ref (S 2), .ref (S 3), .ref (S 4), .ref (S 5), .ref (S 6), .ref (S 7), .ref (S 8), .ref (S 9), .ref (S 10), .ref (S 11), .ref (S 12), .int (N 26), .int (N 27), .int (N 28), .int (N 25), .int 200, .int 0]) dX11_giveTokens_20 fl_X11_31 rfl rfl rfl ?_
  refine C.iconst (v := 1) dX11_giveTokens_23 (by decide) ?_
  refine C.aload_nR dX11_giveTokens_24 rfl ?_
  refine C.getS (k9 := 0) (fs := [.ref (S 1), .ref (S 2), .ref (S 3), .ref (S 4), .ref (S 5), .ref (S 6), .ref (S 7), .ref (S 8), .ref (S 9), .ref (S 10), .ref (S 11), .ref (S 12), .int (N 26), .int (N 27), .int (N 28), .int (N 25), .int 200, .int 0]) dX11_giveTokens_25 fl_X11_61 rfl rfl rfl ?_
  refine C.callLS0 (k9 := 11) [] dX11_giveTokens_28 mdJx4a65c_size_8abf5 imJx4a65c_size_8abf5 seJx4a65c_size_8abf5 rfl p_t.1 lk_X11_123 rfl rfl rfl rfl (cCt.w0 (R := fun r => r = some (.int (nI (rv (A 11)).length))) fun σ9 h9 => c_list_size (h9.at (k := 11) rfl p_t.1)) ?_
  rintro _ G9 D9 ⟨rfl, e9, e8⟩
  have e9 := e9.symm; subst e9; have e8 := e8.symm; subst e8
  refine C.aload_nR dX11_giveTokens_31 rfl ?_
  refine C.getS (k9 := 0) (fs := [.ref (S 1), .ref (S 2), .ref (S 3), .ref (S 4), .ref (S 5), .ref (S 6), .ref (S 7), .ref (S 8), .ref (S 9), .ref (S 10), .ref (S 11), .ref (S 12), .int (N 26), .int (N 27), .int (N 28), .int (N 25), .int 200, .int 0]) dX11_giveTokens_32 fl_X11_18 rfl rfl rfl ?_
  rw [rv_len (A 11), p_t.2.2.1]
  refine C.less (bc' := 5 + 1) (bs' := 3000 + 1700) (by omega) (by omega) ?_
  refine C.callVS (k9 := 4) [.int 1, .int (nI (T 29).length), .ref (S 2)] dX11_giveTokens_35 mdX6_make imX6_make seX6_make kc_7 rfl p_k.2.1 lk_X11_455 rfl rfl rfl rfl (k_make hS hJ (G := (gW S (gA S G N 200 0) 2 14 6200 f9_1 sb_openAccess.length)) (lm := (A 46)) p_k.2.1 p_d.1 p_d.2.1 p_d.2.2 hM hx60 (by first | omega | (simp only [List.length_append, List.length_singleton]; omega)) htk (show tO S (gW S (gA S G N 200 0) 2 14 6200 f9_1 sb_openAccess.length) 2 14 6200 sb_openAccess from (tO.gW (by decide) (by simp only [List.length_append, List.length_cons, List.length_nil, b64_len, l_oa, l_be, l_ar, l_as, l_cl]; omega) (by decide) h_f9_1 b_f9_1)) (by simp only [List.length_append, List.length_cons, List.length_nil, b64_len, l_oa, l_be, l_ar, l_as, l_cl]; omega) 1 _) ?_
  rintro _ _ Dm_2 ⟨rfl, ym_2, lwm_2, fm_2, h_fm_2, b_fm_2, rfl, dkm_2, hHm_2⟩
  refine C.aload_nR dX11_giveTokens_38 rfl ?_
  refine C.getS (k9 := 0) (fs := [.ref (S 1), .ref (S 2), .ref (S 3), .ref (S 4), .ref (S 5), .ref (S 6), .ref (S 7), .ref (S 8), .ref (S 9), .ref (S 10), .ref (S 11), .ref (S 12), .int (N 26), .int (N 27), .int (N 28), .int (N 25), .int 200, .int 0]) dX11_giveTokens_39 fl_X11_61 rfl rfl rfl ?_
  refine C.less (bc' := 4 + 1) (bs' := 2996 + 4) (by omega) (by omega) ?_
  refine C.new dX11_giveTokens_42 nw_X11_318 (fun q_3 hb_4 hl_5 => ?_)
  have h_6 : (kup Dm_2 q_3 (.inr (11, [.null, .int 0, .int 0, .int 0]))) q_3 = some (.inr (11, [.null, .int 0, .int 0, .int 0])) := kup_s _ _ _
  refine C.dup dX11_giveTokens_45 rfl ?_
  refine C.aload_nR dX11_giveTokens_46 rfl ?_
  refine C.iload_n dX11_giveTokens_47 rfl ?_
  refine C.aload_nR dX11_giveTokens_48 rfl ?_
  refine C.getS (k9 := 0) (fs := [.ref (S 1), .ref (S 2), .ref (S 3), .ref (S 4), .ref (S 5), .ref (S 6), .ref (S 7), .ref (S 8), .ref (S 9), .ref (S 10), .ref (S 11), .ref (S 12), .int (N 26), .int (N 27), .int (N 28), .int (N 25), .int 200, .int 0]) dX11_giveTokens_49 fl_X11_77 rfl rfl rfl ?_
  refine C.aload_nR dX11_giveTokens_52 rfl ?_
  refine C.getS (k9 := 0) (fs := [.ref (S 1), .ref (S 2), .ref (S 3), .ref (S 4), .ref (S 5), .ref (S 6), .ref (S 7), .ref (S 8), .ref (S 9), .ref (S 10), .ref (S 11), .ref (S 12), .int (N 26), .int (N 27), .int (N 28), .int (N 25), .int 200, .int 0]) dX11_giveTokens_53 fl_X11_71 rfl rfl rfl ?_
  refine C.iadd dX11_giveTokens_56 ?_
  refine C.callI0 [.ref ((A 10).getD f 0), .int x, .int ((N 25) + (N 27))] dX11_giveTokens_57 mdX10_init ⟨rfl, rfl⟩ imX10_init lk_X11_507 rfl rfl rfl rfl (cCt.d1 (R := fun r => r = none) h_6 fun σ9 h9 => c_Token_init _ _ _ (h9.2.1 _ _ h_6)) ?_
  rintro _ G9 _ ⟨rfl, e9, rfl⟩; have e9 := e9.symm; subst e9
  have h_7 : (kup (kup Dm_2 q_3 (.inr (11, [.null, .int 0, .int 0, .int 0]))) q_3 (.inr (11, [.ref ((A 10).getD f 0), .int x, .int ((N 25) + (N 27)), .int (bI false)]))) q_3 = some (.inr (11, [.ref ((A 10).getD f 0), .int x, .int ((N 25) + (N 27)), .int (bI false)])) := kup_s _ _ _
  have dmq_3 : dm Dm_2 (kup (kup Dm_2 q_3 (.inr (11, [.null, .int 0, .int 0, .int 0]))) q_3 (.inr (11, [.ref ((A 10).getD f 0), .int x, .int ((N 25) + (N 27)), .int (bI false)]))) := fun a c ha => kup_i (Nat.ne_of_lt (hl_5 _ _ ha)) (kup_i (Nat.ne_of_lt (hl_5 _ _ ha)) ha)
  refine C.less (bc' := 3 + 1) (bs' := (2996 - (2 * (rv (A 11)).length + 10)) + (2 * (rv (A 11)).length + 10)) (by omega) (by omega) ?_
  refine C.callLS (k9 := 11) [.ref q_3] dX11_giveTokens_60 mdJx4a65c_add_9ea2d imJx4a65c_add_9ea2d seJx4a65c_add_9ea2d rfl p_t.1 lk_X11_129 rfl rfl rfl rfl (cCt.w1 (R := fun r => r = some (.int 1)) (i := 11) hS (by decide) fun σ9 h9 => c_list_add (h9.at (k := 11) rfl p_t.1) kc_11 ca_11 hJ (((cTo_elE (p_t.2.2.dk dkm_2 (by decide))).mono dmq_3).mono h9.2.1) (h9.2.1 _ _ h_7) (by rw [rv_len]; omega)) ?_
  rintro _ _ D9 ⟨rfl, rfl, e8⟩
  have e8 := e8.symm; subst e8
  refine C.pop dX11_giveTokens_63 rfl ?_
  refine C.aload_nR dX11_giveTokens_64 rfl ?_
  refine C.getS (k9 := 0) (fs := [.ref (S 1), .ref (S 2), .ref (S 3), .ref (S 4), .ref (S 5), .ref (S 6), .ref (S 7), .ref (S 8), .ref (S 9), .ref (S 10), .ref (S 11), .ref (S 12), .int (N 26), .int (N 27), .int (N 28), .int (N 25), .int 200, .int 0]) dX11_giveTokens_65 fl_X11_18 rfl rfl rfl ?_
  refine C.ldcwS dX11_giveTokens_68 sr_X11_510 ?_
  refine C.callVS0 (k9 := 2) [.ref (kSa Λ RX11 510)] dX11_giveTokens_71 mdX9_addWord imX9_addWord seX9_addWord kc_10 rfl rfl lk_X11_443 rfl rfl rfl rfl (o_addWord hS (show tO S (updG (gW S (updG (updG (gW S (gA S G N 200 0) 2 14 6200 f9_1 sb_openAccess.length) 45 (kLi (rv lwm_2))) 46 (kLi (rv ((A 46) ++ [ym_2])))) 2 14 6200 fm_2 (sb_openAccess ++ b64 d 22).length) 11 (kLi ((rv (A 11)) ++ [Value.ref q_3]))) 2 14 6200 (sb_openAccess ++ b64 d 22) from (show tO S (gW S (updG (updG (gW S (gA S G N 200 0) 2 14 6200 f9_1 sb_openAccess.length) 45 (kLi (rv lwm_2))) 46 (kLi (rv ((A 46) ++ [ym_2])))) 2 14 6200 fm_2 (sb_openAccess ++ b64 d 22).length) 2 14 6200 (sb_openAccess ++ b64 d 22) from (tO.gW (by decide) (by simp only [List.length_append, List.length_cons, List.length_nil, b64_len, l_oa, l_be, l_ar, l_as, l_cl]; omega) (by decide) h_fm_2 b_fm_2))) rfl rfl (st_X11_510 hSt) sb_bearer_b (by simp only [List.length_append, List.length_cons, List.length_nil, b64_len, l_oa, l_be, l_ar, l_as, l_cl]; omega)) ?_
  rintro _ _ D9 ⟨f9_8, h_f9_8, b_f9_8, rfl, rfl, e8⟩; have e8 := e8.symm; subst e8
  refine C.aload_nR dX11_giveTokens_74 rfl ?_
  refine C.getS (k9 := 0) (fs := [.ref (S 1), .ref (S 2), .ref (S 3), .ref (S 4), .ref (S 5), .ref (S 6), .ref (S 7), .ref (S 8), .ref (S 9), .ref (S 10), .ref (S 11), .ref (S 12), .int (N 26), .int (N 27), .int (N 28), .int (N 25), .int 200, .int 0]) dX11_giveTokens_75 fl_X11_18 rfl rfl rfl ?_
  refine C.aload_nR dX11_giveTokens_78 rfl ?_
  refine C.getS (k9 := 0) (fs := [.ref (S 1), .ref (S 2), .ref (S 3), .ref (S 4), .ref (S 5), .ref (S 6), .ref (S 7), .ref (S 8), .ref (S 9), .ref (S 10), .ref (S 11), .ref (S 12), .int (N 26), .int (N 27), .int (N 28), .int (N 25), .int 200, .int 0]) dX11_giveTokens_79 fl_X11_71 rfl rfl rfl ?_
  have hct := o_addNumber (Λ := Λ) (D := (kup (kup Dm_2 q_3 (.inr (11, [.null, .int 0, .int 0, .int 0]))) q_3 (.inr (11, [.ref ((A 10).getD f 0), .int x, .int ((N 25) + (N 27)), .int (bI false)])))) hS (show tO S (gW S (updG (gW S (updG (updG (gW S (gA S G N 200 0) 2 14 6200 f9_1 sb_openAccess.length) 45 (kLi (rv lwm_2))) 46 (kLi (rv ((A 46) ++ [ym_2])))) 2 14 6200 fm_2 (sb_openAccess ++ b64 d 22).length) 11 (kLi ((rv (A 11)) ++ [Value.ref q_3]))) 2 14 6200 f9_8 ((sb_openAccess ++ b64 d 22) ++ sb_bearer).length) 2 14 6200 ((sb_openAccess ++ b64 d 22) ++ sb_bearer) from (tO.gW (by decide) (by simp only [List.length_append, List.length_cons, List.length_nil, b64_len, l_oa, l_be, l_ar, l_as, l_cl]; omega) (by decide) h_f9_8 b_f9_8)) rfl rfl ha2 (by simp only [List.length_append, List.length_cons, List.length_nil, b64_len, l_oa, l_be, l_ar, l_as, l_cl]; omega)
  rw [← ha] at hct
  refine C.callVS0 (k9 := 2) [.int (N 27)] dX11_giveTokens_82 mdX9_addNumber imX9_addNumber seX9_addNumber kc_10 rfl rfl lk_X11_512 rfl rfl rfl rfl hct ?_
  rintro _ _ D9 ⟨f9_9, h_f9_9, b_f9_9, rfl, rfl, e8⟩; have e8 := e8.symm; subst e8
  rw [gW_gW _ _ _ _ _ _ _ (by decide)]
  refine C.iload_n dX11_giveTokens_85 rfl ?_
  refine C.if_eq (tgt := 153) dX11_giveTokens_86 (by decide) (fun c_86 => absurd c_86 (by decide)) (fun c_86 => ?_)
  refine C.aload_nR dX11_giveTokens_89 rfl ?_
  refine C.getS (k9 := 0) (fs := [.ref (S 1), .ref (S 2), .ref (S 3), .ref (S 4), .ref (S 5), .ref (S 6), .ref (S 7), .ref (S 8), .ref (S 9), .ref (S 10), .ref (S 11), .ref (S 12), .int (N 26), .int (N 27), .int (N 28), .int (N 25), .int 200, .int 0]) dX11_giveTokens_90 fl_X11_18 rfl rfl rfl ?_
  refine C.ldcwS dX11_giveTokens_93 sr_X11_515 ?_
  refine C.callVS0 (k9 := 2) [.ref (kSa Λ RX11 515)] dX11_giveTokens_96 mdX9_addWord imX9_addWord seX9_addWord kc_10 rfl rfl lk_X11_443 rfl rfl rfl rfl (o_addWord hS (show tO S (gW S (updG (gW S (updG (updG (gW S (gA S G N 200 0) 2 14 6200 f9_1 sb_openAccess.length) 45 (kLi (rv lwm_2))) 46 (kLi (rv ((A 46) ++ [ym_2])))) 2 14 6200 fm_2 (sb_openAccess ++ b64 d 22).length) 11 (kLi ((rv (A 11)) ++ [Value.ref q_3]))) 2 14 6200 f9_9 (((sb_openAccess ++ b64 d 22) ++ sb_bearer) ++ cdl a 7).length) 2 14 6200 (((sb_openAccess ++ b64 d 22) ++ sb_bearer) ++ cdl a 7) from (tO.gW (by decide) (by simp only [List.length_append, List.length_cons, List.length_nil, b64_len, l_oa, l_be, l_ar, l_as, l_cl]; omega) (by decide) h_f9_9 b_f9_9)) rfl rfl (st_X11_515 hSt) sb_andRefresh_b (by simp only [List.length_append, List.length_cons, List.length_nil, b64_len, l_oa, l_be, l_ar, l_as, l_cl]; omega)) ?_
  rintro _ _ D9 ⟨f9_10, h_f9_10, b_f9_10, rfl, rfl, e8⟩; have e8 := e8.symm; subst e8
  rw [gW_gW _ _ _ _ _ _ _ (by decide)]
  refine C.aload_nR dX11_giveTokens_99 rfl ?_
  refine C.getS (k9 := 0) (fs := [.ref (S 1), .ref (S 2), .ref (S 3), .ref (S 4), .ref (S 5), .ref (S 6), .ref (S 7), .ref (S 8), .ref (S 9), .ref (S 10), .ref (S 11), .ref (S 12), .int (N 26), .int (N 27), .int (N 28), .int (N 25), .int 200, .int 0]) dX11_giveTokens_100 fl_X11_31 rfl rfl rfl ?_
  refine C.iconst (v := 2) dX11_giveTokens_103 (by decide) ?_
  refine C.aload_nR dX11_giveTokens_104 rfl ?_
  refine C.getS (k9 := 0) (fs := [.ref (S 1), .ref (S 2), .ref (S 3), .ref (S 4), .ref (S 5), .ref (S 6), .ref (S 7), .ref (S 8), .ref (S 9), .ref (S 10), .ref (S 11), .ref (S 12), .int (N 26), .int (N 27), .int (N 28), .int (N 25), .int 200, .int 0]) dX11_giveTokens_105 fl_X11_64 rfl rfl rfl ?_
  refine C.callLS0 (k9 := 12) [] dX11_giveTokens_108 mdJx4a65c_size_8abf5 imJx4a65c_size_8abf5 seJx4a65c_size_8abf5 rfl p_t.2.1 lk_X11_123 rfl rfl rfl rfl (cCt.w0 (R := fun r => r = some (.int (nI (rv (A 12)).length))) fun σ9 h9 => c_list_size (h9.at (k := 12) rfl p_t.2.1)) ?_
  rintro _ G9 D9 ⟨rfl, e9, e8⟩
  have e9 := e9.symm; subst e9; have e8 := e8.symm; subst e8
  refine C.aload_nR dX11_giveTokens_111 rfl ?_
  refine C.getS (k9 := 0) (fs := [.ref (S 1), .ref (S 2), .ref (S 3), .ref (S 4), .ref (S 5), .ref (S 6), .ref (S 7), .ref (S 8), .ref (S 9), .ref (S 10), .ref (S 11), .ref (S 12), .int (N 26), .int (N 27), .int (N 28), .int (N 25), .int 200, .int 0]) dX11_giveTokens_112 fl_X11_18 rfl rfl rfl ?_
  rw [rv_len (A 12), p_t.2.2.2.1]
  refine C.less (bc' := 2 + 1) (bs' := ((2996 - (2 * (rv (A 11)).length + 10)) - 1700) + 1700) (by omega) (by omega) ?_
  refine C.callVS (k9 := 4) [.int 2, .int (nI (T 30).length), .ref (S 2)] dX11_giveTokens_115 mdX6_make imX6_make seX6_make kc_7 rfl p_k.2.1 lk_X11_455 rfl rfl rfl rfl (k_make hS hJ (G := (gW S (updG (gW S (updG (updG (gW S (gA S G N 200 0) 2 14 6200 f9_1 sb_openAccess.length) 45 (kLi (rv lwm_2))) 46 (kLi (rv ((A 46) ++ [ym_2])))) 2 14 6200 fm_2 (sb_openAccess ++ b64 d 22).length) 11 (kLi ((rv (A 11)) ++ [Value.ref q_3]))) 2 14 6200 f9_10 ((((sb_openAccess ++ b64 d 22) ++ sb_bearer) ++ cdl a 7) ++ sb_andRefresh).length)) (lm := ((A 46) ++ [ym_2])) p_k.2.1 rfl rfl (hHm_2.mono dmq_3) (by rw [List.length_append, List.length_append, hM]; rfl) (by have := (tk1_mem htk).2.2.1; omega) (by first | omega | (simp only [List.length_append, List.length_singleton]; omega)) htk2 (show tO S (gW S (updG (gW S (updG (updG (gW S (gA S G N 200 0) 2 14 6200 f9_1 sb_openAccess.length) 45 (kLi (rv lwm_2))) 46 (kLi (rv ((A 46) ++ [ym_2])))) 2 14 6200 fm_2 (sb_openAccess ++ b64 d 22).length) 11 (kLi ((rv (A 11)) ++ [Value.ref q_3]))) 2 14 6200 f9_10 ((((sb_openAccess ++ b64 d 22) ++ sb_bearer) ++ cdl a 7) ++ sb_andRefresh).length) 2 14 6200 ((((sb_openAccess ++ b64 d 22) ++ sb_bearer) ++ cdl a 7) ++ sb_andRefresh) from (tO.gW (by decide) (by simp only [List.length_append, List.length_cons, List.length_nil, b64_len, l_oa, l_be, l_ar, l_as, l_cl]; omega) (by decide) h_f9_10 b_f9_10)) (by simp only [List.length_append, List.length_cons, List.length_nil, b64_len, l_oa, l_be, l_ar, l_as, l_cl]; omega) 2 _) ?_
  rintro _ _ Dm_11 ⟨rfl, ym_11, lwm_11, fm_11, h_fm_11, b_fm_11, rfl, dkm_11, hHm_11⟩
  refine C.aload_nR dX11_giveTokens_118 rfl ?_
  refine C.getS (k9 := 0) (fs := [.ref (S 1), .ref (S 2), .ref (S 3), .ref (S 4), .ref (S 5), .ref (S 6), .ref (S 7), .ref (S 8), .ref (S 9), .ref (S 10), .ref (S 11), .ref (S 12), .int (N 26), .int (N 27), .int (N 28), .int (N 25), .int 200, .int 0]) dX11_giveTokens_119 fl_X11_64 rfl rfl rfl ?_
  refine C.less (bc' := 1 + 1) (bs' := (((2996 - (2 * (rv (A 11)).length + 10)) - 1700) - 4) + 4) (by omega) (by omega) ?_
  refine C.new dX11_giveTokens_122 nw_X11_318 (fun q_12 hb_13 hl_14 => ?_)
  have h_15 : (kup Dm_11 q_12 (.inr (11, [.null, .int 0, .int 0, .int 0]))) q_12 = some (.inr (11, [.null, .int 0, .int 0, .int 0])) := kup_s _ _ _
  refine C.dup dX11_giveTokens_125 rfl ?_
  refine C.aload_nR dX11_giveTokens_126 rfl ?_
  refine C.iload_n dX11_giveTokens_127 rfl ?_
  refine C.aload_nR dX11_giveTokens_128 rfl ?_
  refine C.getS (k9 := 0) (fs := [.ref (S 1), .ref (S 2), .ref (S 3), .ref (S 4), .ref (S 5), .ref (S 6), .ref (S 7), .ref (S 8), .ref (S 9), .ref (S 10), .ref (S 11), .ref (S 12), .int (N 26), .int (N 27), .int (N 28), .int (N 25), .int 200, .int 0]) dX11_giveTokens_129 fl_X11_77 rfl rfl rfl ?_
  refine C.aload_nR dX11_giveTokens_132 rfl ?_
  refine C.getS (k9 := 0) (fs := [.ref (S 1), .ref (S 2), .ref (S 3), .ref (S 4), .ref (S 5), .ref (S 6), .ref (S 7), .ref (S 8), .ref (S 9), .ref (S 10), .ref (S 11), .ref (S 12), .int (N 26), .int (N 27), .int (N 28), .int (N 25), .int 200, .int 0]) dX11_giveTokens_133 fl_X11_74 rfl rfl rfl ?_
  refine C.iadd dX11_giveTokens_136 ?_
  refine C.callI0 [.ref ((A 10).getD f 0), .int x, .int ((N 25) + (N 28))] dX11_giveTokens_137 mdX10_init ⟨rfl, rfl⟩ imX10_init lk_X11_507 rfl rfl rfl rfl (cCt.d1 (R := fun r => r = none) h_15 fun σ9 h9 => c_Token_init _ _ _ (h9.2.1 _ _ h_15)) ?_
  rintro _ G9 _ ⟨rfl, e9, rfl⟩; have e9 := e9.symm; subst e9
  have h_16 : (kup (kup Dm_11 q_12 (.inr (11, [.null, .int 0, .int 0, .int 0]))) q_12 (.inr (11, [.ref ((A 10).getD f 0), .int x, .int ((N 25) + (N 28)), .int (bI false)]))) q_12 = some (.inr (11, [.ref ((A 10).getD f 0), .int x, .int ((N 25) + (N 28)), .int (bI false)])) := kup_s _ _ _
  have dmq_12 : dm Dm_11 (kup (kup Dm_11 q_12 (.inr (11, [.null, .int 0, .int 0, .int 0]))) q_12 (.inr (11, [.ref ((A 10).getD f 0), .int x, .int ((N 25) + (N 28)), .int (bI false)]))) := fun a c ha => kup_i (Nat.ne_of_lt (hl_14 _ _ ha)) (kup_i (Nat.ne_of_lt (hl_14 _ _ ha)) ha)
  refine C.less (bc' := 0 + 1) (bs' := ((((2996 - (2 * (rv (A 11)).length + 10)) - 1700) - 4) - (2 * (rv (A 12)).length + 10)) + (2 * (rv (A 12)).length + 10)) (by omega) (by omega) ?_
  refine C.callLS (k9 := 12) [.ref q_12] dX11_giveTokens_140 mdJx4a65c_add_9ea2d imJx4a65c_add_9ea2d seJx4a65c_add_9ea2d rfl p_t.2.1 lk_X11_129 rfl rfl rfl rfl (cCt.w1 (R := fun r => r = some (.int 1)) (i := 12) hS (by decide) fun σ9 h9 => c_list_add (h9.at (k := 12) rfl p_t.2.1) kc_11 ca_11 hJ (((cTo_elG ((cTo_addE (hh := nI (T 21).length) (p_t.2.2.dk dkm_2 (by decide)) dmq_3 hl_5 (by omega) h_7).dk dkm_11 (by decide))).mono dmq_12).mono h9.2.1) (h9.2.1 _ _ h_16) (by rw [rv_len]; omega)) ?_
  rintro _ _ D9 ⟨rfl, rfl, e8⟩
  have e8 := e8.symm; subst e8
  refine C.pop dX11_giveTokens_143 rfl ?_
  refine C.aload_nR dX11_giveTokens_144 rfl ?_
  refine C.getS (k9 := 0) (fs := [.ref (S 1), .ref (S 2), .ref (S 3), .ref (S 4), .ref (S 5), .ref (S 6), .ref (S 7), .ref (S 8), .ref (S 9), .ref (S 10), .ref (S 11), .ref (S 12), .int (N 26), .int (N 27), .int (N 28), .int (N 25), .int 200, .int 0]) dX11_giveTokens_145 fl_X11_18 rfl rfl rfl ?_
  refine C.bipush (v := 34) dX11_giveTokens_148 (by decide) ?_
  refine C.callVS0 (k9 := 2) [.int 34] dX11_giveTokens_150 mdX9_add imX9_add seX9_add kc_10 rfl rfl lk_X11_459 rfl rfl rfl rfl (o_add hS (show tO S (updG (gW S (updG (updG (gW S (updG (gW S (updG (updG (gW S (gA S G N 200 0) 2 14 6200 f9_1 sb_openAccess.length) 45 (kLi (rv lwm_2))) 46 (kLi (rv ((A 46) ++ [ym_2])))) 2 14 6200 fm_2 (sb_openAccess ++ b64 d 22).length) 11 (kLi ((rv (A 11)) ++ [Value.ref q_3]))) 2 14 6200 f9_10 ((((sb_openAccess ++ b64 d 22) ++ sb_bearer) ++ cdl a 7) ++ sb_andRefresh).length) 45 (kLi (rv lwm_11))) 46 (kLi (rv (((A 46) ++ [ym_2]) ++ [ym_11])))) 2 14 6200 fm_11 (((((sb_openAccess ++ b64 d 22) ++ sb_bearer) ++ cdl a 7) ++ sb_andRefresh) ++ b64 e 22).length) 12 (kLi ((rv (A 12)) ++ [Value.ref q_12]))) 2 14 6200 (((((sb_openAccess ++ b64 d 22) ++ sb_bearer) ++ cdl a 7) ++ sb_andRefresh) ++ b64 e 22) from (show tO S (gW S (updG (updG (gW S (updG (gW S (updG (updG (gW S (gA S G N 200 0) 2 14 6200 f9_1 sb_openAccess.length) 45 (kLi (rv lwm_2))) 46 (kLi (rv ((A 46) ++ [ym_2])))) 2 14 6200 fm_2 (sb_openAccess ++ b64 d 22).length) 11 (kLi ((rv (A 11)) ++ [Value.ref q_3]))) 2 14 6200 f9_10 ((((sb_openAccess ++ b64 d 22) ++ sb_bearer) ++ cdl a 7) ++ sb_andRefresh).length) 45 (kLi (rv lwm_11))) 46 (kLi (rv (((A 46) ++ [ym_2]) ++ [ym_11])))) 2 14 6200 fm_11 (((((sb_openAccess ++ b64 d 22) ++ sb_bearer) ++ cdl a 7) ++ sb_andRefresh) ++ b64 e 22).length) 2 14 6200 (((((sb_openAccess ++ b64 d 22) ++ sb_bearer) ++ cdl a 7) ++ sb_andRefresh) ++ b64 e 22) from (tO.gW (by decide) (by simp only [List.length_append, List.length_cons, List.length_nil, b64_len, l_oa, l_be, l_ar, l_as, l_cl]; omega) (by decide) h_fm_11 b_fm_11))) rfl rfl (by simp only [List.length_append, List.length_cons, List.length_nil, b64_len, l_oa, l_be, l_ar, l_as, l_cl]; omega) 34) ?_
  rintro _ _ D9 ⟨f9_17, h_f9_17, b_f9_17, rfl, rfl, e8⟩; have e8 := e8.symm; subst e8
  refine C.aload_nR dX11_giveTokens_153 rfl ?_
  refine C.getS (k9 := 0) (fs := [.ref (S 1), .ref (S 2), .ref (S 3), .ref (S 4), .ref (S 5), .ref (S 6), .ref (S 7), .ref (S 8), .ref (S 9), .ref (S 10), .ref (S 11), .ref (S 12), .int (N 26), .int (N 27), .int (N 28), .int (N 25), .int 200, .int 0]) dX11_giveTokens_154 fl_X11_18 rfl rfl rfl ?_
  refine C.ldcwS dX11_giveTokens_157 sr_X11_517 ?_
  refine C.callVS0 (k9 := 2) [.ref (kSa Λ RX11 517)] dX11_giveTokens_160 mdX9_addWord imX9_addWord seX9_addWord kc_10 rfl rfl lk_X11_443 rfl rfl rfl rfl (o_addWord hS (show tO S (gW S (updG (gW S (updG (updG (gW S (updG (gW S (updG (updG (gW S (gA S G N 200 0) 2 14 6200 f9_1 sb_openAccess.length) 45 (kLi (rv lwm_2))) 46 (kLi (rv ((A 46) ++ [ym_2])))) 2 14 6200 fm_2 (sb_openAccess ++ b64 d 22).length) 11 (kLi ((rv (A 11)) ++ [Value.ref q_3]))) 2 14 6200 f9_10 ((((sb_openAccess ++ b64 d 22) ++ sb_bearer) ++ cdl a 7) ++ sb_andRefresh).length) 45 (kLi (rv lwm_11))) 46 (kLi (rv (((A 46) ++ [ym_2]) ++ [ym_11])))) 2 14 6200 fm_11 (((((sb_openAccess ++ b64 d 22) ++ sb_bearer) ++ cdl a 7) ++ sb_andRefresh) ++ b64 e 22).length) 12 (kLi ((rv (A 12)) ++ [Value.ref q_12]))) 2 14 6200 f9_17 ((((((sb_openAccess ++ b64 d 22) ++ sb_bearer) ++ cdl a 7) ++ sb_andRefresh) ++ b64 e 22) ++ [b8 34]).length) 2 14 6200 ((((((sb_openAccess ++ b64 d 22) ++ sb_bearer) ++ cdl a 7) ++ sb_andRefresh) ++ b64 e 22) ++ [b8 34]) from (tO.gW (by decide) (by simp only [List.length_append, List.length_cons, List.length_nil, b64_len, l_oa, l_be, l_ar, l_as, l_cl]; omega) (by decide) h_f9_17 b_f9_17)) rfl rfl (st_X11_517 hSt) sb_andScope_b (by simp only [List.length_append, List.length_cons, List.length_nil, b64_len, l_oa, l_be, l_ar, l_as, l_cl]; omega)) ?_
  rintro _ _ D9 ⟨f9_18, h_f9_18, b_f9_18, rfl, rfl, e8⟩; have e8 := e8.symm; subst e8
  rw [gW_gW _ _ _ _ _ _ _ (by decide)]
  refine C.aload_nR dX11_giveTokens_163 rfl ?_
  refine C.iload_n dX11_giveTokens_164 rfl ?_
  refine C.callVS0 (k9 := 0) [.int x] dX11_giveTokens_165 mdX11_addScopeWords imX11_addScopeWords seX11_addScopeWords kc_12 rfl rfl lk_X11_519 rfl rfl rfl rfl (k_addScopeWords hS (N := ans N 200 0) rfl (show tO S (gW S (updG (gW S (updG (updG (gW S (updG (gW S (updG (updG (gW S (gA S G N 200 0) 2 14 6200 f9_1 sb_openAccess.length) 45 (kLi (rv lwm_2))) 46 (kLi (rv ((A 46) ++ [ym_2])))) 2 14 6200 fm_2 (sb_openAccess ++ b64 d 22).length) 11 (kLi ((rv (A 11)) ++ [Value.ref q_3]))) 2 14 6200 f9_10 ((((sb_openAccess ++ b64 d 22) ++ sb_bearer) ++ cdl a 7) ++ sb_andRefresh).length) 45 (kLi (rv lwm_11))) 46 (kLi (rv (((A 46) ++ [ym_2]) ++ [ym_11])))) 2 14 6200 fm_11 (((((sb_openAccess ++ b64 d 22) ++ sb_bearer) ++ cdl a 7) ++ sb_andRefresh) ++ b64 e 22).length) 12 (kLi ((rv (A 12)) ++ [Value.ref q_12]))) 2 14 6200 f9_18 (((((((sb_openAccess ++ b64 d 22) ++ sb_bearer) ++ cdl a 7) ++ sb_andRefresh) ++ b64 e 22) ++ [b8 34]) ++ sb_andScope).length) 2 14 6200 (((((((sb_openAccess ++ b64 d 22) ++ sb_bearer) ++ cdl a 7) ++ sb_andRefresh) ++ b64 e 22) ++ [b8 34]) ++ sb_andScope) from (tO.gW (by decide) (by simp only [List.length_append, List.length_cons, List.length_nil, b64_len, l_oa, l_be, l_ar, l_as, l_cl]; omega) (by decide) h_f9_18 b_f9_18)) p_w.1 ((((p_w.2.dk dkm_2 (by decide) (by decide)).mono dmq_3).dk dkm_11 (by decide) (by decide)).mono dmq_12) hw.1 hw.2.2 (by simp only [List.length_append, List.length_cons, List.length_nil, b64_len, l_oa, l_be, l_ar, l_as, l_cl]; omega) x) ?_
  rintro _ _ D9 ⟨f9_19, h_f9_19, b_f9_19, rfl, rfl, e8⟩; have e8 := e8.symm; subst e8
  rw [gW_gW _ _ _ _ _ _ _ (by decide)]
  refine C.aload_nR dX11_giveTokens_168 rfl ?_
  refine C.getS (k9 := 0) (fs := [.ref (S 1), .ref (S 2), .ref (S 3), .ref (S 4), .ref (S 5), .ref (S 6), .ref (S 7), .ref (S 8), .ref (S 9), .ref (S 10), .ref (S 11), .ref (S 12), .int (N 26), .int (N 27), .int (N 28), .int (N 25), .int 200, .int 0]) dX11_giveTokens_169 fl_X11_18 rfl rfl rfl ?_
  refine C.ldcwS dX11_giveTokens_172 sr_X11_522 ?_
  refine C.callVS0 (k9 := 2) [.ref (kSa Λ RX11 522)] dX11_giveTokens_175 mdX9_addWord imX9_addWord seX9_addWord kc_10 rfl rfl lk_X11_443 rfl rfl rfl rfl (o_addWord hS (show tO S (gW S (updG (gW S (updG (updG (gW S (updG (gW S (updG (updG (gW S (gA S G N 200 0) 2 14 6200 f9_1 sb_openAccess.length) 45 (kLi (rv lwm_2))) 46 (kLi (rv ((A 46) ++ [ym_2])))) 2 14 6200 fm_2 (sb_openAccess ++ b64 d 22).length) 11 (kLi ((rv (A 11)) ++ [Value.ref q_3]))) 2 14 6200 f9_10 ((((sb_openAccess ++ b64 d 22) ++ sb_bearer) ++ cdl a 7) ++ sb_andRefresh).length) 45 (kLi (rv lwm_11))) 46 (kLi (rv (((A 46) ++ [ym_2]) ++ [ym_11])))) 2 14 6200 fm_11 (((((sb_openAccess ++ b64 d 22) ++ sb_bearer) ++ cdl a 7) ++ sb_andRefresh) ++ b64 e 22).length) 12 (kLi ((rv (A 12)) ++ [Value.ref q_12]))) 2 14 6200 f9_19 ((((((((sb_openAccess ++ b64 d 22) ++ sb_bearer) ++ cdl a 7) ++ sb_andRefresh) ++ b64 e 22) ++ [b8 34]) ++ sb_andScope) ++ scw (T 2) x (T 2).length).length) 2 14 6200 ((((((((sb_openAccess ++ b64 d 22) ++ sb_bearer) ++ cdl a 7) ++ sb_andRefresh) ++ b64 e 22) ++ [b8 34]) ++ sb_andScope) ++ scw (T 2) x (T 2).length) from (tO.gW (by decide) (by simp only [List.length_append, List.length_cons, List.length_nil, b64_len, l_oa, l_be, l_ar, l_as, l_cl]; omega) (by decide) h_f9_19 b_f9_19)) rfl rfl (st_X11_522 hSt) sb_close_b (by simp only [List.length_append, List.length_cons, List.length_nil, b64_len, l_oa, l_be, l_ar, l_as, l_cl]; omega)) ?_
  rintro _ _ D9 ⟨f9_20, h_f9_20, b_f9_20, rfl, rfl, e8⟩; have e8 := e8.symm; subst e8
  rw [gW_gW _ _ _ _ _ _ _ (by decide)]
  refine C.aload_nR dX11_giveTokens_178 rfl ?_
  refine C.getS (k9 := 0) (fs := [.ref (S 1), .ref (S 2), .ref (S 3), .ref (S 4), .ref (S 5), .ref (S 6), .ref (S 7), .ref (S 8), .ref (S 9), .ref (S 10), .ref (S 11), .ref (S 12), .int (N 26), .int (N 27), .int (N 28), .int (N 25), .int 200, .int 0]) dX11_giveTokens_179 fl_X11_80 rfl rfl rfl ?_
  refine C.iret dX11_giveTokens_182 rfl ?_
  have et : (((((((((sb_openAccess ++ b64 d 22) ++ sb_bearer) ++ cdl a 7) ++ sb_andRefresh) ++ b64 e 22) ++ [b8 34]) ++ sb_andScope) ++ scw (T 2) x (T 2).length) ++ sb_close) = tkT (b64 d 22) (b64 e 22) (T 2) x a true := by rw [tkT, if_pos rfl]; simp only [List.append_assoc]; rfl
  have hta : tO S (gW S (updG (gW S (updG (updG (gW S (updG (gW S (updG (updG (gW S (gA S G N 200 0) 2 14 6200 f9_1 sb_openAccess.length) 45 (kLi (rv lwm_2))) 46 (kLi (rv ((A 46) ++ [ym_2])))) 2 14 6200 fm_2 (sb_openAccess ++ b64 d 22).length) 11 (kLi ((rv (A 11)) ++ [Value.ref q_3]))) 2 14 6200 f9_10 ((((sb_openAccess ++ b64 d 22) ++ sb_bearer) ++ cdl a 7) ++ sb_andRefresh).length) 45 (kLi (rv lwm_11))) 46 (kLi (rv (((A 46) ++ [ym_2]) ++ [ym_11])))) 2 14 6200 fm_11 (((((sb_openAccess ++ b64 d 22) ++ sb_bearer) ++ cdl a 7) ++ sb_andRefresh) ++ b64 e 22).length) 12 (kLi ((rv (A 12)) ++ [Value.ref q_12]))) 2 14 6200 f9_20 (((((((((sb_openAccess ++ b64 d 22) ++ sb_bearer) ++ cdl a 7) ++ sb_andRefresh) ++ b64 e 22) ++ [b8 34]) ++ sb_andScope) ++ scw (T 2) x (T 2).length) ++ sb_close).length) 2 14 6200 (((((((((sb_openAccess ++ b64 d 22) ++ sb_bearer) ++ cdl a 7) ++ sb_andRefresh) ++ b64 e 22) ++ [b8 34]) ++ sb_andScope) ++ scw (T 2) x (T 2).length) ++ sb_close) := (tO.gW (by decide) (by simp only [List.length_append, List.length_cons, List.length_nil, b64_len, l_oa, l_be, l_ar, l_as, l_cl]; omega) (by decide) h_f9_20 b_f9_20)
  rw [et] at hta
  rw [et, opCom, show (N 27).toNatClampNeg = a from by rw [ha, nI_clamp (by omega)]]
  have hHf := (hHm_11.mono dmq_12)
  rw [List.append_assoc (T 21), List.append_assoc (T 22)] at hHf
  exact ⟨rfl, (setA (setA (setA (setA A 45 lwm_11) 46 ((A 46 ++ [ym_2]) ++ [ym_11])) 11 (A 11 ++ [q_3])) 12 (A 12 ++ [q_12])), L, p_a, hta, rfl, p_k, p_f, p_h, ⟨p_w.1, ((((p_w.2.dk dkm_2 (by decide) (by decide)).mono dmq_3).dk dkm_11 (by decide) (by decide)).mono dmq_12)⟩, ⟨p_c.1, ((((p_c.2.dk dkm_2 (by decide) (by decide) (by decide)).mono dmq_3).dk dkm_11 (by decide) (by decide) (by decide)).mono dmq_12)⟩, ((((p_r.dk dkm_2 (by decide) (by decide) (by decide)).mono dmq_3).dk dkm_11 (by decide) (by decide) (by decide)).mono dmq_12), ⟨p_q.1, ((((p_q.2.dk dkm_2 (by decide) (by decide) (by decide)).mono dmq_3).dk dkm_11 (by decide) (by decide) (by decide)).mono dmq_12)⟩, ⟨p_o.1, ((((p_o.2.dk dkm_2 (by decide)).mono dmq_3).dk dkm_11 (by decide)).mono dmq_12)⟩, ⟨p_m.1, ((((p_m.2.dk dkm_2 (by decide)).mono dmq_3).dk dkm_11 (by decide)).mono dmq_12)⟩, ⟨congrArg kLi (rv_app _ _), congrArg kLi (rv_app _ _), (cTo_addG (hh := nI ((T 21).length + 1)) ((cTo_addE (hh := nI (T 21).length) (p_t.2.2.dk dkm_2 (by decide)) dmq_3 hl_5 (by omega) h_7).dk dkm_11 (by decide)) dmq_12 hl_14 (by omega) h_16)⟩, ⟨rfl, rfl, hHf⟩⟩

theorem k_giveF {Λ : kL} {S : Nat → Nat} {G : Nat → kc} {D : kh} (hS : cInj S) {A L : Nat → List Nat} {N : Nat → Int32} {B : Nat → List Int32} {T R : Nat → List (List Int32)} (hR : cR Λ S G D A L N B T R) (hSt : kSt Λ) (hJ : kJd Λ) (hw : wfw (T 2)) (hn : wfn N) (hx60 : (T 20).length ≤ 60) (hu : (T 21).length + 1 ≤ 800) (hM : (T 22).length = (T 21).length) (he3 : (T 29).length ≤ 300) (hg3 : (T 30).length ≤ 300) {f : Nat} (hf2 : f < 2 ^ 31) (x : Int32) {d : List Int32} {W1 : List (List Int32)} (htk : tk1 (T 21) (T 20) = some (d, W1)) : cCt Λ mX11_giveTokens 6 4700 S [.ref (S 0), .ref ((A 10).getD f 0), .int x, .int 0] G D (cP Λ S (opCom N B T R f x [d] W1 false)) := by
  refine cCt.of hS pn_X11 [some (.ref (S 0)), some (.ref ((A 10).getD f 0)), some (.int x), some (.int 0)] rfl (Nat.le_of_ble_eq_true rfl) fun X => ?_
  obtain ⟨p_a, p_b, p_n, p_k, p_f, p_h, p_w, p_c, p_r, p_q, p_o, p_m, p_t, p_d⟩ := hR
  have p_b9 := p_b; obtain ⟨fo9, b1, b2, b3, b4, b5, b6⟩ := p_b9
  obtain ⟨a, ha1, ha2, ha⟩ := hn
  have hcd := cdl_len a 7
  have hsl : (scw (T 2) x (T 2).length).length ≤ 13 * (T 2).length := scw_len (fun k hk => (hw.2.2 k hk).2.1) x _ (Nat.le_refl _)
  have hw8 := hw.1
  have hr11 := rv_len (A 11); have hl11 := p_t.2.2.1; have hr12 := rv_len (A 12); have hl12 := p_t.2.2.2.1
  have l_oa : sb_openAccess.length = 17 := rfl
  have l_be : sb_bearer.length = 37 := rfl
  have l_ar : sb_andRefresh.length = 18 := rfl
  have l_as : sb_andScope.length = 10 := rfl
  have l_cl : sb_close.length = 2 := rfl
  refine C.aload_nR dX11_giveTokens_0 rfl ?_
  refine C.sipush (v := 200) dX11_giveTokens_1 (by decide) ?_
  refine C.iconst (v := 0) dX11_giveTokens_4 (by decide) ?_
  refine C.callVS0 (k9 := 0) [.int 200, .int 0] dX11_giveTokens_5 mdX11_answer imX11_answer seX11_answer kc_12 rfl p_n lk_X11_240 rfl rfl rfl rfl (k_answer hS (N := N) (show G 0 = oGs S N from p_n) (show tO S G 2 14 6200 (B 1) from p_b) 200 0) ?_
  rintro _ _ D9 ⟨rfl, rfl, e8⟩; have e8 := e8.symm; subst e8
  refine C.pop dX11_giveTokens_8 rfl ?_
  refine C.aload_nR dX11_giveTokens_9 rfl ?_
  refine C.getS (k9 := 0) (fs := [.ref (S 1), .ref (S 2), .ref (S 3), .ref (S 4), .ref (S 5), .ref (S 6), .ref (S 7), .ref (S 8), .ref (S 9), .ref (S 10), .ref (S 11), .ref (S 12), .int (N 26), .int (N 27), .int (N 28), .int (N 25), .int 200, .int 0]) dX11_giveTokens_10 fl_X11_18 rfl rfl rfl ?_
  refine C.ldcwS dX11_giveTokens_13 sr_X11_505 ?_
  refine C.callVS0 (k9 := 2) [.ref (kSa Λ RX11 505)] dX11_giveTokens_16 mdX9_addWord imX9_addWord seX9_addWord kc_10 rfl rfl lk_X11_443 rfl rfl rfl rfl (o_addWord hS (show tO S (gA S G N 200 0) 2 14 6200 [] from ⟨fo9, rfl, b2, Nat.zero_le _, by decide, rfl, bts_nil⟩) rfl rfl (st_X11_505 hSt) sb_openAccess_b (by simp only [List.length_append, List.length_cons, List.length_nil, b64_len, l_oa, l_be, l_ar, l_as, l_cl]; omega)) ?_
  rintro _ _ D9 ⟨f9_1, h_f9_1, b_f9_1, rfl, rfl, e8⟩; have e8 := e8.symm; subst e8
  rw [List.nil_append] at h_f9_1 b_f9_1 ⊢
  refine C.aload_nR dX11_giveTokens_19 rfl ?_
  refine C.getS (k9 := 0) (fs := [.ref (S 1), .ref (S 2), .ref (S 3), .ref (S 4), .ref (S 5), .ref (S 6), .ref (S 7), .ref (S 8), .ref (S 9), .ref (S 10), .ref (S 11), .ref (S 12), .int (N 26), .int (N 27), .int (N 28), .int (N 25), .int 200, .int 0]) dX11_giveTokens_20 fl_X11_31 rfl rfl rfl ?_
  refine C.iconst (v := 1) dX11_giveTokens_23 (by decide) ?_
  refine C.aload_nR dX11_giveTokens_24 rfl ?_
  refine C.getS (k9 := 0) (fs := [.ref (S 1), .ref (S 2), .ref (S 3), .ref (S 4), .ref (S 5), .ref (S 6), .ref (S 7), .ref (S 8), .ref (S 9), .ref (S 10), .ref (S 11), .ref (S 12), .int (N 26), .int (N 27), .int (N 28), .int (N 25), .int 200, .int 0]) dX11_giveTokens_25 fl_X11_61 rfl rfl rfl ?_
  refine C.callLS0 (k9 := 11) [] dX11_giveTokens_28 mdJx4a65c_size_8abf5 imJx4a65c_size_8abf5 seJx4a65c_size_8abf5 rfl p_t.1 lk_X11_123 rfl rfl rfl rfl (cCt.w0 (R := fun r => r = some (.int (nI (rv (A 11)).length))) fun σ9 h9 => c_list_size (h9.at (k := 11) rfl p_t.1)) ?_
  rintro _ G9 D9 ⟨rfl, e9, e8⟩
  have e9 := e9.symm; subst e9; have e8 := e8.symm; subst e8
  refine C.aload_nR dX11_giveTokens_31 rfl ?_
  refine C.getS (k9 := 0) (fs := [.ref (S 1), .ref (S 2), .ref (S 3), .ref (S 4), .ref (S 5), .ref (S 6), .ref (S 7), .ref (S 8), .ref (S 9), .ref (S 10), .ref (S 11), .ref (S 12), .int (N 26), .int (N 27), .int (N 28), .int (N 25), .int 200, .int 0]) dX11_giveTokens_32 fl_X11_18 rfl rfl rfl ?_
  rw [rv_len (A 11), p_t.2.2.1]
  refine C.less (bc' := 5 + 1) (bs' := 3000 + 1700) (by omega) (by omega) ?_
  refine C.callVS (k9 := 4) [.int 1, .int (nI (T 29).length), .ref (S 2)] dX11_giveTokens_35 mdX6_make imX6_make seX6_make kc_7 rfl p_k.2.1 lk_X11_455 rfl rfl rfl rfl (k_make hS hJ (G := (gW S (gA S G N 200 0) 2 14 6200 f9_1 sb_openAccess.length)) (lm := (A 46)) p_k.2.1 p_d.1 p_d.2.1 p_d.2.2 hM hx60 (by first | omega | (simp only [List.length_append, List.length_singleton]; omega)) htk (show tO S (gW S (gA S G N 200 0) 2 14 6200 f9_1 sb_openAccess.length) 2 14 6200 sb_openAccess from (tO.gW (by decide) (by simp only [List.length_append, List.length_cons, List.length_nil, b64_len, l_oa, l_be, l_ar, l_as, l_cl]; omega) (by decide) h_f9_1 b_f9_1)) (by simp only [List.length_append, List.length_cons, List.length_nil, b64_len, l_oa, l_be, l_ar, l_as, l_cl]; omega) 1 _) ?_
  rintro _ _ Dm_2 ⟨rfl, ym_2, lwm_2, fm_2, h_fm_2, b_fm_2, rfl, dkm_2, hHm_2⟩
  refine C.aload_nR dX11_giveTokens_38 rfl ?_
  refine C.getS (k9 := 0) (fs := [.ref (S 1), .ref (S 2), .ref (S 3), .ref (S 4), .ref (S 5), .ref (S 6), .ref (S 7), .ref (S 8), .ref (S 9), .ref (S 10), .ref (S 11), .ref (S 12), .int (N 26), .int (N 27), .int (N 28), .int (N 25), .int 200, .int 0]) dX11_giveTokens_39 fl_X11_61 rfl rfl rfl ?_
  refine C.less (bc' := 4 + 1) (bs' := 2996 + 4) (by omega) (by omega) ?_
  refine C.new dX11_giveTokens_42 nw_X11_318 (fun q_3 hb_4 hl_5 => ?_)
  have h_6 : (kup Dm_2 q_3 (.inr (11, [.null, .int 0, .int 0, .int 0]))) q_3 = some (.inr (11, [.null, .int 0, .int 0, .int 0])) := kup_s _ _ _
  refine C.dup dX11_giveTokens_45 rfl ?_
  refine C.aload_nR dX11_giveTokens_46 rfl ?_
  refine C.iload_n dX11_giveTokens_47 rfl ?_
  refine C.aload_nR dX11_giveTokens_48 rfl ?_
  refine C.getS (k9 := 0) (fs := [.ref (S 1), .ref (S 2), .ref (S 3), .ref (S 4), .ref (S 5), .ref (S 6), .ref (S 7), .ref (S 8), .ref (S 9), .ref (S 10), .ref (S 11), .ref (S 12), .int (N 26), .int (N 27), .int (N 28), .int (N 25), .int 200, .int 0]) dX11_giveTokens_49 fl_X11_77 rfl rfl rfl ?_
  refine C.aload_nR dX11_giveTokens_52 rfl ?_
  refine C.getS (k9 := 0) (fs := [.ref (S 1), .ref (S 2), .ref (S 3), .ref (S 4), .ref (S 5), .ref (S 6), .ref (S 7), .ref (S 8), .ref (S 9), .ref (S 10), .ref (S 11), .ref (S 12), .int (N 26), .int (N 27), .int (N 28), .int (N 25), .int 200, .int 0]) dX11_giveTokens_53 fl_X11_71 rfl rfl rfl ?_
  refine C.iadd dX11_giveTokens_56 ?_
  refine C.callI0 [.ref ((A 10).getD f 0), .int x, .int ((N 25) + (N 27))] dX11_giveTokens_57 mdX10_init ⟨rfl, rfl⟩ imX10_init lk_X11_507 rfl rfl rfl rfl (cCt.d1 (R := fun r => r = none) h_6 fun σ9 h9 => c_Token_init _ _ _ (h9.2.1 _ _ h_6)) ?_
  rintro _ G9 _ ⟨rfl, e9, rfl⟩; have e9 := e9.symm; subst e9
  have h_7 : (kup (kup Dm_2 q_3 (.inr (11, [.null, .int 0, .int 0, .int 0]))) q_3 (.inr (11, [.ref ((A 10).getD f 0), .int x, .int ((N 25) + (N 27)), .int (bI false)]))) q_3 = some (.inr (11, [.ref ((A 10).getD f 0), .int x, .int ((N 25) + (N 27)), .int (bI false)])) := kup_s _ _ _
  have dmq_3 : dm Dm_2 (kup (kup Dm_2 q_3 (.inr (11, [.null, .int 0, .int 0, .int 0]))) q_3 (.inr (11, [.ref ((A 10).getD f 0), .int x, .int ((N 25) + (N 27)), .int (bI false)]))) := fun a c ha => kup_i (Nat.ne_of_lt (hl_5 _ _ ha)) (kup_i (Nat.ne_of_lt (hl_5 _ _ ha)) ha)
  refine C.less (bc' := 3 + 1) (bs' := (2996 - (2 * (rv (A 11)).length + 10)) + (2 * (rv (A 11)).length + 10)) (by omega) (by omega) ?_
  refine C.callLS (k9 := 11) [.ref q_3] dX11_giveTokens_60 mdJx4a65c_add_9ea2d imJx4a65c_add_9ea2d seJx4a65c_add_9ea2d rfl p_t.1 lk_X11_129 rfl rfl rfl rfl (cCt.w1 (R := fun r => r = some (.int 1)) (i := 11) hS (by decide) fun σ9 h9 => c_list_add (h9.at (k := 11) rfl p_t.1) kc_11 ca_11 hJ (((cTo_elE (p_t.2.2.dk dkm_2 (by decide))).mono dmq_3).mono h9.2.1) (h9.2.1 _ _ h_7) (by rw [rv_len]; omega)) ?_
  rintro _ _ D9 ⟨rfl, rfl, e8⟩
  have e8 := e8.symm; subst e8
  refine C.pop dX11_giveTokens_63 rfl ?_
  refine C.aload_nR dX11_giveTokens_64 rfl ?_
  refine C.getS (k9 := 0) (fs := [.ref (S 1), .ref (S 2), .ref (S 3), .ref (S 4), .ref (S 5), .ref (S 6), .ref (S 7), .ref (S 8), .ref (S 9), .ref (S 10), .ref (S 11), .ref (S 12), .int (N 26), .int (N 27), .int (N 28), .int (N 25), .int 200, .int 0]) dX11_giveTokens_65 fl_X11_18 rfl rfl rfl ?_
  refine C.ldcwS dX11_giveTokens_68 sr_X11_510 ?_
  refine C.callVS0 (k9 := 2) [.ref (kSa Λ RX11 510)] dX11_giveTokens_71 mdX9_addWord imX9_addWord seX9_addWord kc_10 rfl rfl lk_X11_443 rfl rfl rfl rfl (o_addWord hS (show tO S (updG (gW S (updG (updG (gW S (gA S G N 200 0) 2 14 6200 f9_1 sb_openAccess.length) 45 (kLi (rv lwm_2))) 46 (kLi (rv ((A 46) ++ [ym_2])))) 2 14 6200 fm_2 (sb_openAccess ++ b64 d 22).length) 11 (kLi ((rv (A 11)) ++ [Value.ref q_3]))) 2 14 6200 (sb_openAccess ++ b64 d 22) from (show tO S (gW S (updG (updG (gW S (gA S G N 200 0) 2 14 6200 f9_1 sb_openAccess.length) 45 (kLi (rv lwm_2))) 46 (kLi (rv ((A 46) ++ [ym_2])))) 2 14 6200 fm_2 (sb_openAccess ++ b64 d 22).length) 2 14 6200 (sb_openAccess ++ b64 d 22) from (tO.gW (by decide) (by simp only [List.length_append, List.length_cons, List.length_nil, b64_len, l_oa, l_be, l_ar, l_as, l_cl]; omega) (by decide) h_fm_2 b_fm_2))) rfl rfl (st_X11_510 hSt) sb_bearer_b (by simp only [List.length_append, List.length_cons, List.length_nil, b64_len, l_oa, l_be, l_ar, l_as, l_cl]; omega)) ?_
  rintro _ _ D9 ⟨f9_8, h_f9_8, b_f9_8, rfl, rfl, e8⟩; have e8 := e8.symm; subst e8
  refine C.aload_nR dX11_giveTokens_74 rfl ?_
  refine C.getS (k9 := 0) (fs := [.ref (S 1), .ref (S 2), .ref (S 3), .ref (S 4), .ref (S 5), .ref (S 6), .ref (S 7), .ref (S 8), .ref (S 9), .ref (S 10), .ref (S 11), .ref (S 12), .int (N 26), .int (N 27), .int (N 28), .int (N 25), .int 200, .int 0]) dX11_giveTokens_75 fl_X11_18 rfl rfl rfl ?_
  refine C.aload_nR dX11_giveTokens_78 rfl ?_
  refine C.getS (k9 := 0) (fs := [.ref (S 1), .ref (S 2), .ref (S 3), .ref (S 4), .ref (S 5), .ref (S 6), .ref (S 7), .ref (S 8), .ref (S 9), .ref (S 10), .ref (S 11), .ref (S 12), .int (N 26), .int (N 27), .int (N 28), .int (N 25), .int 200, .int 0]) dX11_giveTokens_79 fl_X11_71 rfl rfl rfl ?_
  have hct := o_addNumber (Λ := Λ) (D := (kup (kup Dm_2 q_3 (.inr (11, [.null, .int 0, .int 0, .int 0]))) q_3 (.inr (11, [.ref ((A 10).getD f 0), .int x, .int ((N 25) + (N 27)), .int (bI false)])))) hS (show tO S (gW S (updG (gW S (updG (updG (gW S (gA S G N 200 0) 2 14 6200 f9_1 sb_openAccess.length) 45 (kLi (rv lwm_2))) 46 (kLi (rv ((A 46) ++ [ym_2])))) 2 14 6200 fm_2 (sb_openAccess ++ b64 d 22).length) 11 (kLi ((rv (A 11)) ++ [Value.ref q_3]))) 2 14 6200 f9_8 ((sb_openAccess ++ b64 d 22) ++ sb_bearer).length) 2 14 6200 ((sb_openAccess ++ b64 d 22) ++ sb_bearer) from (tO.gW (by decide) (by simp only [List.length_append, List.length_cons, List.length_nil, b64_len, l_oa, l_be, l_ar, l_as, l_cl]; omega) (by decide) h_f9_8 b_f9_8)) rfl rfl ha2 (by simp only [List.length_append, List.length_cons, List.length_nil, b64_len, l_oa, l_be, l_ar, l_as, l_cl]; omega)
  rw [← ha] at hct
  refine C.callVS0 (k9 := 2) [.int (N 27)] dX11_giveTokens_82 mdX9_addNumber imX9_addNumber seX9_addNumber kc_10 rfl rfl lk_X11_512 rfl rfl rfl rfl hct ?_
  rintro _ _ D9 ⟨f9_9, h_f9_9, b_f9_9, rfl, rfl, e8⟩; have e8 := e8.symm; subst e8
  rw [gW_gW _ _ _ _ _ _ _ (by decide)]
  refine C.iload_n dX11_giveTokens_85 rfl ?_
  refine C.if_eq (tgt := 153) dX11_giveTokens_86 (by decide) (fun c_86 => ?_) (fun c_86 => absurd rfl c_86)
  refine C.aload_nR dX11_giveTokens_153 rfl ?_
  refine C.getS (k9 := 0) (fs := [.ref (S 1), .ref (S 2), .ref (S 3), .ref (S 4), .ref (S 5), .ref (S 6), .ref (S 7), .ref (S 8), .ref (S 9), .ref (S 10), .ref (S 11), .ref (S 12), .int (N 26), .int (N 27), .int (N 28), .int (N 25), .int 200, .int 0]) dX11_giveTokens_154 fl_X11_18 rfl rfl rfl ?_
  refine C.ldcwS dX11_giveTokens_157 sr_X11_517 ?_
  refine C.callVS0 (k9 := 2) [.ref (kSa Λ RX11 517)] dX11_giveTokens_160 mdX9_addWord imX9_addWord seX9_addWord kc_10 rfl rfl lk_X11_443 rfl rfl rfl rfl (o_addWord hS (show tO S (gW S (updG (gW S (updG (updG (gW S (gA S G N 200 0) 2 14 6200 f9_1 sb_openAccess.length) 45 (kLi (rv lwm_2))) 46 (kLi (rv ((A 46) ++ [ym_2])))) 2 14 6200 fm_2 (sb_openAccess ++ b64 d 22).length) 11 (kLi ((rv (A 11)) ++ [Value.ref q_3]))) 2 14 6200 f9_9 (((sb_openAccess ++ b64 d 22) ++ sb_bearer) ++ cdl a 7).length) 2 14 6200 (((sb_openAccess ++ b64 d 22) ++ sb_bearer) ++ cdl a 7) from (tO.gW (by decide) (by simp only [List.length_append, List.length_cons, List.length_nil, b64_len, l_oa, l_be, l_ar, l_as, l_cl]; omega) (by decide) h_f9_9 b_f9_9)) rfl rfl (st_X11_517 hSt) sb_andScope_b (by simp only [List.length_append, List.length_cons, List.length_nil, b64_len, l_oa, l_be, l_ar, l_as, l_cl]; omega)) ?_
  rintro _ _ D9 ⟨f9_10, h_f9_10, b_f9_10, rfl, rfl, e8⟩; have e8 := e8.symm; subst e8
  rw [gW_gW _ _ _ _ _ _ _ (by decide)]
  refine C.aload_nR dX11_giveTokens_163 rfl ?_
  refine C.iload_n dX11_giveTokens_164 rfl ?_
  refine C.callVS0 (k9 := 0) [.int x] dX11_giveTokens_165 mdX11_addScopeWords imX11_addScopeWords seX11_addScopeWords kc_12 rfl rfl lk_X11_519 rfl rfl rfl rfl (k_addScopeWords hS (N := ans N 200 0) rfl (show tO S (gW S (updG (gW S (updG (updG (gW S (gA S G N 200 0) 2 14 6200 f9_1 sb_openAccess.length) 45 (kLi (rv lwm_2))) 46 (kLi (rv ((A 46) ++ [ym_2])))) 2 14 6200 fm_2 (sb_openAccess ++ b64 d 22).length) 11 (kLi ((rv (A 11)) ++ [Value.ref q_3]))) 2 14 6200 f9_10 ((((sb_openAccess ++ b64 d 22) ++ sb_bearer) ++ cdl a 7) ++ sb_andScope).length) 2 14 6200 ((((sb_openAccess ++ b64 d 22) ++ sb_bearer) ++ cdl a 7) ++ sb_andScope) from (tO.gW (by decide) (by simp only [List.length_append, List.length_cons, List.length_nil, b64_len, l_oa, l_be, l_ar, l_as, l_cl]; omega) (by decide) h_f9_10 b_f9_10)) p_w.1 ((p_w.2.dk dkm_2 (by decide) (by decide)).mono dmq_3) hw.1 hw.2.2 (by simp only [List.length_append, List.length_cons, List.length_nil, b64_len, l_oa, l_be, l_ar, l_as, l_cl]; omega) x) ?_
  rintro _ _ D9 ⟨f9_11, h_f9_11, b_f9_11, rfl, rfl, e8⟩; have e8 := e8.symm; subst e8
  rw [gW_gW _ _ _ _ _ _ _ (by decide)]
  refine C.aload_nR dX11_giveTokens_168 rfl ?_
  refine C.getS (k9 := 0) (fs := [.ref (S 1), .ref (S 2), .ref (S 3), .ref (S 4), .ref (S 5), .ref (S 6), .ref (S 7), .ref (S 8), .ref (S 9), .ref (S 10), .ref (S 11), .ref (S 12), .int (N 26), .int (N 27), .int (N 28), .int (N 25), .int 200, .int 0]) dX11_giveTokens_169 fl_X11_18 rfl rfl rfl ?_
  refine C.ldcwS dX11_giveTokens_172 sr_X11_522 ?_
  refine C.callVS0 (k9 := 2) [.ref (kSa Λ RX11 522)] dX11_giveTokens_175 mdX9_addWord imX9_addWord seX9_addWord kc_10 rfl rfl lk_X11_443 rfl rfl rfl rfl (o_addWord hS (show tO S (gW S (updG (gW S (updG (updG (gW S (gA S G N 200 0) 2 14 6200 f9_1 sb_openAccess.length) 45 (kLi (rv lwm_2))) 46 (kLi (rv ((A 46) ++ [ym_2])))) 2 14 6200 fm_2 (sb_openAccess ++ b64 d 22).length) 11 (kLi ((rv (A 11)) ++ [Value.ref q_3]))) 2 14 6200 f9_11 (((((sb_openAccess ++ b64 d 22) ++ sb_bearer) ++ cdl a 7) ++ sb_andScope) ++ scw (T 2) x (T 2).length).length) 2 14 6200 (((((sb_openAccess ++ b64 d 22) ++ sb_bearer) ++ cdl a 7) ++ sb_andScope) ++ scw (T 2) x (T 2).length) from (tO.gW (by decide) (by simp only [List.length_append, List.length_cons, List.length_nil, b64_len, l_oa, l_be, l_ar, l_as, l_cl]; omega) (by decide) h_f9_11 b_f9_11)) rfl rfl (st_X11_522 hSt) sb_close_b (by simp only [List.length_append, List.length_cons, List.length_nil, b64_len, l_oa, l_be, l_ar, l_as, l_cl]; omega)) ?_
  rintro _ _ D9 ⟨f9_12, h_f9_12, b_f9_12, rfl, rfl, e8⟩; have e8 := e8.symm; subst e8
  rw [gW_gW _ _ _ _ _ _ _ (by decide)]
  refine C.aload_nR dX11_giveTokens_178 rfl ?_
  refine C.getS (k9 := 0) (fs := [.ref (S 1), .ref (S 2), .ref (S 3), .ref (S 4), .ref (S 5), .ref (S 6), .ref (S 7), .ref (S 8), .ref (S 9), .ref (S 10), .ref (S 11), .ref (S 12), .int (N 26), .int (N 27), .int (N 28), .int (N 25), .int 200, .int 0]) dX11_giveTokens_179 fl_X11_80 rfl rfl rfl ?_
  refine C.iret dX11_giveTokens_182 rfl ?_
  have et : ((((((sb_openAccess ++ b64 d 22) ++ sb_bearer) ++ cdl a 7) ++ sb_andScope) ++ scw (T 2) x (T 2).length) ++ sb_close) = tkT (b64 d 22) (b64 ([d].getD 1 []) 22) (T 2) x a false := by rw [tkT, if_neg Bool.false_ne_true, List.append_nil]
  have hta : tO S (gW S (updG (gW S (updG (updG (gW S (gA S G N 200 0) 2 14 6200 f9_1 sb_openAccess.length) 45 (kLi (rv lwm_2))) 46 (kLi (rv ((A 46) ++ [ym_2])))) 2 14 6200 fm_2 (sb_openAccess ++ b64 d 22).length) 11 (kLi ((rv (A 11)) ++ [Value.ref q_3]))) 2 14 6200 f9_12 ((((((sb_openAccess ++ b64 d 22) ++ sb_bearer) ++ cdl a 7) ++ sb_andScope) ++ scw (T 2) x (T 2).length) ++ sb_close).length) 2 14 6200 ((((((sb_openAccess ++ b64 d 22) ++ sb_bearer) ++ cdl a 7) ++ sb_andScope) ++ scw (T 2) x (T 2).length) ++ sb_close) := (tO.gW (by decide) (by simp only [List.length_append, List.length_cons, List.length_nil, b64_len, l_oa, l_be, l_ar, l_as, l_cl]; omega) (by decide) h_f9_12 b_f9_12)
  rw [et] at hta
  rw [et, opCom, show (N 27).toNatClampNeg = a from by rw [ha, nI_clamp (by omega)]]
  have hHf := (hHm_2.mono dmq_3)
  exact ⟨rfl, (setA (setA (setA A 45 lwm_2) 46 (A 46 ++ [ym_2])) 11 (A 11 ++ [q_3])), L, p_a, hta, rfl, p_k, p_f, p_h, ⟨p_w.1, ((p_w.2.dk dkm_2 (by decide) (by decide)).mono dmq_3)⟩, ⟨p_c.1, ((p_c.2.dk dkm_2 (by decide) (by decide) (by decide)).mono dmq_3)⟩, ((p_r.dk dkm_2 (by decide) (by decide) (by decide)).mono dmq_3), ⟨p_q.1, ((p_q.2.dk dkm_2 (by decide) (by decide) (by decide)).mono dmq_3)⟩, ⟨p_o.1, ((p_o.2.dk dkm_2 (by decide)).mono dmq_3)⟩, ⟨p_m.1, ((p_m.2.dk dkm_2 (by decide)).mono dmq_3)⟩, ⟨congrArg kLi (rv_app _ _), p_t.2.1, (show cTo _ _ _ _ _ (T 30 ++ []) from by rw [List.append_nil]; exact (cTo_addE (hh := nI (T 21).length) (p_t.2.2.dk dkm_2 (by decide)) dmq_3 hl_5 (by omega) h_7))⟩, ⟨rfl, rfl, hHf⟩⟩
