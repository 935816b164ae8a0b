/-! the class: a HANDLE is made -/
theorem hd1_upd {D : kh} {a y : Nat} {d : List Int32} {kd k : Int32} {c0 c : kc} (h : hd1 D a d kd k) (hy : D y = some c0) (hc : kcl c0 = 6) (ha : a ≠ y) : hd1 (kup D y c) a d kd k := by
  obtain ⟨ns, sg, g, h1, h2, h3, h4⟩ := h
  have hd : dk 6 D (kup D y c) := by have := dk.up (c := c) hy; rwa [hc] at this
  exact ⟨ns, sg, g, kup_i ha h1, hd _ _ h2 (show 1001 ≠ 6 by decide), h3, h4.dk hd (by decide) (by decide)⟩
theorem gN_drop {l : List Nat} {i n : Nat} : (l.drop i).getD n 0 = l.getD (i + n) 0 := by rw [List.getD_eq_getElem?_getD, List.getElem?_drop, List.getD_eq_getElem?_getD]
theorem gL_drop {l : List (List Int32)} {i n : Nat} : (l.drop i).getD n [] = l.getD (i + n) [] := by rw [List.getD_eq_getElem?_getD, List.getElem?_drop, List.getD_eq_getElem?_getD]
theorem ro_appl {C : List (List Int32)} {r : List Int32} {n c : Nat} (h : n < C.length) : ro (C ++ [r]) n c = ro C n c := by rw [ro, ro, getD_appl h]
theorem ro_appr {C : List (List Int32)} {r : List Int32} {n c : Nat} (h : n = C.length) : ro (C ++ [r]) n c = r.getD c 0 := by rw [h, ro, getD_appr]
theorem cHs_move {D : kh} {lw lm : List Nat} {W U M : List (List Int32)} (h : cHs D lw lm W U M) (hM : M.length = U.length) {i : Nat} (hi : i < W.length) {kd k : Int32} {ns sg : Nat} {g : Nat → Int32} (h1 : D (lw.getD i 0) = some (oHa ns sg (-1) (-1))) (h2 : D ns = some (aI 4 g)) (h3 : tl g 0 4 = W.getD i []) (h4 : tx D sg (b64 (W.getD i []) 22)) : cHs (kup D (lw.getD i 0) (oHa ns sg kd k)) (lw.drop (i + 1)) (lm ++ [lw.getD i 0]) (W.drop (i + 1)) (U ++ [W.getD i []]) (M ++ [[kd, k]]) := by
  obtain ⟨g1, g2, g3, g4, g5, g6, g7⟩ := h
  have hd : dk 6 D (kup D (lw.getD i 0) (oHa ns sg kd k)) := dk.up (c0 := oHa ns sg (-1) (-1)) h1
  have hmy : ∀ n, n < lm.length → lm.getD n 0 ≠ lw.getD i 0 := fun n hn e => g5 i n (by omega) hn e.symm
  refine ⟨by rw [List.length_drop, List.length_drop, g1], by rw [List.length_append, List.length_append, g2]; rfl, fun a b ha hb e => ?_, g4.app hmy, fun a b ha hb e => ?_, fun n hn => ?_, fun n hn => ?_⟩
  · rw [List.length_drop] at ha hb
    rw [gN_drop, gN_drop] at e
    have := g3 _ _ (by omega) (by omega) e
    omega
  · rw [List.length_drop] at ha
    rw [List.length_append, List.length_singleton] at hb
    rw [gN_drop] at e
    by_cases q : b = lm.length
    · rw [q, gN_appr] at e
      have := g3 _ _ (by omega) (by omega) e
      omega
    · rw [gN_appl (by omega)] at e
      exact g5 _ _ (by omega) (by omega) e
  · rw [List.length_drop] at hn
    rw [gN_drop, gL_drop]
    refine hd1_upd (g6 (i + 1 + n) (by omega)) h1 rfl fun e => ?_
    have := g3 _ _ (by omega) (by omega) e
    omega
  · rw [List.length_append, List.length_singleton] at hn
    by_cases q : n = U.length
    · rw [ro_appr (q.trans hM.symm), ro_appr (q.trans hM.symm), q, getD_appr, ← g2, gN_appr]
      exact ⟨ns, sg, g, kup_s _ _ _, hd _ _ h2 (show 1001 ≠ 6 by decide), h3, h4.dk hd (by decide) (by decide)⟩
    · rw [ro_appl (by omega), ro_appl (by omega), getD_appl (by omega), gN_appl (by omega)]
      exact hd1_upd (g7 n (by omega)) h1 rfl (hmy n (by omega))
theorem rv_drop {l : List Nat} {i : Nat} (h : i < l.length) : rv (l.drop i) = .ref (l.getD i 0) :: rv (l.drop (i + 1)) := by
  rw [List.drop_eq_getElem_cons h, rv, List.map_cons, List.getD_eq_getElem?_getD, List.getElem?_eq_getElem h]
  rfl
theorem tk1_lt {U W : List (List Int32)} {i : Nat} {p : List Int32 × List (List Int32)} (h : tk1 U (W.drop i) = some p) : i < W.length := Nat.lt_of_not_le fun q => by rw [tk1_end q] at h; cases h

theorem kEl6 {D : kh} {l : List Value} {y : Nat} {c : List Value} {fs : List Value} (h : kEl D 6 l) (hy : D y = some (.inr (6, fs))) : kEl (kup D y (.inr (6, c))) 6 l := fun v hv => by
  obtain ⟨z, fs2, e, h2⟩ := h v hv
  by_cases q : z = y
  · exact ⟨z, c, e, by rw [q]; exact kup_s _ _ _⟩
  · exact ⟨z, fs2, e, kup_i q h2⟩

theorem k_make {Λ : kL} {S : Nat → Nat} {G : Nat → kc} {D : kh} (hS : cInj S) (hJ : kJd Λ) (h4 : G 4 = oHs (S 45) (S 46)) {lw lm : List Nat} (h45 : G 45 = kLi (rv lw)) (h46 : G 46 = kLi (rv lm)) {W U M : List (List Int32)} (hH : cHs D lw lm W U M) (hM : M.length = U.length) (hW6 : W.length ≤ 60) (hU8 : U.length ≤ 800) {d : List Int32} {W1 : List (List Int32)} (htk : tk1 U W = some (d, W1)) {v : List Int32} (hO : tO S G 2 14 6200 v) (hv : v.length + 22 ≤ 6200) (kd k : Int32) : cCt Λ mX6_make 1 1700 S [.ref (S 4), .int kd, .int k, .ref (S 2)] G D (fun r G' D' => r = none ∧ ∃ y lw' f, tl f 0 (v ++ b64 d 22).length = v ++ b64 d 22 ∧ bts (v ++ b64 d 22) ∧ G' = gW S (updG (updG G 45 (kLi (rv lw'))) 46 (kLi (rv (lm ++ [y])))) 2 14 6200 f (v ++ b64 d 22).length ∧ dk 6 D D' ∧ cHs D' lw' (lm ++ [y]) W1 (U ++ [d]) (M ++ [[kd, k]])) := by
  refine cCt.of hS pn_X6 [some (.ref (S 4)), some (.int kd), some (.int k), some (.ref (S 2)), none, none, none] rfl (Nat.le_of_ble_eq_true rfl) fun X => ?_
  have hO9 := hO; obtain ⟨fo9, b1, b2, b3, b4, b5, b6⟩ := hO9
  have hlw := hH.1
  have hlm := hH.2.1
  have hrm := rv_len lm
  refine C.aload_nR dX6_make_0 rfl ?_
  refine C.getS (k9 := 4) (fs := [.ref (S 45), .ref (S 46)]) dX6_make_1 fl_X6_12 rfl h4 rfl ?_
  refine C.callLS0 (k9 := 45) [] dX6_make_4 mdJx4a65c_size_8abf5 imJx4a65c_size_8abf5 seJx4a65c_size_8abf5 rfl h45 lk_X6_21 rfl rfl rfl rfl (cCt.w0 (R := fun r => r = some (.int (nI (rv lw).length))) fun σ9 h9 => c_list_size (h9.at (k := 45) rfl h45)) ?_
  rintro _ G9 D9 ⟨rfl, e9, e8⟩
  have e9 := e9.symm; subst e9; have e8 := e8.symm; subst e8
  refine C.istore (L' := [some (.ref (S 4)), some (.int kd), some (.int k), some (.ref (S 2)), some (.int (nI (rv lw).length)), none, none]) dX6_make_7 (by decide) rfl rfl ?_
  rw [rv_len]
  refine C.iconst (v := 0) dX6_make_9 (by decide) ?_
  refine C.istore (L' := [some (.ref (S 4)), some (.int kd), some (.int k), some (.ref (S 2)), some (.int (nI lw.length)), some (.int 0), none]) dX6_make_10 (by decide) rfl rfl ?_
  have cut_12 : ∀ (k_12 : Nat) (i : Nat), (i ≤ lw.length) → (lw.length + 1 ≤ i + k_12) → (tk1 U (W.drop i) = some (d, W1)) → C Λ X mX6_make 1 1700 S (fun r G' D' => r = none ∧ ∃ y lw' f, tl f 0 (v ++ b64 d 22).length = v ++ b64 d 22 ∧ bts (v ++ b64 d 22) ∧ G' = gW S (updG (updG G 45 (kLi (rv lw'))) 46 (kLi (rv (lm ++ [y])))) 2 14 6200 f (v ++ b64 d 22).length ∧ dk 6 D D' ∧ cHs D' lw' (lm ++ [y]) W1 (U ++ [d]) (M ++ [[kd, k]])) 1 1700 (updG G 45 (kLi (rv (lw.drop i)))) D 12 [some (.ref (S 4)), some (.int kd), some (.int k), some (.ref (S 2)), some (.int (nI lw.length)), some (.int (nI i)), none] [] := by
    intro k_12
    induction k_12 with
    | zero => intro i h1 h2 ht; exact absurd h2 (by omega)
    | succ k_12 ih_12 =>
      intro i h1 h2 ht
      have lt_i := tk1_lt ht
      have lt_l : i < lw.length := by omega
      obtain ⟨ns, sg, g9, x1, x2, x3, x4⟩ := hH.2.2.2.2.2.1 i lt_i
      have hne9 : ¬ rv (lw.drop i) = [] := by rw [rv_drop lt_l]; exact List.cons_ne_nil _ _
      have hrd : (rv (lw.drop i)).length ≤ 100000 := by rw [rv_len, List.length_drop]; omega
      have hel9 : kEl D 6 (rv (lw.drop i)) := fun z hz => hH.elW z (by rw [rv] at hz ⊢; obtain ⟨q, hq, e⟩ := List.mem_map.mp hz; exact List.mem_map.mpr ⟨q, List.mem_of_mem_drop hq, e⟩)
      refine C.iload dX6_make_12 rfl ?_
      refine C.iload dX6_make_14 rfl ?_
      refine C.icmp_ge (tgt := 108) dX6_make_16 (by decide) (fun c_16 => absurd c_16 (nI_ge lt_l (by omega))) (fun c_16 => ?_)
      refine C.aload_nR dX6_make_19 rfl ?_
      refine C.getS (k9 := 4) (fs := [.ref (S 45), .ref (S 46)]) dX6_make_20 fl_X6_12 rfl h4 rfl ?_
      refine C.callLS0 (k9 := 45) [] dX6_make_23 mdJx4a65c_isEmpty_aae02 imJx4a65c_isEmpty_aae02 seJx4a65c_isEmpty_aae02 rfl rfl lk_X6_46 rfl rfl rfl rfl (cCt.w0 (R := fun r => r = some (.int (if (rv (lw.drop i)) = [] then 1 else 0))) fun σ9 h9 => c_list_isEmpty (h9.at (k := 45) rfl rfl) (by omega)) ?_
      rintro _ G9 D9 ⟨rfl, e9, e8⟩
      have e9 := e9.symm; subst e9; have e8 := e8.symm; subst e8
      refine C.if_ne (tgt := 108) dX6_make_26 (by decide) (fun c_26 => absurd c_26 (fun z => z (if_neg hne9))) (fun c_26 => ?_)
      refine C.aload_nR dX6_make_29 rfl ?_
      refine C.getS (k9 := 4) (fs := [.ref (S 45), .ref (S 46)]) dX6_make_30 fl_X6_12 rfl h4 rfl ?_
      refine C.iconst (v := 0) dX6_make_33 (by decide) ?_
      refine C.callLS0 (k9 := 45) [.int 0] dX6_make_34 mdJx4a65c_remove_915e3 imJx4a65c_remove_915e3 seJx4a65c_remove_915e3 rfl rfl lk_X6_50 rfl rfl rfl rfl (cCt.w1 (R := fun r => r = some (.ref (lw.getD i 0))) (i := 45) (c := kLi (rv (lw.drop (i + 1)))) hS (by decide) fun σ9 h9 => c_list_remove (h9.at (k := 45) rfl (show (updG G 45 (kLi (rv (lw.drop i)))) 45 = kLi (.ref (lw.getD i 0) :: rv (lw.drop (i + 1))) by rw [← rv_drop lt_l]; rfl)) kc_6 ca_6 ((by rw [← rv_drop lt_l]; exact hel9 : kEl D 6 (.ref (lw.getD i 0) :: rv (lw.drop (i + 1)))).mono h9.2.1)) ?_
      rintro _ _ D9 ⟨rfl, rfl, e8⟩; have e8 := e8.symm; subst e8
      rw [updG_up]
      refine C.castD dX6_make_37 cl_X6_25 cs_6 kc_6 x1 ?_
      refine C.astore (L' := [some (.ref (S 4)), some (.int kd), some (.int k), some (.ref (S 2)), some (.int (nI lw.length)), some (.int (nI i)), some (.ref (lw.getD i 0))]) dX6_make_40 (by decide) rfl rfl ?_
      refine C.aloadR dX6_make_42 rfl ?_
      refine C.aload_nR dX6_make_44 rfl ?_
      refine C.getS (k9 := 4) (fs := [.ref (S 45), .ref (S 46)]) dX6_make_45 fl_X6_18 rfl h4 rfl ?_
      refine C.aload_nR dX6_make_48 rfl ?_
      refine C.getS (k9 := 4) (fs := [.ref (S 45), .ref (S 46)]) dX6_make_49 fl_X6_18 rfl h4 rfl ?_
      refine C.callLS0 (k9 := 46) [] dX6_make_52 mdJx4a65c_size_8abf5 imJx4a65c_size_8abf5 seJx4a65c_size_8abf5 rfl h46 lk_X6_21 rfl rfl rfl rfl (cCt.w0 (R := fun r => r = some (.int (nI (rv lm).length))) fun σ9 h9 => c_list_size (h9.at (k := 46) rfl h46)) ?_
      rintro _ G9 D9 ⟨rfl, e9, e8⟩
      have e9 := e9.symm; subst e9; have e8 := e8.symm; subst e8
      rw [rv_len, hlm]
      refine C.callS0 [.ref (lw.getD i 0), .ref (S 46), .int (nI U.length)] dX6_make_55 mdX6_isAhead ssX6_isAhead lk_X6_38 rfl rfl rfl rfl (k_isAhead_46 hS (G := (updG G 45 (kLi (rv (lw.drop (i + 1)))))) (hH.2.2.2.2.2.1 i lt_i) h46 (T := U) hlm (by omega) (fun n hn => ⟨_, _, hH.2.2.2.2.2.2 n hn⟩) (e := U.length) (Nat.le_refl _)) ?_
      rintro _ G9 D9 ⟨rfl, e9, e8⟩
      have e9 := e9.symm; subst e9; have e8 := e8.symm; subst e8
      rw [List.take_length]
      refine C.if_ne (tgt := 102) dX6_make_58 (by decide) (fun c_58 => ?_) (fun c_58 => ?_)
      · skip
        have hinU : W.getD i [] ∈ U := of_decide_eq_true (bt1 c_58)
        refine C.iinc (v := nI (i + 1)) (L' := [some (.ref (S 4)), some (.int kd), some (.int k), some (.ref (S 2)), some (.int (nI lw.length)), some (.int (nI (i + 1))), some (.ref (lw.getD i 0))]) dX6_make_102 rfl (nI_1 i) (by decide) rfl rfl ?_
        refine C.goto (tgt := 12) dX6_make_105 (by decide) ?_
        refine C.drop (i := 6) (L' := [some (.ref (S 4)), some (.int kd), some (.int k), some (.ref (S 2)), some (.int (nI lw.length)), some (.int (nI (i + 1))), none]) rfl ?_
        exact ih_12 (i + 1) (by omega) (by omega) (by rw [← tk1_in lt_i hinU]; exact ht)
      · skip
        have hnU := of_decide_eq_false ((bI_eq0 _).mp c_58)
        have hout := tk1_out lt_i hnU
        have hpair := ht.symm.trans hout
        have ed : d = W.getD i [] := congrArg Prod.fst (Option.some.inj hpair)
        have eW : W1 = W.drop (i + 1) := congrArg Prod.snd (Option.some.inj hpair)
        have hd6 : dk 6 D (kup D (lw.getD i 0) (oHa ns sg kd k)) := dk.up (c0 := oHa ns sg (-1) (-1)) x1
        have x6 : tx (kup D (lw.getD i 0) (oHa ns sg kd k)) sg (b64 (W.getD i []) 22) := x4.dk hd6 (by decide) (by decide)
        refine C.aloadR dX6_make_61 rfl ?_
        refine C.iload_n dX6_make_63 rfl ?_
        refine C.putD (fs' := [.ref ns, .ref sg, .int kd, .int (-1)]) dX6_make_64 fp_X6_53 (fun h => by cases h) x1 rfl rfl (Nat.le_of_ble_eq_true rfl) rfl ?_
        have h_1 : (kup D (lw.getD i 0) (.inr (6, [.ref ns, .ref sg, .int kd, .int (-1)]))) (lw.getD i 0) = some (.inr (6, [.ref ns, .ref sg, .int kd, .int (-1)])) := kup_s _ _ _
        refine C.aloadR dX6_make_67 rfl ?_
        refine C.iload_n dX6_make_69 rfl ?_
        refine C.putD (fs' := [.ref ns, .ref sg, .int kd, .int k]) dX6_make_70 fp_X6_57 (fun h => by cases h) h_1 rfl rfl (Nat.le_of_ble_eq_true rfl) rfl ?_
        have h_2 : (kup (kup D (lw.getD i 0) (.inr (6, [.ref ns, .ref sg, .int kd, .int (-1)]))) (lw.getD i 0) (.inr (6, [.ref ns, .ref sg, .int kd, .int k]))) (lw.getD i 0) = some (.inr (6, [.ref ns, .ref sg, .int kd, .int k])) := kup_s _ _ _
        rw [kup_up]
        have y1 : (kup D (lw.getD i 0) (oHa ns sg kd k)) (lw.getD i 0) = some (oHa ns sg kd k) := kup_s _ _ _
        have x7 := x6; obtain ⟨r9, b9, c9, f9, z1, z2⟩ := x7
        refine C.aload_nR dX6_make_73 rfl ?_
        refine C.getS (k9 := 4) (fs := [.ref (S 45), .ref (S 46)]) dX6_make_74 fl_X6_18 rfl h4 rfl ?_
        refine C.aloadR dX6_make_77 rfl ?_
        refine C.less (bc' := 0 + 1) (bs' := (1700 - (2 * (rv lm).length + 10)) + (2 * (rv lm).length + 10)) (by omega) (by omega) ?_
        refine C.callLS (k9 := 46) [.ref (lw.getD i 0)] dX6_make_79 mdJx4a65c_add_9ea2d imJx4a65c_add_9ea2d seJx4a65c_add_9ea2d rfl h46 lk_X6_30 rfl rfl rfl rfl (cCt.w1 (R := fun r => r = some (.int 1)) (i := 46) hS (by decide) fun σ9 h9 => c_list_add (h9.at (k := 46) rfl h46) kc_6 ca_6 hJ ((kEl6 hH.elM x1).mono h9.2.1) (h9.2.1 _ _ y1) (by rw [rv_len]; omega)) ?_
        rintro _ _ D9 ⟨rfl, rfl, e8⟩
        have e8 := e8.symm; subst e8
        refine C.pop dX6_make_82 rfl ?_
        refine C.aload_nR dX6_make_83 rfl ?_
        refine C.aloadR dX6_make_84 rfl ?_
        refine C.getD dX6_make_86 fl_X6_60 y1 rfl ?_
        refine C.iconst (v := 0) dX6_make_89 (by decide) ?_
        refine C.aloadR dX6_make_90 rfl ?_
        refine C.getD dX6_make_92 fl_X6_60 y1 rfl ?_
        refine C.callVD0 [] dX6_make_95 mdX9_size imX9_size seX9_size kc_10 z1 lk_X6_64 rfl rfl rfl rfl (cCt.w0 (R := fun r => r = some (.int (nI (b64 (W.getD i []) 22).length))) fun σ9 h9 => v_size (x6.mono h9.2.1)) ?_
        rintro _ G9 D9 ⟨rfl, e9, e8⟩
        have e9 := e9.symm; subst e9; have e8 := e8.symm; subst e8
        have hct := o_addPart (Λ := Λ) (D := (kup D (lw.getD i 0) (oHa ns sg kd k))) hS (show tO S (updG (updG G 45 (kLi (rv (lw.drop (i + 1))))) 46 (kLi ((rv lm) ++ [.ref (lw.getD i 0)]))) 2 14 6200 v from hO) rfl rfl (x6.u (by decide) (by decide)) (g := 0) (m := (b64 (W.getD i []) 22).length) (by omega) (by rw [b64_len]; exact hv) (bts_b64 _ _)
        rw [List.drop_zero, List.take_length] at hct
        refine C.callVS0 (k9 := 2) [.ref sg, .int 0, .int (nI (b64 (W.getD i []) 22).length)] dX6_make_98 mdX9_addPart imX9_addPart seX9_addPart kc_10 rfl b1 lk_X6_67 rfl rfl rfl rfl hct ?_
        rintro _ _ D9 ⟨f9_3, h_f9_3, b_f9_3, rfl, rfl, e8⟩; have e8 := e8.symm; subst e8
        refine C.vret dX6_make_101 rfl ?_
        subst ed; subst eW
        refine ⟨rfl, (lw.getD i 0), lw.drop (i + 1), f9_3, h_f9_3, b_f9_3, ?_, dk.up (c0 := oHa ns sg (-1) (-1)) x1, cHs_move hH hM lt_i x1 x2 x3 x4⟩
        rw [rv_app]
  have t9 := cut_12 (lw.length + 1) 0 (by omega) (by omega) (by rw [List.drop_zero]; exact htk)
  rw [List.drop_zero, ← h45, updG_id] at t9
  exact t9
