/-! the class: pieces of a FORM, and a FORM -/
theorem gW_n {S : Nat → Nat} {G : Nat → kc} {k j cap n q : Nat} {f : Nat → Int32} (h1 : q ≠ k) (h2 : q ≠ j) : gW S G k j cap f n q = G q := by rw [gW, updG_n _ _ h1, updG_n _ _ h2]
theorem end_v {acc l : List Int32} {f : Nat → Int32} (h : tl f 0 (acc ++ l).length = acc ++ l) : tl f acc.length l.length = l := by
  have h9 := tl_dt (b := 0) (g := acc.length) (m := l.length) h (by rw [List.length_append]; omega)
  rw [Nat.zero_add, List.drop_left, List.take_length] at h9
  exact h9
theorem mid_v {acc l k : List Int32} {f : Nat → Int32} (h : tl f 0 ((acc ++ l) ++ k).length = (acc ++ l) ++ k) : tl f acc.length l.length = l := by
  have h9 := tl_dt (b := 0) (g := acc.length) (m := l.length) h (by rw [List.length_append, List.length_append]; omega)
  rw [Nat.zero_add, List.append_assoc, List.drop_left, List.take_left] at h9
  exact h9
theorem sub_len (a l : List Int32) : nI (a ++ l).length - nI a.length = nI l.length := by rw [List.length_append, nI_subl]
theorem bts_r {a l : List Int32} (h : bts (a ++ l)) : bts l := fun x hx => h x (List.mem_append.mpr (Or.inr hx))
theorem bts_l {a l : List Int32} (h : bts (a ++ l)) : bts a := fun x hx => h x (List.mem_append.mpr (Or.inl hx))
/-- what isn't the FORM's is as it was -/
def fFr (G G' : Nat → kc) : Prop := ∀ k, ¬ (15 ≤ k ∧ k < 44) → G' k = G k
theorem fFr.tr {G G' G'' : Nat → kc} (h : fFr G G') (h' : fFr G' G'') : fFr G G'' := fun k hk => (h' k hk).trans (h k hk)
def pcQ (Λ : kL) (S : Nat → Nat) (G : Nat → kc) (D : kh) (acc : List Int32) (m : Nat) (o : Option fvs) : Option Value → (Nat → kc) → kh → Prop := fun r G' D' => fFr G G' ∧ D' = D ∧ ((∃ g' acc', o = some g' ∧ r = some (.int 1) ∧ acc'.length ≤ acc.length + m ∧ ffG Λ S G' acc' g') ∨ (o = none ∧ r = some (.int 0) ∧ cF Λ S G'))

theorem k_readPiece {Λ : kL} {S : Nat → Nat} {G : Nat → kc} {D : kh} (hS : cInj S) (hSt : kSt Λ) (hK : cK S G) {v acc : List Int32} {g : fvs} (hT : tO S G 1 13 2000 v) (hFG : ffG Λ S G acc g) {p e : Nat} (hpe : p < e) (hev : e ≤ v.length) (hne : nhx v e) (hca : acc.length + (e - p) ≤ 2000) : cCt Λ mX4_readPiece 0 0 S [.ref (S 3), .ref (S 1), .int (nI p), .int (nI e)] G D (pcQ Λ S G D acc (e - p) (pieI (gD v) p e g)) := by
  refine cCt.of hS pn_X4 [some (.ref (S 3)), some (.ref (S 1)), some (.int (nI p)), some (.int (nI e)), none, none, none, none] rfl (Nat.le_of_ble_eq_true rfl) fun X => ?_
  have hT9 := hT; obtain ⟨ft9, t1, t2, t3, t4, t5, t6⟩ := hT9
  obtain ⟨hD, ⟨b17, n17, hn17, h17⟩, f0, f1, f2, f3, f4, f5, f6, f7, f8, f9, f10, f11, f12⟩ := hFG
  have hD9 := hD; obtain ⟨fd, d1, d2, d3, d4, d5, d6⟩ := hD9
  obtain ⟨to0, b0, n0, -, xv0, -⟩ := f0.cf d3
  obtain ⟨to1, b1, n1, -, xv1, -⟩ := f1.cf d3
  obtain ⟨to2, b2, n2, -, xv2, -⟩ := f2.cf d3
  obtain ⟨to3, b3, n3, -, xv3, -⟩ := f3.cf d3
  obtain ⟨to4, b4, n4, -, xv4, -⟩ := f4.cf d3
  obtain ⟨to5, b5, n5, -, xv5, -⟩ := f5.cf d3
  obtain ⟨to6, b6, n6, -, xv6, -⟩ := f6.cf d3
  obtain ⟨to7, b7, n7, -, xv7, -⟩ := f7.cf d3
  obtain ⟨to8, b8, n8, -, xv8, -⟩ := f8.cf d3
  obtain ⟨to9, b9, n9, -, xv9, -⟩ := f9.cf d3
  obtain ⟨to10, b10, n10, -, xv10, -⟩ := f10.cf d3
  obtain ⟨to11, b11, n11, -, xv11, -⟩ := f11.cf d3
  obtain ⟨to12, b12, n12, -, xv12, -⟩ := f12.cf d3
  have hqb := atI_ge (gD v) 61 (Nat.le_of_lt hpe)
  have hnq : nhx v (atI (gD v) 61 p e) := by
    by_cases hq : (atI (gD v) 61 p e) < e
    · exact Or.inr (Or.inr (atI_at (Nat.le_of_lt hpe) hq))
    · rw [show (atI (gD v) 61 p e) = e by omega]; exact hne
  refine C.aload_nR dX4_readPiece_0 rfl ?_
  refine C.bipush (v := 61) dX4_readPiece_1 (by decide) ?_
  refine C.iload_n dX4_readPiece_3 rfl ?_
  refine C.iload_n dX4_readPiece_4 rfl ?_
  refine C.callVS0 (k9 := 1) [.int 61, .int (nI p), .int (nI e)] dX4_readPiece_5 mdX9_indexOf imX9_indexOf seX9_indexOf kc_10 rfl t1 lk_X4_128 rfl rfl rfl rfl (cCt.w0 (R := fun r => r = some (.int (nI (atI (gD v) 61 p e)))) fun σ9 h9 => v_indexOf ((show tO S G 1 13 2000 v from hT).s.tx h9 rfl rfl) (c := 61) (by decide) (Nat.le_of_lt hpe) hev) ?_
  rintro _ G9 D9 ⟨rfl, e9, e8⟩
  have e9 := e9.symm; subst e9; have e8 := e8.symm; subst e8
  refine C.istore (L' := [some (.ref (S 3)), some (.ref (S 1)), some (.int (nI p)), some (.int (nI e)), some (.int (nI (atI (gD v) 61 p e))), none, none, none]) dX4_readPiece_8 (by decide) rfl rfl ?_
  refine C.aload_nR dX4_readPiece_10 rfl ?_
  refine C.getS (k9 := 3) (fs := [.ref (S 15), .ref (S 17), .ref (S 18), .ref (S 19), .ref (S 20), .ref (S 21), .ref (S 22), .ref (S 23), .ref (S 24), .ref (S 25), .ref (S 26), .ref (S 27), .ref (S 28), .ref (S 29), .ref (S 30), .ref (S 44)]) dX4_readPiece_11 fl_X4_14 rfl hK.1 rfl ?_
  refine C.callVS0 (k9 := 15) [] dX4_readPiece_14 mdX9_size imX9_size seX9_size kc_10 rfl d1 lk_X4_107 rfl rfl rfl rfl (cCt.w0 (R := fun r => r = some (.int (nI acc.length))) fun σ9 h9 => v_size ((show tO S G 15 16 2000 acc from hD).s.tx h9 rfl rfl)) ?_
  rintro _ G9 D9 ⟨rfl, e9, e8⟩
  have e9 := e9.symm; subst e9; have e8 := e8.symm; subst e8
  refine C.istore (L' := [some (.ref (S 3)), some (.ref (S 1)), some (.int (nI p)), some (.int (nI e)), some (.int (nI (atI (gD v) 61 p e))), some (.int (nI acc.length)), none, none]) dX4_readPiece_17 (by decide) rfl rfl ?_
  refine C.aload_nR dX4_readPiece_19 rfl ?_
  refine C.aload_nR dX4_readPiece_20 rfl ?_
  refine C.iload_n dX4_readPiece_21 rfl ?_
  refine C.iload dX4_readPiece_22 rfl ?_
  refine C.callVS0 (k9 := 3) [.ref (S 1), .int (nI p), .int (nI (atI (gD v) 61 p e))] dX4_readPiece_24 mdX4_decode imX4_decode seX4_decode kc_5 rfl hK.1 lk_X4_132 rfl rfl rfl rfl (k_decode hS (G := G) hK (v := v) (acc := acc) (show tO S G 1 13 2000 v from hT) (show tO S G 15 16 2000 acc from hD) (s9 := p) (en9 := (atI (gD v) 61 p e)) (by omega) (by omega) hnq (by first | omega | (rw [List.length_append]; omega))) ?_
  rintro _ _ D9 (⟨l1, hd1, rfl, g1, hg1, hb1, rfl, e8⟩ | ⟨hd1, rfl, g1, n9, hn9, rfl, e8⟩)
  · have e8 := e8.symm; subst e8
    have hl1 := decI_len (f := gD v) ((atI (gD v) 61 p e) - p) p (atI (gD v) 61 p e) l1 (Nat.le_refl _) hd1
    refine C.if_ne (tgt := 32) dX4_readPiece_27 (by decide) (fun c_27 => ?_) (fun c_27 => absurd c_27 (by decide))
    refine C.aload_nR dX4_readPiece_32 rfl ?_
    refine C.getS (k9 := 3) (fs := [.ref (S 15), .ref (S 17), .ref (S 18), .ref (S 19), .ref (S 20), .ref (S 21), .ref (S 22), .ref (S 23), .ref (S 24), .ref (S 25), .ref (S 26), .ref (S 27), .ref (S 28), .ref (S 29), .ref (S 30), .ref (S 44)]) dX4_readPiece_33 fl_X4_23 rfl hK.1 rfl ?_
    refine C.aload_nR dX4_readPiece_36 rfl ?_
    refine C.getS (k9 := 3) (fs := [.ref (S 15), .ref (S 17), .ref (S 18), .ref (S 19), .ref (S 20), .ref (S 21), .ref (S 22), .ref (S 23), .ref (S 24), .ref (S 25), .ref (S 26), .ref (S 27), .ref (S 28), .ref (S 29), .ref (S 30), .ref (S 44)]) dX4_readPiece_37 fl_X4_14 rfl hK.1 rfl ?_
    refine C.iload dX4_readPiece_40 rfl ?_
    refine C.callVS0 (k9 := 17) [.ref (S 15), .int (nI acc.length)] dX4_readPiece_42 mdX9_showEnd imX9_showEnd seX9_showEnd kc_10 rfl h17 lk_X4_135 rfl rfl rfl rfl (cCt.w1 (R := fun r => r = none) (i := 17) hS (by decide) fun σ9 h9 => c_Text_showEnd (h9.at (k := 17) rfl h17) (h9.at (k := 15) rfl rfl) (fun z => absurd (hS 15 17 (by decide) (by decide) z) (by decide)) (nI acc.length)) ?_
    rintro _ _ D9 ⟨rfl, rfl, e8⟩; have e8 := e8.symm; subst e8
    rw [sub_len acc l1]
    refine C.aload_nR dX4_readPiece_45 rfl ?_
    refine C.getS (k9 := 3) (fs := [.ref (S 15), .ref (S 17), .ref (S 18), .ref (S 19), .ref (S 20), .ref (S 21), .ref (S 22), .ref (S 23), .ref (S 24), .ref (S 25), .ref (S 26), .ref (S 27), .ref (S 28), .ref (S 29), .ref (S 30), .ref (S 44)]) dX4_readPiece_46 fl_X4_14 rfl hK.1 rfl ?_
    refine C.callVS0 (k9 := 15) [] dX4_readPiece_49 mdX9_size imX9_size seX9_size kc_10 rfl rfl lk_X4_107 rfl rfl rfl rfl (cCt.w0 (R := fun r => r = some (.int (nI (acc ++ l1).length))) fun σ9 h9 => v_size ((show tO S (updG (gW S G 15 16 2000 g1 (acc ++ l1).length) 17 (.inr (10, [.ref (S 16), .int (nI acc.length), .int (nI l1.length)]))) 15 16 2000 (acc ++ l1) from ⟨g1, rfl, rfl, by first | omega | (rw [List.length_append]; omega), by decide, hg1, hb1⟩).s.tx h9 rfl rfl)) ?_
    rintro _ G9 D9 ⟨rfl, e9, e8⟩
    have e9 := e9.symm; subst e9; have e8 := e8.symm; subst e8
    refine C.istore (L' := [some (.ref (S 3)), some (.ref (S 1)), some (.int (nI p)), some (.int (nI e)), some (.int (nI (atI (gD v) 61 p e))), some (.int (nI acc.length)), some (.int (nI (acc ++ l1).length)), none]) dX4_readPiece_52 (by decide) rfl rfl ?_
    refine C.aload_nR dX4_readPiece_54 rfl ?_
    refine C.aload_nR dX4_readPiece_55 rfl ?_
    refine C.iload dX4_readPiece_56 rfl ?_
    refine C.iconst (v := 1) dX4_readPiece_58 (by decide) ?_
    refine C.iadd dX4_readPiece_59 ?_
    rw [show (nI (atI (gD v) 61 p e)) + 1 = nI ((atI (gD v) 61 p e) + 1) from nI_1 _]
    refine C.iload_n dX4_readPiece_60 rfl ?_
    refine C.callVS0 (k9 := 3) [.ref (S 1), .int (nI ((atI (gD v) 61 p e) + 1)), .int (nI e)] dX4_readPiece_61 mdX4_decode imX4_decode seX4_decode kc_5 rfl hK.1 lk_X4_132 rfl rfl rfl rfl (k_decode hS (G := (updG (gW S G 15 16 2000 g1 (acc ++ l1).length) 17 (.inr (10, [.ref (S 16), .int (nI acc.length), .int (nI l1.length)])))) hK (v := v) (acc := (acc ++ l1)) (show tO S (updG (gW S G 15 16 2000 g1 (acc ++ l1).length) 17 (.inr (10, [.ref (S 16), .int (nI acc.length), .int (nI l1.length)]))) 1 13 2000 v from hT) (show tO S (updG (gW S G 15 16 2000 g1 (acc ++ l1).length) 17 (.inr (10, [.ref (S 16), .int (nI acc.length), .int (nI l1.length)]))) 15 16 2000 (acc ++ l1) from ⟨g1, rfl, rfl, by first | omega | (rw [List.length_append]; omega), by decide, hg1, hb1⟩) (s9 := ((atI (gD v) 61 p e) + 1)) (en9 := e) (by omega) (by omega) hne (by first | omega | (rw [List.length_append]; omega))) ?_
    rintro _ _ D9 (⟨l2, hd2, rfl, g2, hg2, hb2, rfl, e8⟩ | ⟨hd2, rfl, g2, n9, hn9, rfl, e8⟩)
    · have e8 := e8.symm; subst e8
      have hl2 := decI_len (f := gD v) (e - ((atI (gD v) 61 p e) + 1)) ((atI (gD v) 61 p e) + 1) e l2 (Nat.le_refl _) hd2
      have hA2 : ((acc ++ l1) ++ l2).length ≤ acc.length + (e - p) := by rw [List.length_append, List.length_append]; omega
      refine C.if_ne (tgt := 69) dX4_readPiece_64 (by decide) (fun c_64 => ?_) (fun c_64 => absurd c_64 (by decide))
      refine C.aload_nR dX4_readPiece_69 rfl ?_
      refine C.aload_nR dX4_readPiece_70 rfl ?_
      refine C.getS (k9 := 3) (fs := [.ref (S 15), .ref (S 17), .ref (S 18), .ref (S 19), .ref (S 20), .ref (S 21), .ref (S 22), .ref (S 23), .ref (S 24), .ref (S 25), .ref (S 26), .ref (S 27), .ref (S 28), .ref (S 29), .ref (S 30), .ref (S 44)]) dX4_readPiece_71 fl_X4_23 rfl hK.1 rfl ?_
      have hN9 : tS S (gW S (updG (gW S G 15 16 2000 g1 (acc ++ l1).length) 17 (.inr (10, [.ref (S 16), .int (nI acc.length), .int (nI l1.length)]))) 15 16 2000 g2 ((acc ++ l1) ++ l2).length) 17 16 2000 l1 := ⟨acc.length, g2, rfl, rfl, by rw [List.length_append, List.length_append] at hA2; omega, by decide, mid_v hg2, bts_r hb1⟩
      refine C.callVS0 (k9 := 3) [.ref (S 17)] dX4_readPiece_74 mdX4_fieldOf imX4_fieldOf seX4_fieldOf kc_5 rfl hK.1 lk_X4_139 rfl rfl rfl rfl (k_fieldOf hS hSt (G := (gW S (updG (gW S G 15 16 2000 g1 (acc ++ l1).length) 17 (.inr (10, [.ref (S 16), .int (nI acc.length), .int (nI l1.length)]))) 15 16 2000 g2 ((acc ++ l1) ++ l2).length)) hK hN9 f0.1 f1.1 f2.1 f3.1 f4.1 f5.1 f6.1 f7.1 f8.1 f9.1 f10.1 f11.1 f12.1) ?_
      rintro _ G9 D9 (⟨hkn, rfl, e9, e8⟩ | ⟨hkn, rfl, e9, e8⟩ | ⟨hkn, rfl, e9, e8⟩ | ⟨hkn, rfl, e9, e8⟩ | ⟨hkn, rfl, e9, e8⟩ | ⟨hkn, rfl, e9, e8⟩ | ⟨hkn, rfl, e9, e8⟩ | ⟨hkn, rfl, e9, e8⟩ | ⟨hkn, rfl, e9, e8⟩ | ⟨hkn, rfl, e9, e8⟩ | ⟨hkn, rfl, e9, e8⟩ | ⟨hkn, rfl, e9, e8⟩ | ⟨hkn, rfl, e9, e8⟩ | ⟨hkn, rfl, e9, e8⟩)
      · have e9 := e9.symm; subst e9; have e8 := e8.symm; subst e8
        refine C.astoreN (L' := [some (.ref (S 3)), some (.ref (S 1)), some (.int (nI p)), some (.int (nI e)), some (.int (nI (atI (gD v) 61 p e))), some (.int (nI acc.length)), some (.int (nI (acc ++ l1).length)), some (.null)]) dX4_readPiece_77 (by decide) rfl rfl ?_
        refine C.aloadN dX4_readPiece_79 rfl ?_
        refine C.ifnonnullN dX4_readPiece_81 ?_
        refine C.iconst (v := 1) dX4_readPiece_84 (by decide) ?_
        refine C.zret dX4_readPiece_85 rfl rfl ?_
        have hpi : pieI (gD v) p e g = some g := by rw [pieI, hd1, hd2]; exact if_pos hkn
        exact ⟨(fun k hk => by rw [gW_n (show k ≠ 15 by omega) (show k ≠ 16 by omega), updG_n _ _ (show k ≠ 17 by omega), gW_n (show k ≠ 15 by omega) (show k ≠ 16 by omega)]), rfl, Or.inl ⟨g, ((acc ++ l1) ++ l2), hpi, rfl, hA2, (tO.gW (by decide) (by omega) (by decide) hg2 hb2), ⟨acc.length, l1.length, by omega, rfl⟩, (f0.grow (l := l1) rfl rfl).grow rfl rfl, (f1.grow (l := l1) rfl rfl).grow rfl rfl, (f2.grow (l := l1) rfl rfl).grow rfl rfl, (f3.grow (l := l1) rfl rfl).grow rfl rfl, (f4.grow (l := l1) rfl rfl).grow rfl rfl, (f5.grow (l := l1) rfl rfl).grow rfl rfl, (f6.grow (l := l1) rfl rfl).grow rfl rfl, (f7.grow (l := l1) rfl rfl).grow rfl rfl, (f8.grow (l := l1) rfl rfl).grow rfl rfl, (f9.grow (l := l1) rfl rfl).grow rfl rfl, (f10.grow (l := l1) rfl rfl).grow rfl rfl, (f11.grow (l := l1) rfl rfl).grow rfl rfl, (f12.grow (l := l1) rfl rfl).grow rfl rfl⟩⟩
      · have e9 := e9.symm; subst e9; have e8 := e8.symm; subst e8
        refine C.astore (L' := [some (.ref (S 3)), some (.ref (S 1)), some (.int (nI p)), some (.int (nI e)), some (.int (nI (atI (gD v) 61 p e))), some (.int (nI acc.length)), some (.int (nI (acc ++ l1).length)), some (.ref (S 18))]) dX4_readPiece_77 (by decide) rfl rfl ?_
        refine C.aloadR dX4_readPiece_79 rfl ?_
        refine C.ifnonnullR (tgt := 86) dX4_readPiece_81 (by decide) ?_
        refine C.aloadR dX4_readPiece_86 rfl ?_
        refine C.getS (k9 := 18) (fs := [.ref (kSa Λ RX4 28), .ref (S 31), .int (bI (g 0).isSome)]) dX4_readPiece_88 fl_X4_143 rfl f0.1 rfl ?_
        refine C.if_eq (tgt := 96) dX4_readPiece_91 (by decide) (fun c_91 => ?_) (fun c_91 => ?_)
        · skip
          refine C.aloadR dX4_readPiece_96 rfl ?_
          refine C.iconst (v := 1) dX4_readPiece_98 (by decide) ?_
          refine C.putS (k9 := 18) (fs := [.ref (kSa Λ RX4 28), .ref (S 31), .int (bI (g 0).isSome)]) (fs' := [.ref (kSa Λ RX4 28), .ref (S 31), .int 1]) dX4_readPiece_99 fp_X4_143 (fun h => by cases h) rfl f0.1 rfl rfl (Nat.le_of_ble_eq_true rfl) rfl ?_
          refine C.aloadR dX4_readPiece_102 rfl ?_
          refine C.getS (k9 := 18) (fs := [.ref (kSa Λ RX4 28), .ref (S 31), .int 1]) dX4_readPiece_104 fl_X4_147 rfl rfl rfl ?_
          refine C.aload_nR dX4_readPiece_107 rfl ?_
          refine C.getS (k9 := 3) (fs := [.ref (S 15), .ref (S 17), .ref (S 18), .ref (S 19), .ref (S 20), .ref (S 21), .ref (S 22), .ref (S 23), .ref (S 24), .ref (S 25), .ref (S 26), .ref (S 27), .ref (S 28), .ref (S 29), .ref (S 30), .ref (S 44)]) dX4_readPiece_108 fl_X4_14 rfl hK.1 rfl ?_
          refine C.iload dX4_readPiece_111 rfl ?_
          refine C.callVS0 (k9 := 31) [.ref (S 15), .int (nI (acc ++ l1).length)] dX4_readPiece_113 mdX9_showEnd imX9_showEnd seX9_showEnd kc_10 rfl xv0 lk_X4_135 rfl rfl rfl rfl (cCt.w1 (R := fun r => r = none) (i := 31) hS (by decide) fun σ9 h9 => c_Text_showEnd (h9.at (k := 31) rfl xv0) (h9.at (k := 15) rfl rfl) (fun z => absurd (hS 15 31 (by decide) (by decide) z) (by decide)) (nI (acc ++ l1).length)) ?_
          rintro _ _ D9 ⟨rfl, rfl, e8⟩; have e8 := e8.symm; subst e8
          rw [sub_len (acc ++ l1) l2]
          refine C.iconst (v := 1) dX4_readPiece_116 (by decide) ?_
          refine C.zret dX4_readPiece_117 rfl rfl ?_
          have hpi : pieI (gD v) p e g = some (updO g 0 l2) := by rw [pieI, hd1, hd2]; show (if knw l1 = 13 then _ else _) = _; rw [hkn, if_neg (by decide), (bI_eq0 _).mp c_91, if_neg (by decide)]
          have hto : tO S (updG (updG (gW S (updG (gW S G 15 16 2000 g1 (acc ++ l1).length) 17 (.inr (10, [.ref (S 16), .int (nI acc.length), .int (nI l1.length)]))) 15 16 2000 g2 ((acc ++ l1) ++ l2).length) 18 (.inr (4, [.ref (kSa Λ RX4 28), .ref (S 31), .int 1]))) 31 (.inr (10, [.ref (S 16), .int (nI (acc ++ l1).length), .int (nI l2.length)]))) 15 16 2000 ((acc ++ l1) ++ l2) := ⟨g2, rfl, rfl, by omega, by decide, hg2, hb2⟩
          exact ⟨(fun k hk => by rw [updG_n _ _ (show k ≠ 31 by omega), updG_n _ _ (show k ≠ 18 by omega), gW_n (show k ≠ 15 by omega) (show k ≠ 16 by omega), updG_n _ _ (show k ≠ 17 by omega), gW_n (show k ≠ 15 by omega) (show k ≠ 16 by omega)]), rfl, Or.inl ⟨updO g 0 l2, ((acc ++ l1) ++ l2), hpi, rfl, hA2, hto, ⟨acc.length, l1.length, by omega, rfl⟩, ⟨rfl, (acc ++ l1).length, by rw [List.length_append (as := (acc ++ l1))]; exact Nat.le_refl _, rfl, by rw [List.drop_left, List.take_length], bts_r hb2⟩, (f1.grow (l := l1) rfl rfl).grow rfl rfl, (f2.grow (l := l1) rfl rfl).grow rfl rfl, (f3.grow (l := l1) rfl rfl).grow rfl rfl, (f4.grow (l := l1) rfl rfl).grow rfl rfl, (f5.grow (l := l1) rfl rfl).grow rfl rfl, (f6.grow (l := l1) rfl rfl).grow rfl rfl, (f7.grow (l := l1) rfl rfl).grow rfl rfl, (f8.grow (l := l1) rfl rfl).grow rfl rfl, (f9.grow (l := l1) rfl rfl).grow rfl rfl, (f10.grow (l := l1) rfl rfl).grow rfl rfl, (f11.grow (l := l1) rfl rfl).grow rfl rfl, (f12.grow (l := l1) rfl rfl).grow rfl rfl⟩⟩
        · skip
          refine C.iconst (v := 0) dX4_readPiece_94 (by decide) ?_
          refine C.zret dX4_readPiece_95 rfl rfl ?_
          have hpi : pieI (gD v) p e g = none := by rw [pieI, hd1, hd2]; show (if knw l1 = 13 then _ else _) = _; rw [hkn, if_neg (by decide), if_pos (bt1 c_91)]
          exact ⟨(fun k hk => by rw [gW_n (show k ≠ 15 by omega) (show k ≠ 16 by omega), updG_n _ _ (show k ≠ 17 by omega), gW_n (show k ≠ 15 by omega) (show k ≠ 16 by omega)]), rfl, Or.inr ⟨hpi, rfl, ⟨g2, rfl⟩, ⟨((acc ++ l1) ++ l2).length, by omega, rfl⟩, ⟨acc.length, l1.length, by omega, rfl⟩, f0.cf d3, f1.cf d3, f2.cf d3, f3.cf d3, f4.cf d3, f5.cf d3, f6.cf d3, f7.cf d3, f8.cf d3, f9.cf d3, f10.cf d3, f11.cf d3, f12.cf d3⟩⟩
      · have e9 := e9.symm; subst e9; have e8 := e8.symm; subst e8
        refine C.astore (L' := [some (.ref (S 3)), some (.ref (S 1)), some (.int (nI p)), some (.int (nI e)), some (.int (nI (atI (gD v) 61 p e))), some (.int (nI acc.length)), some (.int (nI (acc ++ l1).length)), some (.ref (S 19))]) dX4_readPiece_77 (by decide) rfl rfl ?_
        refine C.aloadR dX4_readPiece_79 rfl ?_
        refine C.ifnonnullR (tgt := 86) dX4_readPiece_81 (by decide) ?_
        refine C.aloadR dX4_readPiece_86 rfl ?_
        refine C.getS (k9 := 19) (fs := [.ref (kSa Λ RX4 37), .ref (S 32), .int (bI (g 1).isSome)]) dX4_readPiece_88 fl_X4_143 rfl f1.1 rfl ?_
        refine C.if_eq (tgt := 96) dX4_readPiece_91 (by decide) (fun c_91 => ?_) (fun c_91 => ?_)
        · skip
          refine C.aloadR dX4_readPiece_96 rfl ?_
          refine C.iconst (v := 1) dX4_readPiece_98 (by decide) ?_
          refine C.putS (k9 := 19) (fs := [.ref (kSa Λ RX4 37), .ref (S 32), .int (bI (g 1).isSome)]) (fs' := [.ref (kSa Λ RX4 37), .ref (S 32), .int 1]) dX4_readPiece_99 fp_X4_143 (fun h => by cases h) rfl f1.1 rfl rfl (Nat.le_of_ble_eq_true rfl) rfl ?_
          refine C.aloadR dX4_readPiece_102 rfl ?_
          refine C.getS (k9 := 19) (fs := [.ref (kSa Λ RX4 37), .ref (S 32), .int 1]) dX4_readPiece_104 fl_X4_147 rfl rfl rfl ?_
          refine C.aload_nR dX4_readPiece_107 rfl ?_
          refine C.getS (k9 := 3) (fs := [.ref (S 15), .ref (S 17), .ref (S 18), .ref (S 19), .ref (S 20), .ref (S 21), .ref (S 22), .ref (S 23), .ref (S 24), .ref (S 25), .ref (S 26), .ref (S 27), .ref (S 28), .ref (S 29), .ref (S 30), .ref (S 44)]) dX4_readPiece_108 fl_X4_14 rfl hK.1 rfl ?_
          refine C.iload dX4_readPiece_111 rfl ?_
          refine C.callVS0 (k9 := 32) [.ref (S 15), .int (nI (acc ++ l1).length)] dX4_readPiece_113 mdX9_showEnd imX9_showEnd seX9_showEnd kc_10 rfl xv1 lk_X4_135 rfl rfl rfl rfl (cCt.w1 (R := fun r => r = none) (i := 32) hS (by decide) fun σ9 h9 => c_Text_showEnd (h9.at (k := 32) rfl xv1) (h9.at (k := 15) rfl rfl) (fun z => absurd (hS 15 32 (by decide) (by decide) z) (by decide)) (nI (acc ++ l1).length)) ?_
          rintro _ _ D9 ⟨rfl, rfl, e8⟩; have e8 := e8.symm; subst e8
          rw [sub_len (acc ++ l1) l2]
          refine C.iconst (v := 1) dX4_readPiece_116 (by decide) ?_
          refine C.zret dX4_readPiece_117 rfl rfl ?_
          have hpi : pieI (gD v) p e g = some (updO g 1 l2) := by rw [pieI, hd1, hd2]; show (if knw l1 = 13 then _ else _) = _; rw [hkn, if_neg (by decide), (bI_eq0 _).mp c_91, if_neg (by decide)]
          have hto : tO S (updG (updG (gW S (updG (gW S G 15 16 2000 g1 (acc ++ l1).length) 17 (.inr (10, [.ref (S 16), .int (nI acc.length), .int (nI l1.length)]))) 15 16 2000 g2 ((acc ++ l1) ++ l2).length) 19 (.inr (4, [.ref (kSa Λ RX4 37), .ref (S 32), .int 1]))) 32 (.inr (10, [.ref (S 16), .int (nI (acc ++ l1).length), .int (nI l2.length)]))) 15 16 2000 ((acc ++ l1) ++ l2) := ⟨g2, rfl, rfl, by omega, by decide, hg2, hb2⟩
          exact ⟨(fun k hk => by rw [updG_n _ _ (show k ≠ 32 by omega), updG_n _ _ (show k ≠ 19 by omega), gW_n (show k ≠ 15 by omega) (show k ≠ 16 by omega), updG_n _ _ (show k ≠ 17 by omega), gW_n (show k ≠ 15 by omega) (show k ≠ 16 by omega)]), rfl, Or.inl ⟨updO g 1 l2, ((acc ++ l1) ++ l2), hpi, rfl, hA2, hto, ⟨acc.length, l1.length, by omega, rfl⟩, (f0.grow (l := l1) rfl rfl).grow rfl rfl, ⟨rfl, (acc ++ l1).length, by rw [List.length_append (as := (acc ++ l1))]; exact Nat.le_refl _, rfl, by rw [List.drop_left, List.take_length], bts_r hb2⟩, (f2.grow (l := l1) rfl rfl).grow rfl rfl, (f3.grow (l := l1) rfl rfl).grow rfl rfl, (f4.grow (l := l1) rfl rfl).grow rfl rfl, (f5.grow (l := l1) rfl rfl).grow rfl rfl, (f6.grow (l := l1) rfl rfl).grow rfl rfl, (f7.grow (l := l1) rfl rfl).grow rfl rfl, (f8.grow (l := l1) rfl rfl).grow rfl rfl, (f9.grow (l := l1) rfl rfl).grow rfl rfl, (f10.grow (l := l1) rfl rfl).grow rfl rfl, (f11.grow (l := l1) rfl rfl).grow rfl rfl, (f12.grow (l := l1) rfl rfl).grow rfl rfl⟩⟩
        · skip
          refine C.iconst (v := 0) dX4_readPiece_94 (by decide) ?_
          refine C.zret dX4_readPiece_95 rfl rfl ?_
          have hpi : pieI (gD v) p e g = none := by rw [pieI, hd1, hd2]; show (if knw l1 = 13 then _ else _) = _; rw [hkn, if_neg (by decide), if_pos (bt1 c_91)]
          exact ⟨(fun k hk => by rw [gW_n (show k ≠ 15 by omega) (show k ≠ 16 by omega), updG_n _ _ (show k ≠ 17 by omega), gW_n (show k ≠ 15 by omega) (show k ≠ 16 by omega)]), rfl, Or.inr ⟨hpi, rfl, ⟨g2, rfl⟩, ⟨((acc ++ l1) ++ l2).length, by omega, rfl⟩, ⟨acc.length, l1.length, by omega, rfl⟩, f0.cf d3, f1.cf d3, f2.cf d3, f3.cf d3, f4.cf d3, f5.cf d3, f6.cf d3, f7.cf d3, f8.cf d3, f9.cf d3, f10.cf d3, f11.cf d3, f12.cf d3⟩⟩
      · have e9 := e9.symm; subst e9; have e8 := e8.symm; subst e8
        refine C.astore (L' := [some (.ref (S 3)), some (.ref (S 1)), some (.int (nI p)), some (.int (nI e)), some (.int (nI (atI (gD v) 61 p e))), some (.int (nI acc.length)), some (.int (nI (acc ++ l1).length)), some (.ref (S 20))]) dX4_readPiece_77 (by decide) rfl rfl ?_
        refine C.aloadR dX4_readPiece_79 rfl ?_
        refine C.ifnonnullR (tgt := 86) dX4_readPiece_81 (by decide) ?_
        refine C.aloadR dX4_readPiece_86 rfl ?_
        refine C.getS (k9 := 20) (fs := [.ref (kSa Λ RX4 42), .ref (S 33), .int (bI (g 2).isSome)]) dX4_readPiece_88 fl_X4_143 rfl f2.1 rfl ?_
        refine C.if_eq (tgt := 96) dX4_readPiece_91 (by decide) (fun c_91 => ?_) (fun c_91 => ?_)
        · skip
          refine C.aloadR dX4_readPiece_96 rfl ?_
          refine C.iconst (v := 1) dX4_readPiece_98 (by decide) ?_
          refine C.putS (k9 := 20) (fs := [.ref (kSa Λ RX4 42), .ref (S 33), .int (bI (g 2).isSome)]) (fs' := [.ref (kSa Λ RX4 42), .ref (S 33), .int 1]) dX4_readPiece_99 fp_X4_143 (fun h => by cases h) rfl f2.1 rfl rfl (Nat.le_of_ble_eq_true rfl) rfl ?_
          refine C.aloadR dX4_readPiece_102 rfl ?_
          refine C.getS (k9 := 20) (fs := [.ref (kSa Λ RX4 42), .ref (S 33), .int 1]) dX4_readPiece_104 fl_X4_147 rfl rfl rfl ?_
          refine C.aload_nR dX4_readPiece_107 rfl ?_
          refine C.getS (k9 := 3) (fs := [.ref (S 15), .ref (S 17), .ref (S 18), .ref (S 19), .ref (S 20), .ref (S 21), .ref (S 22), .ref (S 23), .ref (S 24), .ref (S 25), .ref (S 26), .ref (S 27), .ref (S 28), .ref (S 29), .ref (S 30), .ref (S 44)]) dX4_readPiece_108 fl_X4_14 rfl hK.1 rfl ?_
          refine C.iload dX4_readPiece_111 rfl ?_
          refine C.callVS0 (k9 := 33) [.ref (S 15), .int (nI (acc ++ l1).length)] dX4_readPiece_113 mdX9_showEnd imX9_showEnd seX9_showEnd kc_10 rfl xv2 lk_X4_135 rfl rfl rfl rfl (cCt.w1 (R := fun r => r = none) (i := 33) hS (by decide) fun σ9 h9 => c_Text_showEnd (h9.at (k := 33) rfl xv2) (h9.at (k := 15) rfl rfl) (fun z => absurd (hS 15 33 (by decide) (by decide) z) (by decide)) (nI (acc ++ l1).length)) ?_
          rintro _ _ D9 ⟨rfl, rfl, e8⟩; have e8 := e8.symm; subst e8
          rw [sub_len (acc ++ l1) l2]
          refine C.iconst (v := 1) dX4_readPiece_116 (by decide) ?_
          refine C.zret dX4_readPiece_117 rfl rfl ?_
          have hpi : pieI (gD v) p e g = some (updO g 2 l2) := by rw [pieI, hd1, hd2]; show (if knw l1 = 13 then _ else _) = _; rw [hkn, if_neg (by decide), (bI_eq0 _).mp c_91, if_neg (by decide)]
          have hto : tO S (updG (updG (gW S (updG (gW S G 15 16 2000 g1 (acc ++ l1).length) 17 (.inr (10, [.ref (S 16), .int (nI acc.length), .int (nI l1.length)]))) 15 16 2000 g2 ((acc ++ l1) ++ l2).length) 20 (.inr (4, [.ref (kSa Λ RX4 42), .ref (S 33), .int 1]))) 33 (.inr (10, [.ref (S 16), .int (nI (acc ++ l1).length), .int (nI l2.length)]))) 15 16 2000 ((acc ++ l1) ++ l2) := ⟨g2, rfl, rfl, by omega, by decide, hg2, hb2⟩
          exact ⟨(fun k hk => by rw [updG_n _ _ (show k ≠ 33 by omega), updG_n _ _ (show k ≠ 20 by omega), gW_n (show k ≠ 15 by omega) (show k ≠ 16 by omega), updG_n _ _ (show k ≠ 17 by omega), gW_n (show k ≠ 15 by omega) (show k ≠ 16 by omega)]), rfl, Or.inl ⟨updO g 2 l2, ((acc ++ l1) ++ l2), hpi, rfl, hA2, hto, ⟨acc.length, l1.length, by omega, rfl⟩, (f0.grow (l := l1) rfl rfl).grow rfl rfl, (f1.grow (l := l1) rfl rfl).grow rfl rfl, ⟨rfl, (acc ++ l1).length, by rw [List.length_append (as := (acc ++ l1))]; exact Nat.le_refl _, rfl, by rw [List.drop_left, List.take_length], bts_r hb2⟩, (f3.grow (l := l1) rfl rfl).grow rfl rfl, (f4.grow (l := l1) rfl rfl).grow rfl rfl, (f5.grow (l := l1) rfl rfl).grow rfl rfl, (f6.grow (l := l1) rfl rfl).grow rfl rfl, (f7.grow (l := l1) rfl rfl).grow rfl rfl, (f8.grow (l := l1) rfl rfl).grow rfl rfl, (f9.grow (l := l1) rfl rfl).grow rfl rfl, (f10.grow (l := l1) rfl rfl).grow rfl rfl, (f11.grow (l := l1) rfl rfl).grow rfl rfl, (f12.grow (l := l1) rfl rfl).grow rfl rfl⟩⟩
        · skip
          refine C.iconst (v := 0) dX4_readPiece_94 (by decide) ?_
          refine C.zret dX4_readPiece_95 rfl rfl ?_
          have hpi : pieI (gD v) p e g = none := by rw [pieI, hd1, hd2]; show (if knw l1 = 13 then _ else _) = _; rw [hkn, if_neg (by decide), if_pos (bt1 c_91)]
          exact ⟨(fun k hk => by rw [gW_n (show k ≠ 15 by omega) (show k ≠ 16 by omega), updG_n _ _ (show k ≠ 17 by omega), gW_n (show k ≠ 15 by omega) (show k ≠ 16 by omega)]), rfl, Or.inr ⟨hpi, rfl, ⟨g2, rfl⟩, ⟨((acc ++ l1) ++ l2).length, by omega, rfl⟩, ⟨acc.length, l1.length, by omega, rfl⟩, f0.cf d3, f1.cf d3, f2.cf d3, f3.cf d3, f4.cf d3, f5.cf d3, f6.cf d3, f7.cf d3, f8.cf d3, f9.cf d3, f10.cf d3, f11.cf d3, f12.cf d3⟩⟩
      · have e9 := e9.symm; subst e9; have e8 := e8.symm; subst e8
        refine C.astore (L' := [some (.ref (S 3)), some (.ref (S 1)), some (.int (nI p)), some (.int (nI e)), some (.int (nI (atI (gD v) 61 p e))), some (.int (nI acc.length)), some (.int (nI (acc ++ l1).length)), some (.ref (S 21))]) dX4_readPiece_77 (by decide) rfl rfl ?_
        refine C.aloadR dX4_readPiece_79 rfl ?_
        refine C.ifnonnullR (tgt := 86) dX4_readPiece_81 (by decide) ?_
        refine C.aloadR dX4_readPiece_86 rfl ?_
        refine C.getS (k9 := 21) (fs := [.ref (kSa Λ RX4 47), .ref (S 34), .int (bI (g 3).isSome)]) dX4_readPiece_88 fl_X4_143 rfl f3.1 rfl ?_
        refine C.if_eq (tgt := 96) dX4_readPiece_91 (by decide) (fun c_91 => ?_) (fun c_91 => ?_)
        · skip
          refine C.aloadR dX4_readPiece_96 rfl ?_
          refine C.iconst (v := 1) dX4_readPiece_98 (by decide) ?_
          refine C.putS (k9 := 21) (fs := [.ref (kSa Λ RX4 47), .ref (S 34), .int (bI (g 3).isSome)]) (fs' := [.ref (kSa Λ RX4 47), .ref (S 34), .int 1]) dX4_readPiece_99 fp_X4_143 (fun h => by cases h) rfl f3.1 rfl rfl (Nat.le_of_ble_eq_true rfl) rfl ?_
          refine C.aloadR dX4_readPiece_102 rfl ?_
          refine C.getS (k9 := 21) (fs := [.ref (kSa Λ RX4 47), .ref (S 34), .int 1]) dX4_readPiece_104 fl_X4_147 rfl rfl rfl ?_
          refine C.aload_nR dX4_readPiece_107 rfl ?_
          refine C.getS (k9 := 3) (fs := [.ref (S 15), .ref (S 17), .ref (S 18), .ref (S 19), .ref (S 20), .ref (S 21), .ref (S 22), .ref (S 23), .ref (S 24), .ref (S 25), .ref (S 26), .ref (S 27), .ref (S 28), .ref (S 29), .ref (S 30), .ref (S 44)]) dX4_readPiece_108 fl_X4_14 rfl hK.1 rfl ?_
          refine C.iload dX4_readPiece_111 rfl ?_
          refine C.callVS0 (k9 := 34) [.ref (S 15), .int (nI (acc ++ l1).length)] dX4_readPiece_113 mdX9_showEnd imX9_showEnd seX9_showEnd kc_10 rfl xv3 lk_X4_135 rfl rfl rfl rfl (cCt.w1 (R := fun r => r = none) (i := 34) hS (by decide) fun σ9 h9 => c_Text_showEnd (h9.at (k := 34) rfl xv3) (h9.at (k := 15) rfl rfl) (fun z => absurd (hS 15 34 (by decide) (by decide) z) (by decide)) (nI (acc ++ l1).length)) ?_
          rintro _ _ D9 ⟨rfl, rfl, e8⟩; have e8 := e8.symm; subst e8
          rw [sub_len (acc ++ l1) l2]
          refine C.iconst (v := 1) dX4_readPiece_116 (by decide) ?_
          refine C.zret dX4_readPiece_117 rfl rfl ?_
          have hpi : pieI (gD v) p e g = some (updO g 3 l2) := by rw [pieI, hd1, hd2]; show (if knw l1 = 13 then _ else _) = _; rw [hkn, if_neg (by decide), (bI_eq0 _).mp c_91, if_neg (by decide)]
          have hto : tO S (updG (updG (gW S (updG (gW S G 15 16 2000 g1 (acc ++ l1).length) 17 (.inr (10, [.ref (S 16), .int (nI acc.length), .int (nI l1.length)]))) 15 16 2000 g2 ((acc ++ l1) ++ l2).length) 21 (.inr (4, [.ref (kSa Λ RX4 47), .ref (S 34), .int 1]))) 34 (.inr (10, [.ref (S 16), .int (nI (acc ++ l1).length), .int (nI l2.length)]))) 15 16 2000 ((acc ++ l1) ++ l2) := ⟨g2, rfl, rfl, by omega, by decide, hg2, hb2⟩
          exact ⟨(fun k hk => by rw [updG_n _ _ (show k ≠ 34 by omega), updG_n _ _ (show k ≠ 21 by omega), gW_n (show k ≠ 15 by omega) (show k ≠ 16 by omega), updG_n _ _ (show k ≠ 17 by omega), gW_n (show k ≠ 15 by omega) (show k ≠ 16 by omega)]), rfl, Or.inl ⟨updO g 3 l2, ((acc ++ l1) ++ l2), hpi, rfl, hA2, hto, ⟨acc.length, l1.length, by omega, rfl⟩, (f0.grow (l := l1) rfl rfl).grow rfl rfl, (f1.grow (l := l1) rfl rfl).grow rfl rfl, (f2.grow (l := l1) rfl rfl).grow rfl rfl, ⟨rfl, (acc ++ l1).length, by rw [List.length_append (as := (acc ++ l1))]; exact Nat.le_refl _, rfl, by rw [List.drop_left, List.take_length], bts_r hb2⟩, (f4.grow (l := l1) rfl rfl).grow rfl rfl, (f5.grow (l := l1) rfl rfl).grow rfl rfl, (f6.grow (l := l1) rfl rfl).grow rfl rfl, (f7.grow (l := l1) rfl rfl).grow rfl rfl, (f8.grow (l := l1) rfl rfl).grow rfl rfl, (f9.grow (l := l1) rfl rfl).grow rfl rfl, (f10.grow (l := l1) rfl rfl).grow rfl rfl, (f11.grow (l := l1) rfl rfl).grow rfl rfl, (f12.grow (l := l1) rfl rfl).grow rfl rfl⟩⟩
        · skip
          refine C.iconst (v := 0) dX4_readPiece_94 (by decide) ?_
          refine C.zret dX4_readPiece_95 rfl rfl ?_
          have hpi : pieI (gD v) p e g = none := by rw [pieI, hd1, hd2]; show (if knw l1 = 13 then _ else _) = _; rw [hkn, if_neg (by decide), if_pos (bt1 c_91)]
          exact ⟨(fun k hk => by rw [gW_n (show k ≠ 15 by omega) (show k ≠ 16 by omega), updG_n _ _ (show k ≠ 17 by omega), gW_n (show k ≠ 15 by omega) (show k ≠ 16 by omega)]), rfl, Or.inr ⟨hpi, rfl, ⟨g2, rfl⟩, ⟨((acc ++ l1) ++ l2).length, by omega, rfl⟩, ⟨acc.length, l1.length, by omega, rfl⟩, f0.cf d3, f1.cf d3, f2.cf d3, f3.cf d3, f4.cf d3, f5.cf d3, f6.cf d3, f7.cf d3, f8.cf d3, f9.cf d3, f10.cf d3, f11.cf d3, f12.cf d3⟩⟩
      · have e9 := e9.symm; subst e9; have e8 := e8.symm; subst e8
        refine C.astore (L' := [some (.ref (S 3)), some (.ref (S 1)), some (.int (nI p)), some (.int (nI e)), some (.int (nI (atI (gD v) 61 p e))), some (.int (nI acc.length)), some (.int (nI (acc ++ l1).length)), some (.ref (S 22))]) dX4_readPiece_77 (by decide) rfl rfl ?_
        refine C.aloadR dX4_readPiece_79 rfl ?_
        refine C.ifnonnullR (tgt := 86) dX4_readPiece_81 (by decide) ?_
        refine C.aloadR dX4_readPiece_86 rfl ?_
        refine C.getS (k9 := 22) (fs := [.ref (kSa Λ RX4 51), .ref (S 35), .int (bI (g 4).isSome)]) dX4_readPiece_88 fl_X4_143 rfl f4.1 rfl ?_
        refine C.if_eq (tgt := 96) dX4_readPiece_91 (by decide) (fun c_91 => ?_) (fun c_91 => ?_)
        · skip
          refine C.aloadR dX4_readPiece_96 rfl ?_
          refine C.iconst (v := 1) dX4_readPiece_98 (by decide) ?_
          refine C.putS (k9 := 22) (fs := [.ref (kSa Λ RX4 51), .ref (S 35), .int (bI (g 4).isSome)]) (fs' := [.ref (kSa Λ RX4 51), .ref (S 35), .int 1]) dX4_readPiece_99 fp_X4_143 (fun h => by cases h) rfl f4.1 rfl rfl (Nat.le_of_ble_eq_true rfl) rfl ?_
          refine C.aloadR dX4_readPiece_102 rfl ?_
          refine C.getS (k9 := 22) (fs := [.ref (kSa Λ RX4 51), .ref (S 35), .int 1]) dX4_readPiece_104 fl_X4_147 rfl rfl rfl ?_
          refine C.aload_nR dX4_readPiece_107 rfl ?_
          refine C.getS (k9 := 3) (fs := [.ref (S 15), .ref (S 17), .ref (S 18), .ref (S 19), .ref (S 20), .ref (S 21), .ref (S 22), .ref (S 23), .ref (S 24), .ref (S 25), .ref (S 26), .ref (S 27), .ref (S 28), .ref (S 29), .ref (S 30), .ref (S 44)]) dX4_readPiece_108 fl_X4_14 rfl hK.1 rfl ?_
          refine C.iload dX4_readPiece_111 rfl ?_
          refine C.callVS0 (k9 := 35) [.ref (S 15), .int (nI (acc ++ l1).length)] dX4_readPiece_113 mdX9_showEnd imX9_showEnd seX9_showEnd kc_10 rfl xv4 lk_X4_135 rfl rfl rfl rfl (cCt.w1 (R := fun r => r = none) (i := 35) hS (by decide) fun σ9 h9 => c_Text_showEnd (h9.at (k := 35) rfl xv4) (h9.at (k := 15) rfl rfl) (fun z => absurd (hS 15 35 (by decide) (by decide) z) (by decide)) (nI (acc ++ l1).length)) ?_
          rintro _ _ D9 ⟨rfl, rfl, e8⟩; have e8 := e8.symm; subst e8
          rw [sub_len (acc ++ l1) l2]
          refine C.iconst (v := 1) dX4_readPiece_116 (by decide) ?_
          refine C.zret dX4_readPiece_117 rfl rfl ?_
          have hpi : pieI (gD v) p e g = some (updO g 4 l2) := by rw [pieI, hd1, hd2]; show (if knw l1 = 13 then _ else _) = _; rw [hkn, if_neg (by decide), (bI_eq0 _).mp c_91, if_neg (by decide)]
          have hto : tO S (updG (updG (gW S (updG (gW S G 15 16 2000 g1 (acc ++ l1).length) 17 (.inr (10, [.ref (S 16), .int (nI acc.length), .int (nI l1.length)]))) 15 16 2000 g2 ((acc ++ l1) ++ l2).length) 22 (.inr (4, [.ref (kSa Λ RX4 51), .ref (S 35), .int 1]))) 35 (.inr (10, [.ref (S 16), .int (nI (acc ++ l1).length), .int (nI l2.length)]))) 15 16 2000 ((acc ++ l1) ++ l2) := ⟨g2, rfl, rfl, by omega, by decide, hg2, hb2⟩
          exact ⟨(fun k hk => by rw [updG_n _ _ (show k ≠ 35 by omega), updG_n _ _ (show k ≠ 22 by omega), gW_n (show k ≠ 15 by omega) (show k ≠ 16 by omega), updG_n _ _ (show k ≠ 17 by omega), gW_n (show k ≠ 15 by omega) (show k ≠ 16 by omega)]), rfl, Or.inl ⟨updO g 4 l2, ((acc ++ l1) ++ l2), hpi, rfl, hA2, hto, ⟨acc.length, l1.length, by omega, rfl⟩, (f0.grow (l := l1) rfl rfl).grow rfl rfl, (f1.grow (l := l1) rfl rfl).grow rfl rfl, (f2.grow (l := l1) rfl rfl).grow rfl rfl, (f3.grow (l := l1) rfl rfl).grow rfl rfl, ⟨rfl, (acc ++ l1).length, by rw [List.length_append (as := (acc ++ l1))]; exact Nat.le_refl _, rfl, by rw [List.drop_left, List.take_length], bts_r hb2⟩, (f5.grow (l := l1) rfl rfl).grow rfl rfl, (f6.grow (l := l1) rfl rfl).grow rfl rfl, (f7.grow (l := l1) rfl rfl).grow rfl rfl, (f8.grow (l := l1) rfl rfl).grow rfl rfl, (f9.grow (l := l1) rfl rfl).grow rfl rfl, (f10.grow (l := l1) rfl rfl).grow rfl rfl, (f11.grow (l := l1) rfl rfl).grow rfl rfl, (f12.grow (l := l1) rfl rfl).grow rfl rfl⟩⟩
        · skip
          refine C.iconst (v := 0) dX4_readPiece_94 (by decide) ?_
          refine C.zret dX4_readPiece_95 rfl rfl ?_
          have hpi : pieI (gD v) p e g = none := by rw [pieI, hd1, hd2]; show (if knw l1 = 13 then _ else _) = _; rw [hkn, if_neg (by decide), if_pos (bt1 c_91)]
          exact ⟨(fun k hk => by rw [gW_n (show k ≠ 15 by omega) (show k ≠ 16 by omega), updG_n _ _ (show k ≠ 17 by omega), gW_n (show k ≠ 15 by omega) (show k ≠ 16 by omega)]), rfl, Or.inr ⟨hpi, rfl, ⟨g2, rfl⟩, ⟨((acc ++ l1) ++ l2).length, by omega, rfl⟩, ⟨acc.length, l1.length, by omega, rfl⟩, f0.cf d3, f1.cf d3, f2.cf d3, f3.cf d3, f4.cf d3, f5.cf d3, f6.cf d3, f7.cf d3, f8.cf d3, f9.cf d3, f10.cf d3, f11.cf d3, f12.cf d3⟩⟩
      · have e9 := e9.symm; subst e9; have e8 := e8.symm; subst e8
        refine C.astore (L' := [some (.ref (S 3)), some (.ref (S 1)), some (.int (nI p)), some (.int (nI e)), some (.int (nI (atI (gD v) 61 p e))), some (.int (nI acc.length)), some (.int (nI (acc ++ l1).length)), some (.ref (S 23))]) dX4_readPiece_77 (by decide) rfl rfl ?_
        refine C.aloadR dX4_readPiece_79 rfl ?_
        refine C.ifnonnullR (tgt := 86) dX4_readPiece_81 (by decide) ?_
        refine C.aloadR dX4_readPiece_86 rfl ?_
        refine C.getS (k9 := 23) (fs := [.ref (kSa Λ RX4 55), .ref (S 36), .int (bI (g 5).isSome)]) dX4_readPiece_88 fl_X4_143 rfl f5.1 rfl ?_
        refine C.if_eq (tgt := 96) dX4_readPiece_91 (by decide) (fun c_91 => ?_) (fun c_91 => ?_)
        · skip
          refine C.aloadR dX4_readPiece_96 rfl ?_
          refine C.iconst (v := 1) dX4_readPiece_98 (by decide) ?_
          refine C.putS (k9 := 23) (fs := [.ref (kSa Λ RX4 55), .ref (S 36), .int (bI (g 5).isSome)]) (fs' := [.ref (kSa Λ RX4 55), .ref (S 36), .int 1]) dX4_readPiece_99 fp_X4_143 (fun h => by cases h) rfl f5.1 rfl rfl (Nat.le_of_ble_eq_true rfl) rfl ?_
          refine C.aloadR dX4_readPiece_102 rfl ?_
          refine C.getS (k9 := 23) (fs := [.ref (kSa Λ RX4 55), .ref (S 36), .int 1]) dX4_readPiece_104 fl_X4_147 rfl rfl rfl ?_
          refine C.aload_nR dX4_readPiece_107 rfl ?_
          refine C.getS (k9 := 3) (fs := [.ref (S 15), .ref (S 17), .ref (S 18), .ref (S 19), .ref (S 20), .ref (S 21), .ref (S 22), .ref (S 23), .ref (S 24), .ref (S 25), .ref (S 26), .ref (S 27), .ref (S 28), .ref (S 29), .ref (S 30), .ref (S 44)]) dX4_readPiece_108 fl_X4_14 rfl hK.1 rfl ?_
          refine C.iload dX4_readPiece_111 rfl ?_
          refine C.callVS0 (k9 := 36) [.ref (S 15), .int (nI (acc ++ l1).length)] dX4_readPiece_113 mdX9_showEnd imX9_showEnd seX9_showEnd kc_10 rfl xv5 lk_X4_135 rfl rfl rfl rfl (cCt.w1 (R := fun r => r = none) (i := 36) hS (by decide) fun σ9 h9 => c_Text_showEnd (h9.at (k := 36) rfl xv5) (h9.at (k := 15) rfl rfl) (fun z => absurd (hS 15 36 (by decide) (by decide) z) (by decide)) (nI (acc ++ l1).length)) ?_
          rintro _ _ D9 ⟨rfl, rfl, e8⟩; have e8 := e8.symm; subst e8
          rw [sub_len (acc ++ l1) l2]
          refine C.iconst (v := 1) dX4_readPiece_116 (by decide) ?_
          refine C.zret dX4_readPiece_117 rfl rfl ?_
          have hpi : pieI (gD v) p e g = some (updO g 5 l2) := by rw [pieI, hd1, hd2]; show (if knw l1 = 13 then _ else _) = _; rw [hkn, if_neg (by decide), (bI_eq0 _).mp c_91, if_neg (by decide)]
          have hto : tO S (updG (updG (gW S (updG (gW S G 15 16 2000 g1 (acc ++ l1).length) 17 (.inr (10, [.ref (S 16), .int (nI acc.length), .int (nI l1.length)]))) 15 16 2000 g2 ((acc ++ l1) ++ l2).length) 23 (.inr (4, [.ref (kSa Λ RX4 55), .ref (S 36), .int 1]))) 36 (.inr (10, [.ref (S 16), .int (nI (acc ++ l1).length), .int (nI l2.length)]))) 15 16 2000 ((acc ++ l1) ++ l2) := ⟨g2, rfl, rfl, by omega, by decide, hg2, hb2⟩
          exact ⟨(fun k hk => by rw [updG_n _ _ (show k ≠ 36 by omega), updG_n _ _ (show k ≠ 23 by omega), gW_n (show k ≠ 15 by omega) (show k ≠ 16 by omega), updG_n _ _ (show k ≠ 17 by omega), gW_n (show k ≠ 15 by omega) (show k ≠ 16 by omega)]), rfl, Or.inl ⟨updO g 5 l2, ((acc ++ l1) ++ l2), hpi, rfl, hA2, hto, ⟨acc.length, l1.length, by omega, rfl⟩, (f0.grow (l := l1) rfl rfl).grow rfl rfl, (f1.grow (l := l1) rfl rfl).grow rfl rfl, (f2.grow (l := l1) rfl rfl).grow rfl rfl, (f3.grow (l := l1) rfl rfl).grow rfl rfl, (f4.grow (l := l1) rfl rfl).grow rfl rfl, ⟨rfl, (acc ++ l1).length, by rw [List.length_append (as := (acc ++ l1))]; exact Nat.le_refl _, rfl, by rw [List.drop_left, List.take_length], bts_r hb2⟩, (f6.grow (l := l1) rfl rfl).grow rfl rfl, (f7.grow (l := l1) rfl rfl).grow rfl rfl, (f8.grow (l := l1) rfl rfl).grow rfl rfl, (f9.grow (l := l1) rfl rfl).grow rfl rfl, (f10.grow (l := l1) rfl rfl).grow rfl rfl, (f11.grow (l := l1) rfl rfl).grow rfl rfl, (f12.grow (l := l1) rfl rfl).grow rfl rfl⟩⟩
        · skip
          refine C.iconst (v := 0) dX4_readPiece_94 (by decide) ?_
          refine C.zret dX4_readPiece_95 rfl rfl ?_
          have hpi : pieI (gD v) p e g = none := by rw [pieI, hd1, hd2]; show (if knw l1 = 13 then _ else _) = _; rw [hkn, if_neg (by decide), if_pos (bt1 c_91)]
          exact ⟨(fun k hk => by rw [gW_n (show k ≠ 15 by omega) (show k ≠ 16 by omega), updG_n _ _ (show k ≠ 17 by omega), gW_n (show k ≠ 15 by omega) (show k ≠ 16 by omega)]), rfl, Or.inr ⟨hpi, rfl, ⟨g2, rfl⟩, ⟨((acc ++ l1) ++ l2).length, by omega, rfl⟩, ⟨acc.length, l1.length, by omega, rfl⟩, f0.cf d3, f1.cf d3, f2.cf d3, f3.cf d3, f4.cf d3, f5.cf d3, f6.cf d3, f7.cf d3, f8.cf d3, f9.cf d3, f10.cf d3, f11.cf d3, f12.cf d3⟩⟩
      · have e9 := e9.symm; subst e9; have e8 := e8.symm; subst e8
        refine C.astore (L' := [some (.ref (S 3)), some (.ref (S 1)), some (.int (nI p)), some (.int (nI e)), some (.int (nI (atI (gD v) 61 p e))), some (.int (nI acc.length)), some (.int (nI (acc ++ l1).length)), some (.ref (S 24))]) dX4_readPiece_77 (by decide) rfl rfl ?_
        refine C.aloadR dX4_readPiece_79 rfl ?_
        refine C.ifnonnullR (tgt := 86) dX4_readPiece_81 (by decide) ?_
        refine C.aloadR dX4_readPiece_86 rfl ?_
        refine C.getS (k9 := 24) (fs := [.ref (kSa Λ RX4 60), .ref (S 37), .int (bI (g 6).isSome)]) dX4_readPiece_88 fl_X4_143 rfl f6.1 rfl ?_
        refine C.if_eq (tgt := 96) dX4_readPiece_91 (by decide) (fun c_91 => ?_) (fun c_91 => ?_)
        · skip
          refine C.aloadR dX4_readPiece_96 rfl ?_
          refine C.iconst (v := 1) dX4_readPiece_98 (by decide) ?_
          refine C.putS (k9 := 24) (fs := [.ref (kSa Λ RX4 60), .ref (S 37), .int (bI (g 6).isSome)]) (fs' := [.ref (kSa Λ RX4 60), .ref (S 37), .int 1]) dX4_readPiece_99 fp_X4_143 (fun h => by cases h) rfl f6.1 rfl rfl (Nat.le_of_ble_eq_true rfl) rfl ?_
          refine C.aloadR dX4_readPiece_102 rfl ?_
          refine C.getS (k9 := 24) (fs := [.ref (kSa Λ RX4 60), .ref (S 37), .int 1]) dX4_readPiece_104 fl_X4_147 rfl rfl rfl ?_
          refine C.aload_nR dX4_readPiece_107 rfl ?_
          refine C.getS (k9 := 3) (fs := [.ref (S 15), .ref (S 17), .ref (S 18), .ref (S 19), .ref (S 20), .ref (S 21), .ref (S 22), .ref (S 23), .ref (S 24), .ref (S 25), .ref (S 26), .ref (S 27), .ref (S 28), .ref (S 29), .ref (S 30), .ref (S 44)]) dX4_readPiece_108 fl_X4_14 rfl hK.1 rfl ?_
          refine C.iload dX4_readPiece_111 rfl ?_
          refine C.callVS0 (k9 := 37) [.ref (S 15), .int (nI (acc ++ l1).length)] dX4_readPiece_113 mdX9_showEnd imX9_showEnd seX9_showEnd kc_10 rfl xv6 lk_X4_135 rfl rfl rfl rfl (cCt.w1 (R := fun r => r = none) (i := 37) hS (by decide) fun σ9 h9 => c_Text_showEnd (h9.at (k := 37) rfl xv6) (h9.at (k := 15) rfl rfl) (fun z => absurd (hS 15 37 (by decide) (by decide) z) (by decide)) (nI (acc ++ l1).length)) ?_
          rintro _ _ D9 ⟨rfl, rfl, e8⟩; have e8 := e8.symm; subst e8
          rw [sub_len (acc ++ l1) l2]
          refine C.iconst (v := 1) dX4_readPiece_116 (by decide) ?_
          refine C.zret dX4_readPiece_117 rfl rfl ?_
          have hpi : pieI (gD v) p e g = some (updO g 6 l2) := by rw [pieI, hd1, hd2]; show (if knw l1 = 13 then _ else _) = _; rw [hkn, if_neg (by decide), (bI_eq0 _).mp c_91, if_neg (by decide)]
          have hto : tO S (updG (updG (gW S (updG (gW S G 15 16 2000 g1 (acc ++ l1).length) 17 (.inr (10, [.ref (S 16), .int (nI acc.length), .int (nI l1.length)]))) 15 16 2000 g2 ((acc ++ l1) ++ l2).length) 24 (.inr (4, [.ref (kSa Λ RX4 60), .ref (S 37), .int 1]))) 37 (.inr (10, [.ref (S 16), .int (nI (acc ++ l1).length), .int (nI l2.length)]))) 15 16 2000 ((acc ++ l1) ++ l2) := ⟨g2, rfl, rfl, by omega, by decide, hg2, hb2⟩
          exact ⟨(fun k hk => by rw [updG_n _ _ (show k ≠ 37 by omega), updG_n _ _ (show k ≠ 24 by omega), gW_n (show k ≠ 15 by omega) (show k ≠ 16 by omega), updG_n _ _ (show k ≠ 17 by omega), gW_n (show k ≠ 15 by omega) (show k ≠ 16 by omega)]), rfl, Or.inl ⟨updO g 6 l2, ((acc ++ l1) ++ l2), hpi, rfl, hA2, hto, ⟨acc.length, l1.length, by omega, rfl⟩, (f0.grow (l := l1) rfl rfl).grow rfl rfl, (f1.grow (l := l1) rfl rfl).grow rfl rfl, (f2.grow (l := l1) rfl rfl).grow rfl rfl, (f3.grow (l := l1) rfl rfl).grow rfl rfl, (f4.grow (l := l1) rfl rfl).grow rfl rfl, (f5.grow (l := l1) rfl rfl).grow rfl rfl, ⟨rfl, (acc ++ l1).length, by rw [List.length_append (as := (acc ++ l1))]; exact Nat.le_refl _, rfl, by rw [List.drop_left, List.take_length], bts_r hb2⟩, (f7.grow (l := l1) rfl rfl).grow rfl rfl, (f8.grow (l := l1) rfl rfl).grow rfl rfl, (f9.grow (l := l1) rfl rfl).grow rfl rfl, (f10.grow (l := l1) rfl rfl).grow rfl rfl, (f11.grow (l := l1) rfl rfl).grow rfl rfl, (f12.grow (l := l1) rfl rfl).grow rfl rfl⟩⟩
        · skip
          refine C.iconst (v := 0) dX4_readPiece_94 (by decide) ?_
          refine C.zret dX4_readPiece_95 rfl rfl ?_
          have hpi : pieI (gD v) p e g = none := by rw [pieI, hd1, hd2]; show (if knw l1 = 13 then _ else _) = _; rw [hkn, if_neg (by decide), if_pos (bt1 c_91)]
          exact ⟨(fun k hk => by rw [gW_n (show k ≠ 15 by omega) (show k ≠ 16 by omega), updG_n _ _ (show k ≠ 17 by omega), gW_n (show k ≠ 15 by omega) (show k ≠ 16 by omega)]), rfl, Or.inr ⟨hpi, rfl, ⟨g2, rfl⟩, ⟨((acc ++ l1) ++ l2).length, by omega, rfl⟩, ⟨acc.length, l1.length, by omega, rfl⟩, f0.cf d3, f1.cf d3, f2.cf d3, f3.cf d3, f4.cf d3, f5.cf d3, f6.cf d3, f7.cf d3, f8.cf d3, f9.cf d3, f10.cf d3, f11.cf d3, f12.cf d3⟩⟩
      · have e9 := e9.symm; subst e9; have e8 := e8.symm; subst e8
        refine C.astore (L' := [some (.ref (S 3)), some (.ref (S 1)), some (.int (nI p)), some (.int (nI e)), some (.int (nI (atI (gD v) 61 p e))), some (.int (nI acc.length)), some (.int (nI (acc ++ l1).length)), some (.ref (S 25))]) dX4_readPiece_77 (by decide) rfl rfl ?_
        refine C.aloadR dX4_readPiece_79 rfl ?_
        refine C.ifnonnullR (tgt := 86) dX4_readPiece_81 (by decide) ?_
        refine C.aloadR dX4_readPiece_86 rfl ?_
        refine C.getS (k9 := 25) (fs := [.ref (kSa Λ RX4 65), .ref (S 38), .int (bI (g 7).isSome)]) dX4_readPiece_88 fl_X4_143 rfl f7.1 rfl ?_
        refine C.if_eq (tgt := 96) dX4_readPiece_91 (by decide) (fun c_91 => ?_) (fun c_91 => ?_)
        · skip
          refine C.aloadR dX4_readPiece_96 rfl ?_
          refine C.iconst (v := 1) dX4_readPiece_98 (by decide) ?_
          refine C.putS (k9 := 25) (fs := [.ref (kSa Λ RX4 65), .ref (S 38), .int (bI (g 7).isSome)]) (fs' := [.ref (kSa Λ RX4 65), .ref (S 38), .int 1]) dX4_readPiece_99 fp_X4_143 (fun h => by cases h) rfl f7.1 rfl rfl (Nat.le_of_ble_eq_true rfl) rfl ?_
          refine C.aloadR dX4_readPiece_102 rfl ?_
          refine C.getS (k9 := 25) (fs := [.ref (kSa Λ RX4 65), .ref (S 38), .int 1]) dX4_readPiece_104 fl_X4_147 rfl rfl rfl ?_
          refine C.aload_nR dX4_readPiece_107 rfl ?_
          refine C.getS (k9 := 3) (fs := [.ref (S 15), .ref (S 17), .ref (S 18), .ref (S 19), .ref (S 20), .ref (S 21), .ref (S 22), .ref (S 23), .ref (S 24), .ref (S 25), .ref (S 26), .ref (S 27), .ref (S 28), .ref (S 29), .ref (S 30), .ref (S 44)]) dX4_readPiece_108 fl_X4_14 rfl hK.1 rfl ?_
          refine C.iload dX4_readPiece_111 rfl ?_
          refine C.callVS0 (k9 := 38) [.ref (S 15), .int (nI (acc ++ l1).length)] dX4_readPiece_113 mdX9_showEnd imX9_showEnd seX9_showEnd kc_10 rfl xv7 lk_X4_135 rfl rfl rfl rfl (cCt.w1 (R := fun r => r = none) (i := 38) hS (by decide) fun σ9 h9 => c_Text_showEnd (h9.at (k := 38) rfl xv7) (h9.at (k := 15) rfl rfl) (fun z => absurd (hS 15 38 (by decide) (by decide) z) (by decide)) (nI (acc ++ l1).length)) ?_
          rintro _ _ D9 ⟨rfl, rfl, e8⟩; have e8 := e8.symm; subst e8
          rw [sub_len (acc ++ l1) l2]
          refine C.iconst (v := 1) dX4_readPiece_116 (by decide) ?_
          refine C.zret dX4_readPiece_117 rfl rfl ?_
          have hpi : pieI (gD v) p e g = some (updO g 7 l2) := by rw [pieI, hd1, hd2]; show (if knw l1 = 13 then _ else _) = _; rw [hkn, if_neg (by decide), (bI_eq0 _).mp c_91, if_neg (by decide)]
          have hto : tO S (updG (updG (gW S (updG (gW S G 15 16 2000 g1 (acc ++ l1).length) 17 (.inr (10, [.ref (S 16), .int (nI acc.length), .int (nI l1.length)]))) 15 16 2000 g2 ((acc ++ l1) ++ l2).length) 25 (.inr (4, [.ref (kSa Λ RX4 65), .ref (S 38), .int 1]))) 38 (.inr (10, [.ref (S 16), .int (nI (acc ++ l1).length), .int (nI l2.length)]))) 15 16 2000 ((acc ++ l1) ++ l2) := ⟨g2, rfl, rfl, by omega, by decide, hg2, hb2⟩
          exact ⟨(fun k hk => by rw [updG_n _ _ (show k ≠ 38 by omega), updG_n _ _ (show k ≠ 25 by omega), gW_n (show k ≠ 15 by omega) (show k ≠ 16 by omega), updG_n _ _ (show k ≠ 17 by omega), gW_n (show k ≠ 15 by omega) (show k ≠ 16 by omega)]), rfl, Or.inl ⟨updO g 7 l2, ((acc ++ l1) ++ l2), hpi, rfl, hA2, hto, ⟨acc.length, l1.length, by omega, rfl⟩, (f0.grow (l := l1) rfl rfl).grow rfl rfl, (f1.grow (l := l1) rfl rfl).grow rfl rfl, (f2.grow (l := l1) rfl rfl).grow rfl rfl, (f3.grow (l := l1) rfl rfl).grow rfl rfl, (f4.grow (l := l1) rfl rfl).grow rfl rfl, (f5.grow (l := l1) rfl rfl).grow rfl rfl, (f6.grow (l := l1) rfl rfl).grow rfl rfl, ⟨rfl, (acc ++ l1).length, by rw [List.length_append (as := (acc ++ l1))]; exact Nat.le_refl _, rfl, by rw [List.drop_left, List.take_length], bts_r hb2⟩, (f8.grow (l := l1) rfl rfl).grow rfl rfl, (f9.grow (l := l1) rfl rfl).grow rfl rfl, (f10.grow (l := l1) rfl rfl).grow rfl rfl, (f11.grow (l := l1) rfl rfl).grow rfl rfl, (f12.grow (l := l1) rfl rfl).grow rfl rfl⟩⟩
        · skip
          refine C.iconst (v := 0) dX4_readPiece_94 (by decide) ?_
          refine C.zret dX4_readPiece_95 rfl rfl ?_
          have hpi : pieI (gD v) p e g = none := by rw [pieI, hd1, hd2]; show (if knw l1 = 13 then _ else _) = _; rw [hkn, if_neg (by decide), if_pos (bt1 c_91)]
          exact ⟨(fun k hk => by rw [gW_n (show k ≠ 15 by omega) (show k ≠ 16 by omega), updG_n _ _ (show k ≠ 17 by omega), gW_n (show k ≠ 15 by omega) (show k ≠ 16 by omega)]), rfl, Or.inr ⟨hpi, rfl, ⟨g2, rfl⟩, ⟨((acc ++ l1) ++ l2).length, by omega, rfl⟩, ⟨acc.length, l1.length, by omega, rfl⟩, f0.cf d3, f1.cf d3, f2.cf d3, f3.cf d3, f4.cf d3, f5.cf d3, f6.cf d3, f7.cf d3, f8.cf d3, f9.cf d3, f10.cf d3, f11.cf d3, f12.cf d3⟩⟩
      · have e9 := e9.symm; subst e9; have e8 := e8.symm; subst e8
        refine C.astore (L' := [some (.ref (S 3)), some (.ref (S 1)), some (.int (nI p)), some (.int (nI e)), some (.int (nI (atI (gD v) 61 p e))), some (.int (nI acc.length)), some (.int (nI (acc ++ l1).length)), some (.ref (S 26))]) dX4_readPiece_77 (by decide) rfl rfl ?_
        refine C.aloadR dX4_readPiece_79 rfl ?_
        refine C.ifnonnullR (tgt := 86) dX4_readPiece_81 (by decide) ?_
        refine C.aloadR dX4_readPiece_86 rfl ?_
        refine C.getS (k9 := 26) (fs := [.ref (kSa Λ RX4 70), .ref (S 39), .int (bI (g 8).isSome)]) dX4_readPiece_88 fl_X4_143 rfl f8.1 rfl ?_
        refine C.if_eq (tgt := 96) dX4_readPiece_91 (by decide) (fun c_91 => ?_) (fun c_91 => ?_)
        · skip
          refine C.aloadR dX4_readPiece_96 rfl ?_
          refine C.iconst (v := 1) dX4_readPiece_98 (by decide) ?_
          refine C.putS (k9 := 26) (fs := [.ref (kSa Λ RX4 70), .ref (S 39), .int (bI (g 8).isSome)]) (fs' := [.ref (kSa Λ RX4 70), .ref (S 39), .int 1]) dX4_readPiece_99 fp_X4_143 (fun h => by cases h) rfl f8.1 rfl rfl (Nat.le_of_ble_eq_true rfl) rfl ?_
          refine C.aloadR dX4_readPiece_102 rfl ?_
          refine C.getS (k9 := 26) (fs := [.ref (kSa Λ RX4 70), .ref (S 39), .int 1]) dX4_readPiece_104 fl_X4_147 rfl rfl rfl ?_
          refine C.aload_nR dX4_readPiece_107 rfl ?_
          refine C.getS (k9 := 3) (fs := [.ref (S 15), .ref (S 17), .ref (S 18), .ref (S 19), .ref (S 20), .ref (S 21), .ref (S 22), .ref (S 23), .ref (S 24), .ref (S 25), .ref (S 26), .ref (S 27), .ref (S 28), .ref (S 29), .ref (S 30), .ref (S 44)]) dX4_readPiece_108 fl_X4_14 rfl hK.1 rfl ?_
          refine C.iload dX4_readPiece_111 rfl ?_
          refine C.callVS0 (k9 := 39) [.ref (S 15), .int (nI (acc ++ l1).length)] dX4_readPiece_113 mdX9_showEnd imX9_showEnd seX9_showEnd kc_10 rfl xv8 lk_X4_135 rfl rfl rfl rfl (cCt.w1 (R := fun r => r = none) (i := 39) hS (by decide) fun σ9 h9 => c_Text_showEnd (h9.at (k := 39) rfl xv8) (h9.at (k := 15) rfl rfl) (fun z => absurd (hS 15 39 (by decide) (by decide) z) (by decide)) (nI (acc ++ l1).length)) ?_
          rintro _ _ D9 ⟨rfl, rfl, e8⟩; have e8 := e8.symm; subst e8
          rw [sub_len (acc ++ l1) l2]
          refine C.iconst (v := 1) dX4_readPiece_116 (by decide) ?_
          refine C.zret dX4_readPiece_117 rfl rfl ?_
          have hpi : pieI (gD v) p e g = some (updO g 8 l2) := by rw [pieI, hd1, hd2]; show (if knw l1 = 13 then _ else _) = _; rw [hkn, if_neg (by decide), (bI_eq0 _).mp c_91, if_neg (by decide)]
          have hto : tO S (updG (updG (gW S (updG (gW S G 15 16 2000 g1 (acc ++ l1).length) 17 (.inr (10, [.ref (S 16), .int (nI acc.length), .int (nI l1.length)]))) 15 16 2000 g2 ((acc ++ l1) ++ l2).length) 26 (.inr (4, [.ref (kSa Λ RX4 70), .ref (S 39), .int 1]))) 39 (.inr (10, [.ref (S 16), .int (nI (acc ++ l1).length), .int (nI l2.length)]))) 15 16 2000 ((acc ++ l1) ++ l2) := ⟨g2, rfl, rfl, by omega, by decide, hg2, hb2⟩
          exact ⟨(fun k hk => by rw [updG_n _ _ (show k ≠ 39 by omega), updG_n _ _ (show k ≠ 26 by omega), gW_n (show k ≠ 15 by omega) (show k ≠ 16 by omega), updG_n _ _ (show k ≠ 17 by omega), gW_n (show k ≠ 15 by omega) (show k ≠ 16 by omega)]), rfl, Or.inl ⟨updO g 8 l2, ((acc ++ l1) ++ l2), hpi, rfl, hA2, hto, ⟨acc.length, l1.length, by omega, rfl⟩, (f0.grow (l := l1) rfl rfl).grow rfl rfl, (f1.grow (l := l1) rfl rfl).grow rfl rfl, (f2.grow (l := l1) rfl rfl).grow rfl rfl, (f3.grow (l := l1) rfl rfl).grow rfl rfl, (f4.grow (l := l1) rfl rfl).grow rfl rfl, (f5.grow (l := l1) rfl rfl).grow rfl rfl, (f6.grow (l := l1) rfl rfl).grow rfl rfl, (f7.grow (l := l1) rfl rfl).grow rfl rfl, ⟨rfl, (acc ++ l1).length, by rw [List.length_append (as := (acc ++ l1))]; exact Nat.le_refl _, rfl, by rw [List.drop_left, List.take_length], bts_r hb2⟩, (f9.grow (l := l1) rfl rfl).grow rfl rfl, (f10.grow (l := l1) rfl rfl).grow rfl rfl, (f11.grow (l := l1) rfl rfl).grow rfl rfl, (f12.grow (l := l1) rfl rfl).grow rfl rfl⟩⟩
        · skip
          refine C.iconst (v := 0) dX4_readPiece_94 (by decide) ?_
          refine C.zret dX4_readPiece_95 rfl rfl ?_
          have hpi : pieI (gD v) p e g = none := by rw [pieI, hd1, hd2]; show (if knw l1 = 13 then _ else _) = _; rw [hkn, if_neg (by decide), if_pos (bt1 c_91)]
          exact ⟨(fun k hk => by rw [gW_n (show k ≠ 15 by omega) (show k ≠ 16 by omega), updG_n _ _ (show k ≠ 17 by omega), gW_n (show k ≠ 15 by omega) (show k ≠ 16 by omega)]), rfl, Or.inr ⟨hpi, rfl, ⟨g2, rfl⟩, ⟨((acc ++ l1) ++ l2).length, by omega, rfl⟩, ⟨acc.length, l1.length, by omega, rfl⟩, f0.cf d3, f1.cf d3, f2.cf d3, f3.cf d3, f4.cf d3, f5.cf d3, f6.cf d3, f7.cf d3, f8.cf d3, f9.cf d3, f10.cf d3, f11.cf d3, f12.cf d3⟩⟩
      · have e9 := e9.symm; subst e9; have e8 := e8.symm; subst e8
        refine C.astore (L' := [some (.ref (S 3)), some (.ref (S 1)), some (.int (nI p)), some (.int (nI e)), some (.int (nI (atI (gD v) 61 p e))), some (.int (nI acc.length)), some (.int (nI (acc ++ l1).length)), some (.ref (S 27))]) dX4_readPiece_77 (by decide) rfl rfl ?_
        refine C.aloadR dX4_readPiece_79 rfl ?_
        refine C.ifnonnullR (tgt := 86) dX4_readPiece_81 (by decide) ?_
        refine C.aloadR dX4_readPiece_86 rfl ?_
        refine C.getS (k9 := 27) (fs := [.ref (kSa Λ RX4 74), .ref (S 40), .int (bI (g 9).isSome)]) dX4_readPiece_88 fl_X4_143 rfl f9.1 rfl ?_
        refine C.if_eq (tgt := 96) dX4_readPiece_91 (by decide) (fun c_91 => ?_) (fun c_91 => ?_)
        · skip
          refine C.aloadR dX4_readPiece_96 rfl ?_
          refine C.iconst (v := 1) dX4_readPiece_98 (by decide) ?_
          refine C.putS (k9 := 27) (fs := [.ref (kSa Λ RX4 74), .ref (S 40), .int (bI (g 9).isSome)]) (fs' := [.ref (kSa Λ RX4 74), .ref (S 40), .int 1]) dX4_readPiece_99 fp_X4_143 (fun h => by cases h) rfl f9.1 rfl rfl (Nat.le_of_ble_eq_true rfl) rfl ?_
          refine C.aloadR dX4_readPiece_102 rfl ?_
          refine C.getS (k9 := 27) (fs := [.ref (kSa Λ RX4 74), .ref (S 40), .int 1]) dX4_readPiece_104 fl_X4_147 rfl rfl rfl ?_
          refine C.aload_nR dX4_readPiece_107 rfl ?_
          refine C.getS (k9 := 3) (fs := [.ref (S 15), .ref (S 17), .ref (S 18), .ref (S 19), .ref (S 20), .ref (S 21), .ref (S 22), .ref (S 23), .ref (S 24), .ref (S 25), .ref (S 26), .ref (S 27), .ref (S 28), .ref (S 29), .ref (S 30), .ref (S 44)]) dX4_readPiece_108 fl_X4_14 rfl hK.1 rfl ?_
          refine C.iload dX4_readPiece_111 rfl ?_
          refine C.callVS0 (k9 := 40) [.ref (S 15), .int (nI (acc ++ l1).length)] dX4_readPiece_113 mdX9_showEnd imX9_showEnd seX9_showEnd kc_10 rfl xv9 lk_X4_135 rfl rfl rfl rfl (cCt.w1 (R := fun r => r = none) (i := 40) hS (by decide) fun σ9 h9 => c_Text_showEnd (h9.at (k := 40) rfl xv9) (h9.at (k := 15) rfl rfl) (fun z => absurd (hS 15 40 (by decide) (by decide) z) (by decide)) (nI (acc ++ l1).length)) ?_
          rintro _ _ D9 ⟨rfl, rfl, e8⟩; have e8 := e8.symm; subst e8
          rw [sub_len (acc ++ l1) l2]
          refine C.iconst (v := 1) dX4_readPiece_116 (by decide) ?_
          refine C.zret dX4_readPiece_117 rfl rfl ?_
          have hpi : pieI (gD v) p e g = some (updO g 9 l2) := by rw [pieI, hd1, hd2]; show (if knw l1 = 13 then _ else _) = _; rw [hkn, if_neg (by decide), (bI_eq0 _).mp c_91, if_neg (by decide)]
          have hto : tO S (updG (updG (gW S (updG (gW S G 15 16 2000 g1 (acc ++ l1).length) 17 (.inr (10, [.ref (S 16), .int (nI acc.length), .int (nI l1.length)]))) 15 16 2000 g2 ((acc ++ l1) ++ l2).length) 27 (.inr (4, [.ref (kSa Λ RX4 74), .ref (S 40), .int 1]))) 40 (.inr (10, [.ref (S 16), .int (nI (acc ++ l1).length), .int (nI l2.length)]))) 15 16 2000 ((acc ++ l1) ++ l2) := ⟨g2, rfl, rfl, by omega, by decide, hg2, hb2⟩
          exact ⟨(fun k hk => by rw [updG_n _ _ (show k ≠ 40 by omega), updG_n _ _ (show k ≠ 27 by omega), gW_n (show k ≠ 15 by omega) (show k ≠ 16 by omega), updG_n _ _ (show k ≠ 17 by omega), gW_n (show k ≠ 15 by omega) (show k ≠ 16 by omega)]), rfl, Or.inl ⟨updO g 9 l2, ((acc ++ l1) ++ l2), hpi, rfl, hA2, hto, ⟨acc.length, l1.length, by omega, rfl⟩, (f0.grow (l := l1) rfl rfl).grow rfl rfl, (f1.grow (l := l1) rfl rfl).grow rfl rfl, (f2.grow (l := l1) rfl rfl).grow rfl rfl, (f3.grow (l := l1) rfl rfl).grow rfl rfl, (f4.grow (l := l1) rfl rfl).grow rfl rfl, (f5.grow (l := l1) rfl rfl).grow rfl rfl, (f6.grow (l := l1) rfl rfl).grow rfl rfl, (f7.grow (l := l1) rfl rfl).grow rfl rfl, (f8.grow (l := l1) rfl rfl).grow rfl rfl, ⟨rfl, (acc ++ l1).length, by rw [List.length_append (as := (acc ++ l1))]; exact Nat.le_refl _, rfl, by rw [List.drop_left, List.take_length], bts_r hb2⟩, (f10.grow (l := l1) rfl rfl).grow rfl rfl, (f11.grow (l := l1) rfl rfl).grow rfl rfl, (f12.grow (l := l1) rfl rfl).grow rfl rfl⟩⟩
        · skip
          refine C.iconst (v := 0) dX4_readPiece_94 (by decide) ?_
          refine C.zret dX4_readPiece_95 rfl rfl ?_
          have hpi : pieI (gD v) p e g = none := by rw [pieI, hd1, hd2]; show (if knw l1 = 13 then _ else _) = _; rw [hkn, if_neg (by decide), if_pos (bt1 c_91)]
          exact ⟨(fun k hk => by rw [gW_n (show k ≠ 15 by omega) (show k ≠ 16 by omega), updG_n _ _ (show k ≠ 17 by omega), gW_n (show k ≠ 15 by omega) (show k ≠ 16 by omega)]), rfl, Or.inr ⟨hpi, rfl, ⟨g2, rfl⟩, ⟨((acc ++ l1) ++ l2).length, by omega, rfl⟩, ⟨acc.length, l1.length, by omega, rfl⟩, f0.cf d3, f1.cf d3, f2.cf d3, f3.cf d3, f4.cf d3, f5.cf d3, f6.cf d3, f7.cf d3, f8.cf d3, f9.cf d3, f10.cf d3, f11.cf d3, f12.cf d3⟩⟩
      · have e9 := e9.symm; subst e9; have e8 := e8.symm; subst e8
        refine C.astore (L' := [some (.ref (S 3)), some (.ref (S 1)), some (.int (nI p)), some (.int (nI e)), some (.int (nI (atI (gD v) 61 p e))), some (.int (nI acc.length)), some (.int (nI (acc ++ l1).length)), some (.ref (S 28))]) dX4_readPiece_77 (by decide) rfl rfl ?_
        refine C.aloadR dX4_readPiece_79 rfl ?_
        refine C.ifnonnullR (tgt := 86) dX4_readPiece_81 (by decide) ?_
        refine C.aloadR dX4_readPiece_86 rfl ?_
        refine C.getS (k9 := 28) (fs := [.ref (kSa Λ RX4 79), .ref (S 41), .int (bI (g 10).isSome)]) dX4_readPiece_88 fl_X4_143 rfl f10.1 rfl ?_
        refine C.if_eq (tgt := 96) dX4_readPiece_91 (by decide) (fun c_91 => ?_) (fun c_91 => ?_)
        · skip
          refine C.aloadR dX4_readPiece_96 rfl ?_
          refine C.iconst (v := 1) dX4_readPiece_98 (by decide) ?_
          refine C.putS (k9 := 28) (fs := [.ref (kSa Λ RX4 79), .ref (S 41), .int (bI (g 10).isSome)]) (fs' := [.ref (kSa Λ RX4 79), .ref (S 41), .int 1]) dX4_readPiece_99 fp_X4_143 (fun h => by cases h) rfl f10.1 rfl rfl (Nat.le_of_ble_eq_true rfl) rfl ?_
          refine C.aloadR dX4_readPiece_102 rfl ?_
          refine C.getS (k9 := 28) (fs := [.ref (kSa Λ RX4 79), .ref (S 41), .int 1]) dX4_readPiece_104 fl_X4_147 rfl rfl rfl ?_
          refine C.aload_nR dX4_readPiece_107 rfl ?_
          refine C.getS (k9 := 3) (fs := [.ref (S 15), .ref (S 17), .ref (S 18), .ref (S 19), .ref (S 20), .ref (S 21), .ref (S 22), .ref (S 23), .ref (S 24), .ref (S 25), .ref (S 26), .ref (S 27), .ref (S 28), .ref (S 29), .ref (S 30), .ref (S 44)]) dX4_readPiece_108 fl_X4_14 rfl hK.1 rfl ?_
          refine C.iload dX4_readPiece_111 rfl ?_
          refine C.callVS0 (k9 := 41) [.ref (S 15), .int (nI (acc ++ l1).length)] dX4_readPiece_113 mdX9_showEnd imX9_showEnd seX9_showEnd kc_10 rfl xv10 lk_X4_135 rfl rfl rfl rfl (cCt.w1 (R := fun r => r = none) (i := 41) hS (by decide) fun σ9 h9 => c_Text_showEnd (h9.at (k := 41) rfl xv10) (h9.at (k := 15) rfl rfl) (fun z => absurd (hS 15 41 (by decide) (by decide) z) (by decide)) (nI (acc ++ l1).length)) ?_
          rintro _ _ D9 ⟨rfl, rfl, e8⟩; have e8 := e8.symm; subst e8
          rw [sub_len (acc ++ l1) l2]
          refine C.iconst (v := 1) dX4_readPiece_116 (by decide) ?_
          refine C.zret dX4_readPiece_117 rfl rfl ?_
          have hpi : pieI (gD v) p e g = some (updO g 10 l2) := by rw [pieI, hd1, hd2]; show (if knw l1 = 13 then _ else _) = _; rw [hkn, if_neg (by decide), (bI_eq0 _).mp c_91, if_neg (by decide)]
          have hto : tO S (updG (updG (gW S (updG (gW S G 15 16 2000 g1 (acc ++ l1).length) 17 (.inr (10, [.ref (S 16), .int (nI acc.length), .int (nI l1.length)]))) 15 16 2000 g2 ((acc ++ l1) ++ l2).length) 28 (.inr (4, [.ref (kSa Λ RX4 79), .ref (S 41), .int 1]))) 41 (.inr (10, [.ref (S 16), .int (nI (acc ++ l1).length), .int (nI l2.length)]))) 15 16 2000 ((acc ++ l1) ++ l2) := ⟨g2, rfl, rfl, by omega, by decide, hg2, hb2⟩
          exact ⟨(fun k hk => by rw [updG_n _ _ (show k ≠ 41 by omega), updG_n _ _ (show k ≠ 28 by omega), gW_n (show k ≠ 15 by omega) (show k ≠ 16 by omega), updG_n _ _ (show k ≠ 17 by omega), gW_n (show k ≠ 15 by omega) (show k ≠ 16 by omega)]), rfl, Or.inl ⟨updO g 10 l2, ((acc ++ l1) ++ l2), hpi, rfl, hA2, hto, ⟨acc.length, l1.length, by omega, rfl⟩, (f0.grow (l := l1) rfl rfl).grow rfl rfl, (f1.grow (l := l1) rfl rfl).grow rfl rfl, (f2.grow (l := l1) rfl rfl).grow rfl rfl, (f3.grow (l := l1) rfl rfl).grow rfl rfl, (f4.grow (l := l1) rfl rfl).grow rfl rfl, (f5.grow (l := l1) rfl rfl).grow rfl rfl, (f6.grow (l := l1) rfl rfl).grow rfl rfl, (f7.grow (l := l1) rfl rfl).grow rfl rfl, (f8.grow (l := l1) rfl rfl).grow rfl rfl, (f9.grow (l := l1) rfl rfl).grow rfl rfl, ⟨rfl, (acc ++ l1).length, by rw [List.length_append (as := (acc ++ l1))]; exact Nat.le_refl _, rfl, by rw [List.drop_left, List.take_length], bts_r hb2⟩, (f11.grow (l := l1) rfl rfl).grow rfl rfl, (f12.grow (l := l1) rfl rfl).grow rfl rfl⟩⟩
        · skip
          refine C.iconst (v := 0) dX4_readPiece_94 (by decide) ?_
          refine C.zret dX4_readPiece_95 rfl rfl ?_
          have hpi : pieI (gD v) p e g = none := by rw [pieI, hd1, hd2]; show (if knw l1 = 13 then _ else _) = _; rw [hkn, if_neg (by decide), if_pos (bt1 c_91)]
          exact ⟨(fun k hk => by rw [gW_n (show k ≠ 15 by omega) (show k ≠ 16 by omega), updG_n _ _ (show k ≠ 17 by omega), gW_n (show k ≠ 15 by omega) (show k ≠ 16 by omega)]), rfl, Or.inr ⟨hpi, rfl, ⟨g2, rfl⟩, ⟨((acc ++ l1) ++ l2).length, by omega, rfl⟩, ⟨acc.length, l1.length, by omega, rfl⟩, f0.cf d3, f1.cf d3, f2.cf d3, f3.cf d3, f4.cf d3, f5.cf d3, f6.cf d3, f7.cf d3, f8.cf d3, f9.cf d3, f10.cf d3, f11.cf d3, f12.cf d3⟩⟩
      · have e9 := e9.symm; subst e9; have e8 := e8.symm; subst e8
        refine C.astore (L' := [some (.ref (S 3)), some (.ref (S 1)), some (.int (nI p)), some (.int (nI e)), some (.int (nI (atI (gD v) 61 p e))), some (.int (nI acc.length)), some (.int (nI (acc ++ l1).length)), some (.ref (S 29))]) dX4_readPiece_77 (by decide) rfl rfl ?_
        refine C.aloadR dX4_readPiece_79 rfl ?_
        refine C.ifnonnullR (tgt := 86) dX4_readPiece_81 (by decide) ?_
        refine C.aloadR dX4_readPiece_86 rfl ?_
        refine C.getS (k9 := 29) (fs := [.ref (kSa Λ RX4 84), .ref (S 42), .int (bI (g 11).isSome)]) dX4_readPiece_88 fl_X4_143 rfl f11.1 rfl ?_
        refine C.if_eq (tgt := 96) dX4_readPiece_91 (by decide) (fun c_91 => ?_) (fun c_91 => ?_)
        · skip
          refine C.aloadR dX4_readPiece_96 rfl ?_
          refine C.iconst (v := 1) dX4_readPiece_98 (by decide) ?_
          refine C.putS (k9 := 29) (fs := [.ref (kSa Λ RX4 84), .ref (S 42), .int (bI (g 11).isSome)]) (fs' := [.ref (kSa Λ RX4 84), .ref (S 42), .int 1]) dX4_readPiece_99 fp_X4_143 (fun h => by cases h) rfl f11.1 rfl rfl (Nat.le_of_ble_eq_true rfl) rfl ?_
          refine C.aloadR dX4_readPiece_102 rfl ?_
          refine C.getS (k9 := 29) (fs := [.ref (kSa Λ RX4 84), .ref (S 42), .int 1]) dX4_readPiece_104 fl_X4_147 rfl rfl rfl ?_
          refine C.aload_nR dX4_readPiece_107 rfl ?_
          refine C.getS (k9 := 3) (fs := [.ref (S 15), .ref (S 17), .ref (S 18), .ref (S 19), .ref (S 20), .ref (S 21), .ref (S 22), .ref (S 23), .ref (S 24), .ref (S 25), .ref (S 26), .ref (S 27), .ref (S 28), .ref (S 29), .ref (S 30), .ref (S 44)]) dX4_readPiece_108 fl_X4_14 rfl hK.1 rfl ?_
          refine C.iload dX4_readPiece_111 rfl ?_
          refine C.callVS0 (k9 := 42) [.ref (S 15), .int (nI (acc ++ l1).length)] dX4_readPiece_113 mdX9_showEnd imX9_showEnd seX9_showEnd kc_10 rfl xv11 lk_X4_135 rfl rfl rfl rfl (cCt.w1 (R := fun r => r = none) (i := 42) hS (by decide) fun σ9 h9 => c_Text_showEnd (h9.at (k := 42) rfl xv11) (h9.at (k := 15) rfl rfl) (fun z => absurd (hS 15 42 (by decide) (by decide) z) (by decide)) (nI (acc ++ l1).length)) ?_
          rintro _ _ D9 ⟨rfl, rfl, e8⟩; have e8 := e8.symm; subst e8
          rw [sub_len (acc ++ l1) l2]
          refine C.iconst (v := 1) dX4_readPiece_116 (by decide) ?_
          refine C.zret dX4_readPiece_117 rfl rfl ?_
          have hpi : pieI (gD v) p e g = some (updO g 11 l2) := by rw [pieI, hd1, hd2]; show (if knw l1 = 13 then _ else _) = _; rw [hkn, if_neg (by decide), (bI_eq0 _).mp c_91, if_neg (by decide)]
          have hto : tO S (updG (updG (gW S (updG (gW S G 15 16 2000 g1 (acc ++ l1).length) 17 (.inr (10, [.ref (S 16), .int (nI acc.length), .int (nI l1.length)]))) 15 16 2000 g2 ((acc ++ l1) ++ l2).length) 29 (.inr (4, [.ref (kSa Λ RX4 84), .ref (S 42), .int 1]))) 42 (.inr (10, [.ref (S 16), .int (nI (acc ++ l1).length), .int (nI l2.length)]))) 15 16 2000 ((acc ++ l1) ++ l2) := ⟨g2, rfl, rfl, by omega, by decide, hg2, hb2⟩
          exact ⟨(fun k hk => by rw [updG_n _ _ (show k ≠ 42 by omega), updG_n _ _ (show k ≠ 29 by omega), gW_n (show k ≠ 15 by omega) (show k ≠ 16 by omega), updG_n _ _ (show k ≠ 17 by omega), gW_n (show k ≠ 15 by omega) (show k ≠ 16 by omega)]), rfl, Or.inl ⟨updO g 11 l2, ((acc ++ l1) ++ l2), hpi, rfl, hA2, hto, ⟨acc.length, l1.length, by omega, rfl⟩, (f0.grow (l := l1) rfl rfl).grow rfl rfl, (f1.grow (l := l1) rfl rfl).grow rfl rfl, (f2.grow (l := l1) rfl rfl).grow rfl rfl, (f3.grow (l := l1) rfl rfl).grow rfl rfl, (f4.grow (l := l1) rfl rfl).grow rfl rfl, (f5.grow (l := l1) rfl rfl).grow rfl rfl, (f6.grow (l := l1) rfl rfl).grow rfl rfl, (f7.grow (l := l1) rfl rfl).grow rfl rfl, (f8.grow (l := l1) rfl rfl).grow rfl rfl, (f9.grow (l := l1) rfl rfl).grow rfl rfl, (f10.grow (l := l1) rfl rfl).grow rfl rfl, ⟨rfl, (acc ++ l1).length, by rw [List.length_append (as := (acc ++ l1))]; exact Nat.le_refl _, rfl, by rw [List.drop_left, List.take_length], bts_r hb2⟩, (f12.grow (l := l1) rfl rfl).grow rfl rfl⟩⟩
        · skip
          refine C.iconst (v := 0) dX4_readPiece_94 (by decide) ?_
          refine C.zret dX4_readPiece_95 rfl rfl ?_
          have hpi : pieI (gD v) p e g = none := by rw [pieI, hd1, hd2]; show (if knw l1 = 13 then _ else _) = _; rw [hkn, if_neg (by decide), if_pos (bt1 c_91)]
          exact ⟨(fun k hk => by rw [gW_n (show k ≠ 15 by omega) (show k ≠ 16 by omega), updG_n _ _ (show k ≠ 17 by omega), gW_n (show k ≠ 15 by omega) (show k ≠ 16 by omega)]), rfl, Or.inr ⟨hpi, rfl, ⟨g2, rfl⟩, ⟨((acc ++ l1) ++ l2).length, by omega, rfl⟩, ⟨acc.length, l1.length, by omega, rfl⟩, f0.cf d3, f1.cf d3, f2.cf d3, f3.cf d3, f4.cf d3, f5.cf d3, f6.cf d3, f7.cf d3, f8.cf d3, f9.cf d3, f10.cf d3, f11.cf d3, f12.cf d3⟩⟩
      · have e9 := e9.symm; subst e9; have e8 := e8.symm; subst e8
        refine C.astore (L' := [some (.ref (S 3)), some (.ref (S 1)), some (.int (nI p)), some (.int (nI e)), some (.int (nI (atI (gD v) 61 p e))), some (.int (nI acc.length)), some (.int (nI (acc ++ l1).length)), some (.ref (S 30))]) dX4_readPiece_77 (by decide) rfl rfl ?_
        refine C.aloadR dX4_readPiece_79 rfl ?_
        refine C.ifnonnullR (tgt := 86) dX4_readPiece_81 (by decide) ?_
        refine C.aloadR dX4_readPiece_86 rfl ?_
        refine C.getS (k9 := 30) (fs := [.ref (kSa Λ RX4 89), .ref (S 43), .int (bI (g 12).isSome)]) dX4_readPiece_88 fl_X4_143 rfl f12.1 rfl ?_
        refine C.if_eq (tgt := 96) dX4_readPiece_91 (by decide) (fun c_91 => ?_) (fun c_91 => ?_)
        · skip
          refine C.aloadR dX4_readPiece_96 rfl ?_
          refine C.iconst (v := 1) dX4_readPiece_98 (by decide) ?_
          refine C.putS (k9 := 30) (fs := [.ref (kSa Λ RX4 89), .ref (S 43), .int (bI (g 12).isSome)]) (fs' := [.ref (kSa Λ RX4 89), .ref (S 43), .int 1]) dX4_readPiece_99 fp_X4_143 (fun h => by cases h) rfl f12.1 rfl rfl (Nat.le_of_ble_eq_true rfl) rfl ?_
          refine C.aloadR dX4_readPiece_102 rfl ?_
          refine C.getS (k9 := 30) (fs := [.ref (kSa Λ RX4 89), .ref (S 43), .int 1]) dX4_readPiece_104 fl_X4_147 rfl rfl rfl ?_
          refine C.aload_nR dX4_readPiece_107 rfl ?_
          refine C.getS (k9 := 3) (fs := [.ref (S 15), .ref (S 17), .ref (S 18), .ref (S 19), .ref (S 20), .ref (S 21), .ref (S 22), .ref (S 23), .ref (S 24), .ref (S 25), .ref (S 26), .ref (S 27), .ref (S 28), .ref (S 29), .ref (S 30), .ref (S 44)]) dX4_readPiece_108 fl_X4_14 rfl hK.1 rfl ?_
          refine C.iload dX4_readPiece_111 rfl ?_
          refine C.callVS0 (k9 := 43) [.ref (S 15), .int (nI (acc ++ l1).length)] dX4_readPiece_113 mdX9_showEnd imX9_showEnd seX9_showEnd kc_10 rfl xv12 lk_X4_135 rfl rfl rfl rfl (cCt.w1 (R := fun r => r = none) (i := 43) hS (by decide) fun σ9 h9 => c_Text_showEnd (h9.at (k := 43) rfl xv12) (h9.at (k := 15) rfl rfl) (fun z => absurd (hS 15 43 (by decide) (by decide) z) (by decide)) (nI (acc ++ l1).length)) ?_
          rintro _ _ D9 ⟨rfl, rfl, e8⟩; have e8 := e8.symm; subst e8
          rw [sub_len (acc ++ l1) l2]
          refine C.iconst (v := 1) dX4_readPiece_116 (by decide) ?_
          refine C.zret dX4_readPiece_117 rfl rfl ?_
          have hpi : pieI (gD v) p e g = some (updO g 12 l2) := by rw [pieI, hd1, hd2]; show (if knw l1 = 13 then _ else _) = _; rw [hkn, if_neg (by decide), (bI_eq0 _).mp c_91, if_neg (by decide)]
          have hto : tO S (updG (updG (gW S (updG (gW S G 15 16 2000 g1 (acc ++ l1).length) 17 (.inr (10, [.ref (S 16), .int (nI acc.length), .int (nI l1.length)]))) 15 16 2000 g2 ((acc ++ l1) ++ l2).length) 30 (.inr (4, [.ref (kSa Λ RX4 89), .ref (S 43), .int 1]))) 43 (.inr (10, [.ref (S 16), .int (nI (acc ++ l1).length), .int (nI l2.length)]))) 15 16 2000 ((acc ++ l1) ++ l2) := ⟨g2, rfl, rfl, by omega, by decide, hg2, hb2⟩
          exact ⟨(fun k hk => by rw [updG_n _ _ (show k ≠ 43 by omega), updG_n _ _ (show k ≠ 30 by omega), gW_n (show k ≠ 15 by omega) (show k ≠ 16 by omega), updG_n _ _ (show k ≠ 17 by omega), gW_n (show k ≠ 15 by omega) (show k ≠ 16 by omega)]), rfl, Or.inl ⟨updO g 12 l2, ((acc ++ l1) ++ l2), hpi, rfl, hA2, hto, ⟨acc.length, l1.length, by omega, rfl⟩, (f0.grow (l := l1) rfl rfl).grow rfl rfl, (f1.grow (l := l1) rfl rfl).grow rfl rfl, (f2.grow (l := l1) rfl rfl).grow rfl rfl, (f3.grow (l := l1) rfl rfl).grow rfl rfl, (f4.grow (l := l1) rfl rfl).grow rfl rfl, (f5.grow (l := l1) rfl rfl).grow rfl rfl, (f6.grow (l := l1) rfl rfl).grow rfl rfl, (f7.grow (l := l1) rfl rfl).grow rfl rfl, (f8.grow (l := l1) rfl rfl).grow rfl rfl, (f9.grow (l := l1) rfl rfl).grow rfl rfl, (f10.grow (l := l1) rfl rfl).grow rfl rfl, (f11.grow (l := l1) rfl rfl).grow rfl rfl, ⟨rfl, (acc ++ l1).length, by rw [List.length_append (as := (acc ++ l1))]; exact Nat.le_refl _, rfl, by rw [List.drop_left, List.take_length], bts_r hb2⟩⟩⟩
        · skip
          refine C.iconst (v := 0) dX4_readPiece_94 (by decide) ?_
          refine C.zret dX4_readPiece_95 rfl rfl ?_
          have hpi : pieI (gD v) p e g = none := by rw [pieI, hd1, hd2]; show (if knw l1 = 13 then _ else _) = _; rw [hkn, if_neg (by decide), if_pos (bt1 c_91)]
          exact ⟨(fun k hk => by rw [gW_n (show k ≠ 15 by omega) (show k ≠ 16 by omega), updG_n _ _ (show k ≠ 17 by omega), gW_n (show k ≠ 15 by omega) (show k ≠ 16 by omega)]), rfl, Or.inr ⟨hpi, rfl, ⟨g2, rfl⟩, ⟨((acc ++ l1) ++ l2).length, by omega, rfl⟩, ⟨acc.length, l1.length, by omega, rfl⟩, f0.cf d3, f1.cf d3, f2.cf d3, f3.cf d3, f4.cf d3, f5.cf d3, f6.cf d3, f7.cf d3, f8.cf d3, f9.cf d3, f10.cf d3, f11.cf d3, f12.cf d3⟩⟩
    · have e8 := e8.symm; subst e8
      refine C.if_ne (tgt := 69) dX4_readPiece_64 (by decide) (fun c_64 => absurd c_64 (fun z => z rfl)) (fun c_64 => ?_)
      refine C.iconst (v := 0) dX4_readPiece_67 (by decide) ?_
      refine C.zret dX4_readPiece_68 rfl rfl ?_
      exact ⟨(fun k hk => by rw [gW_n (show k ≠ 15 by omega) (show k ≠ 16 by omega), updG_n _ _ (show k ≠ 17 by omega), gW_n (show k ≠ 15 by omega) (show k ≠ 16 by omega)]), rfl, Or.inr ⟨by rw [pieI, hd1, hd2], rfl, ⟨g2, rfl⟩, ⟨n9, hn9, rfl⟩, ⟨acc.length, l1.length, by omega, rfl⟩, f0.cf d3, f1.cf d3, f2.cf d3, f3.cf d3, f4.cf d3, f5.cf d3, f6.cf d3, f7.cf d3, f8.cf d3, f9.cf d3, f10.cf d3, f11.cf d3, f12.cf d3⟩⟩
  · have e8 := e8.symm; subst e8
    refine C.if_ne (tgt := 32) dX4_readPiece_27 (by decide) (fun c_27 => absurd c_27 (fun z => z rfl)) (fun c_27 => ?_)
    refine C.iconst (v := 0) dX4_readPiece_30 (by decide) ?_
    refine C.zret dX4_readPiece_31 rfl rfl ?_
    exact ⟨(fun k hk => by rw [gW_n (show k ≠ 15 by omega) (show k ≠ 16 by omega)]), rfl, Or.inr ⟨by rw [pieI, hd1], rfl, ⟨g1, rfl⟩, ⟨n9, hn9, rfl⟩, ⟨b17, n17, hn17, h17⟩, f0.cf d3, f1.cf d3, f2.cf d3, f3.cf d3, f4.cf d3, f5.cf d3, f6.cf d3, f7.cf d3, f8.cf d3, f9.cf d3, f10.cf d3, f11.cf d3, f12.cf d3⟩⟩

theorem k_read {Λ : kL} {S : Nat → Nat} {G : Nat → kc} {D : kh} (hS : cInj S) (hSt : kSt Λ) (hK : cK S G) (hF : cF Λ S G) {v : List Int32} (hT : tO S G 1 13 2000 v) : cCt Λ mX4_read 0 0 S [.ref (S 3), .ref (S 1)] G D (fun r G' D' => fFr G G' ∧ D' = D ∧ ((∃ g, fmS v = some g ∧ r = some (.int 1) ∧ cG Λ S G' g) ∨ (fmS v = none ∧ r = some (.int 0) ∧ cF Λ S G'))) := by
  refine cCt.of hS pn_X4 [some (.ref (S 3)), some (.ref (S 1)), none, none, none] rfl (Nat.le_of_ble_eq_true rfl) fun X => ?_
  have hT9 := hT; obtain ⟨ft9, t1, t2, t3, t4, t5, t6⟩ := hT9
  refine C.aload_nR dX4_read_0 rfl ?_
  refine C.callVS0 (k9 := 3) [] dX4_read_1 mdX4_forget imX4_forget seX4_forget kc_5 rfl hK.1 lk_X4_104 rfl rfl rfl rfl (k_forget hS hK hF) ?_
  rintro _ G1 D9 ⟨rfl, hff, hfr, e8⟩; have e8 := e8.symm; subst e8
  have hfr1 : fFr G G1 := fun k hk => hfr k (by omega)
  refine C.iconst (v := 0) dX4_read_4 (by decide) ?_
  refine C.istore_n (L' := [some (.ref (S 3)), some (.ref (S 1)), some (.int 0), none, none]) dX4_read_5 (by decide) rfl rfl ?_
  refine C.iconst (v := 0) dX4_read_6 (by decide) ?_
  refine C.istore_n (L' := [some (.ref (S 3)), some (.ref (S 1)), some (.int 0), some (.int 0), none]) dX4_read_7 (by decide) rfl rfl ?_
  refine C.iconst (v := 0) dX4_read_8 (by decide) ?_
  refine C.istore (L' := [some (.ref (S 3)), some (.ref (S 1)), some (.int 0), some (.int 0), some (.int 0)]) dX4_read_9 (by decide) rfl rfl ?_
  have cut_11 : ∀ (k_11 : Nat) (i : Nat) (p : Nat) (c : Nat) (acc : List Int32) (g : fvs) (G1 : Nat → kc), (p ≤ i) → (i ≤ v.length + 1) → (v.length + 3 ≤ i + k_11 + 0) → (c ≤ 20) → (acc.length ≤ p) → (ffG Λ S G1 acc g) → (fFr G G1) → (i ≤ v.length ∨ p = i) → (fmS v = frmI (gD v) v.length p c g) → (atI (gD v) 38 p v.length = atI (gD v) 38 i v.length) → C Λ X mX4_read 0 0 S (fun r G' D' => fFr G G' ∧ D' = D ∧ ((∃ g, fmS v = some g ∧ r = some (.int 1) ∧ cG Λ S G' g) ∨ (fmS v = none ∧ r = some (.int 0) ∧ cF Λ S G'))) 0 0 G1 D 11 [some (.ref (S 3)), some (.ref (S 1)), some (.int (nI c)), some (.int (nI p)), some (.int (nI i))] [] := by
    intro k_11
    induction k_11 with
    | zero => intro i p c acc g G1 h1 h3 h2 hc hal hff hfr1 hin hfm hat; exact absurd h2 (by omega)
    | succ k_11 ih_11 =>
      intro i p c acc g G1 h1 h3 h2 hc hal hff hfr1 hin hfm hat
      have hT1 : tO S G1 1 13 2000 v := by obtain ⟨f, q1, q2, q3⟩ := hT; exact ⟨f, (hfr1 1 (by decide)).trans q1, (hfr1 13 (by decide)).trans q2, q3⟩
      have hK1 : cK S G1 := ⟨(hfr1 3 (by decide)).trans hK.1, (hfr1 4 (by decide)).trans hK.2.1, (hfr1 5 (by decide)).trans hK.2.2.1, (hfr1 44 (by decide)).trans hK.2.2.2⟩
      refine C.iload dX4_read_11 rfl ?_
      refine C.aload_nR dX4_read_13 rfl ?_
      refine C.callVS0 (k9 := 1) [] dX4_read_14 mdX9_size imX9_size seX9_size kc_10 rfl ((hfr1 1 (by decide)).trans t1) lk_X4_107 rfl rfl rfl rfl (cCt.w0 (R := fun r => r = some (.int (nI v.length))) fun σ9 h9 => v_size (hT1.s.tx h9 rfl rfl)) ?_
      rintro _ G9 D9 ⟨rfl, e9, e8⟩
      have e9 := e9.symm; subst e9; have e8 := e8.symm; subst e8
      refine C.icmp_gt (tgt := 82) dX4_read_17 (by decide) (fun c_17 => ?_) (fun c_17 => ?_)
      · skip
        have hgt : v.length < i := (nI_ltI (by omega) (by omega)).mp c_17
        refine C.iconst (v := 1) dX4_read_82 (by decide) ?_
        refine C.zret dX4_read_83 rfl rfl ?_
        exact ⟨hfr1, rfl, Or.inl ⟨g, by rw [hfm, frmI_end (by omega)], rfl, hff.cG⟩⟩
      · skip
        have hle : i ≤ v.length := Nat.le_of_not_lt fun q => c_17 ((nI_ltI (by omega) (by omega)).mpr q)
        refine C.iload dX4_read_20 rfl ?_
        refine C.aload_nR dX4_read_22 rfl ?_
        refine C.callVS0 (k9 := 1) [] dX4_read_23 mdX9_size imX9_size seX9_size kc_10 rfl ((hfr1 1 (by decide)).trans t1) lk_X4_107 rfl rfl rfl rfl (cCt.w0 (R := fun r => r = some (.int (nI v.length))) fun σ9 h9 => v_size (hT1.s.tx h9 rfl rfl)) ?_
        rintro _ G9 D9 ⟨rfl, e9, e8⟩
        have e9 := e9.symm; subst e9; have e8 := e8.symm; subst e8
        refine C.icmp_ge (tgt := 43) dX4_read_26 (by decide) (fun c_26 => ?_) (fun c_26 => ?_)
        · skip
          have eqn : i = v.length := by have := (nI_leI (by omega) (by omega)).mp c_26; omega
          have hhit : atI (gD v) 38 p v.length = i := by rw [hat, eqn]; exact atI_n
          have hne : nhx v i := Or.inl eqn
          refine C.iload dX4_read_43 rfl ?_
          refine C.iload_n dX4_read_45 rfl ?_
          refine C.icmp_le (tgt := 71) dX4_read_46 (by decide) (fun c_46 => ?_) (fun c_46 => ?_)
          · skip
            have hpi : p = i := by have := (nI_leI (by omega) (by omega)).mp c_46; omega
            have hstep : frmI (gD v) v.length p c g = frmI (gD v) v.length (i + 1) c g := by
              rw [← hpi]
              by_cases hl : p < v.length
              · exact frmI_skip hl (hhit.trans hpi.symm)
              · rw [frmI_end (by omega), frmI_end (by omega)]
            refine C.iload dX4_read_71 rfl ?_
            refine C.iconst (v := 1) dX4_read_73 (by decide) ?_
            refine C.iadd dX4_read_74 ?_
            rw [show (nI i) + 1 = nI (i + 1) from nI_1 i]
            refine C.istore_n (L' := [some (.ref (S 3)), some (.ref (S 1)), some (.int (nI c)), some (.int (nI (i + 1))), some (.int (nI i))]) dX4_read_75 (by decide) rfl rfl ?_
            refine C.iinc (v := nI (i + 1)) (L' := [some (.ref (S 3)), some (.ref (S 1)), some (.int (nI c)), some (.int (nI (i + 1))), some (.int (nI (i + 1)))]) dX4_read_76 rfl (nI_1 i) (by decide) rfl rfl ?_
            refine C.goto (tgt := 11) dX4_read_79 (by decide) ?_
            exact ih_11 (i + 1) (i + 1) c acc g G1 (by omega) (by omega) (by omega) hc (by omega) hff hfr1 (Or.inr rfl) (hfm.trans hstep) (by first | (rw [atI_end (by omega), atI_end (by omega)]) | rfl)
          · skip
            have hlt : p < i := Nat.lt_of_not_le fun q => c_46 ((nI_leI (by omega) (by omega)).mpr q)
            have hn1 : ¬ atI (gD v) 38 p v.length = p := by rw [hhit]; omega
            refine C.iinc (v := nI (c + 1)) (L' := [some (.ref (S 3)), some (.ref (S 1)), some (.int (nI (c + 1))), some (.int (nI p)), some (.int (nI i))]) dX4_read_49 rfl (nI_1 c) (by decide) rfl rfl ?_
            refine C.iload_n dX4_read_52 rfl ?_
            refine C.bipush (v := 20) dX4_read_53 (by decide) ?_
            refine C.icmp_gt (tgt := 69) dX4_read_55 (by decide) (fun c_55 => ?_) (fun c_55 => ?_)
            · skip
              have h20 : 20 ≤ c := by have := (nI_ltI (a := 20) (by omega) (by omega)).mp c_55; omega
              refine C.iconst (v := 0) dX4_read_69 (by decide) ?_
              refine C.zret dX4_read_70 rfl rfl ?_
              exact ⟨hfr1, rfl, Or.inr ⟨by rw [hfm, frmI_many (by omega) hn1 h20], rfl, hff.cG.1⟩⟩
            · skip
              have h20 : ¬ 20 ≤ c := fun q => c_55 ((nI_ltI (a := 20) (by omega) (by omega)).mpr (by omega))
              refine C.aload_nR dX4_read_58 rfl ?_
              refine C.aload_nR dX4_read_59 rfl ?_
              refine C.iload_n dX4_read_60 rfl ?_
              refine C.iload dX4_read_61 rfl ?_
              refine C.callVS0 (k9 := 3) [.ref (S 1), .int (nI p), .int (nI i)] dX4_read_63 mdX4_readPiece imX4_readPiece seX4_readPiece kc_5 rfl hK1.1 lk_X4_115 rfl rfl rfl rfl (k_readPiece hS hSt hK1 hT1 hff hlt (by omega) hne (by omega)) ?_
              rintro _ G' D9 ⟨hfr2, e8, (⟨g', acc', hpo, rfl, hla, hff'⟩ | ⟨hpo, rfl, hcf⟩)⟩
              · have e8 := e8.symm; subst e8
                have hstep : frmI (gD v) v.length p c g = frmI (gD v) v.length (i + 1) (c + 1) g' := by
                  have h9 := frmI_go (f := gD v) (n := v.length) (p := p) (c := c) (g := g) (g' := g') (by omega) hn1 h20 (by rw [hhit]; exact hpo)
                  rw [hhit] at h9
                  exact h9
                refine C.if_ne (tgt := 71) dX4_read_66 (by decide) (fun c_66 => ?_) (fun c_66 => absurd c_66 (by decide))
                refine C.iload dX4_read_71 rfl ?_
                refine C.iconst (v := 1) dX4_read_73 (by decide) ?_
                refine C.iadd dX4_read_74 ?_
                rw [show (nI i) + 1 = nI (i + 1) from nI_1 i]
                refine C.istore_n (L' := [some (.ref (S 3)), some (.ref (S 1)), some (.int (nI (c + 1))), some (.int (nI (i + 1))), some (.int (nI i))]) dX4_read_75 (by decide) rfl rfl ?_
                refine C.iinc (v := nI (i + 1)) (L' := [some (.ref (S 3)), some (.ref (S 1)), some (.int (nI (c + 1))), some (.int (nI (i + 1))), some (.int (nI (i + 1)))]) dX4_read_76 rfl (nI_1 i) (by decide) rfl rfl ?_
                refine C.goto (tgt := 11) dX4_read_79 (by decide) ?_
                exact ih_11 (i + 1) (i + 1) (c + 1) acc' g' G' (by omega) (by omega) (by omega) (by omega) (by omega) hff' (hfr1.tr hfr2) (Or.inr rfl) (hfm.trans hstep) rfl
              · have e8 := e8.symm; subst e8
                refine C.if_ne (tgt := 71) dX4_read_66 (by decide) (fun c_66 => absurd c_66 (fun z => z rfl)) (fun c_66 => ?_)
                refine C.iconst (v := 0) dX4_read_69 (by decide) ?_
                refine C.zret dX4_read_70 rfl rfl ?_
                exact ⟨hfr1.tr hfr2, rfl, Or.inr ⟨by rw [hfm, frmI_bad (by omega) hn1 (by rw [hhit]; exact hpo)], rfl, hcf⟩⟩
        · skip
          have lt_n : i < v.length := nI_ltn c_26 (by omega) (by omega)
          refine C.aload_nR dX4_read_29 rfl ?_
          refine C.iload dX4_read_30 rfl ?_
          refine C.callVS0 (k9 := 1) [.int (nI i)] dX4_read_32 mdX9_at imX9_at seX9_at kc_10 rfl ((hfr1 1 (by decide)).trans t1) lk_X4_111 rfl rfl rfl rfl (cCt.w0 (R := fun r => r = some (.int (v.getD i 0 &&& 255))) fun σ9 h9 => v_at (hT1.s.tx h9 rfl rfl) lt_n) ?_
          rintro _ G9 D9 ⟨rfl, e9, e8⟩
          have e9 := e9.symm; subst e9; have e8 := e8.symm; subst e8
          refine C.bipush (v := 38) dX4_read_35 (by decide) ?_
          refine C.icmp_eq (tgt := 43) dX4_read_37 (by decide) (fun c_37 => ?_) (fun c_37 => ?_)
          · skip
            have e38 : gD v i = 38 := of_decide_eq_true ((eq255 (c := 38) (bts_at t6 lt_n) (by decide)).symm.trans (decide_eq_true c_37))
            have hhit : atI (gD v) 38 p v.length = i := hits hat lt_n e38
            have hne : nhx v i := Or.inr (Or.inl e38)
            refine C.iload dX4_read_43 rfl ?_
            refine C.iload_n dX4_read_45 rfl ?_
            refine C.icmp_le (tgt := 71) dX4_read_46 (by decide) (fun c_46 => ?_) (fun c_46 => ?_)
            · skip
              have hpi : p = i := by have := (nI_leI (by omega) (by omega)).mp c_46; omega
              have hstep : frmI (gD v) v.length p c g = frmI (gD v) v.length (i + 1) c g := by
                rw [← hpi]
                by_cases hl : p < v.length
                · exact frmI_skip hl (hhit.trans hpi.symm)
                · rw [frmI_end (by omega), frmI_end (by omega)]
              refine C.iload dX4_read_71 rfl ?_
              refine C.iconst (v := 1) dX4_read_73 (by decide) ?_
              refine C.iadd dX4_read_74 ?_
              rw [show (nI i) + 1 = nI (i + 1) from nI_1 i]
              refine C.istore_n (L' := [some (.ref (S 3)), some (.ref (S 1)), some (.int (nI c)), some (.int (nI (i + 1))), some (.int (nI i))]) dX4_read_75 (by decide) rfl rfl ?_
              refine C.iinc (v := nI (i + 1)) (L' := [some (.ref (S 3)), some (.ref (S 1)), some (.int (nI c)), some (.int (nI (i + 1))), some (.int (nI (i + 1)))]) dX4_read_76 rfl (nI_1 i) (by decide) rfl rfl ?_
              refine C.goto (tgt := 11) dX4_read_79 (by decide) ?_
              exact ih_11 (i + 1) (i + 1) c acc g G1 (by omega) (by omega) (by omega) hc (by omega) hff hfr1 (Or.inr rfl) (hfm.trans hstep) (by first | (rw [atI_end (by omega), atI_end (by omega)]) | rfl)
            · skip
              have hlt : p < i := Nat.lt_of_not_le fun q => c_46 ((nI_leI (by omega) (by omega)).mpr q)
              have hn1 : ¬ atI (gD v) 38 p v.length = p := by rw [hhit]; omega
              refine C.iinc (v := nI (c + 1)) (L' := [some (.ref (S 3)), some (.ref (S 1)), some (.int (nI (c + 1))), some (.int (nI p)), some (.int (nI i))]) dX4_read_49 rfl (nI_1 c) (by decide) rfl rfl ?_
              refine C.iload_n dX4_read_52 rfl ?_
              refine C.bipush (v := 20) dX4_read_53 (by decide) ?_
              refine C.icmp_gt (tgt := 69) dX4_read_55 (by decide) (fun c_55 => ?_) (fun c_55 => ?_)
              · skip
                have h20 : 20 ≤ c := by have := (nI_ltI (a := 20) (by omega) (by omega)).mp c_55; omega
                refine C.iconst (v := 0) dX4_read_69 (by decide) ?_
                refine C.zret dX4_read_70 rfl rfl ?_
                exact ⟨hfr1, rfl, Or.inr ⟨by rw [hfm, frmI_many (by omega) hn1 h20], rfl, hff.cG.1⟩⟩
              · skip
                have h20 : ¬ 20 ≤ c := fun q => c_55 ((nI_ltI (a := 20) (by omega) (by omega)).mpr (by omega))
                refine C.aload_nR dX4_read_58 rfl ?_
                refine C.aload_nR dX4_read_59 rfl ?_
                refine C.iload_n dX4_read_60 rfl ?_
                refine C.iload dX4_read_61 rfl ?_
                refine C.callVS0 (k9 := 3) [.ref (S 1), .int (nI p), .int (nI i)] dX4_read_63 mdX4_readPiece imX4_readPiece seX4_readPiece kc_5 rfl hK1.1 lk_X4_115 rfl rfl rfl rfl (k_readPiece hS hSt hK1 hT1 hff hlt (by omega) hne (by omega)) ?_
                rintro _ G' D9 ⟨hfr2, e8, (⟨g', acc', hpo, rfl, hla, hff'⟩ | ⟨hpo, rfl, hcf⟩)⟩
                · have e8 := e8.symm; subst e8
                  have hstep : frmI (gD v) v.length p c g = frmI (gD v) v.length (i + 1) (c + 1) g' := by
                    have h9 := frmI_go (f := gD v) (n := v.length) (p := p) (c := c) (g := g) (g' := g') (by omega) hn1 h20 (by rw [hhit]; exact hpo)
                    rw [hhit] at h9
                    exact h9
                  refine C.if_ne (tgt := 71) dX4_read_66 (by decide) (fun c_66 => ?_) (fun c_66 => absurd c_66 (by decide))
                  refine C.iload dX4_read_71 rfl ?_
                  refine C.iconst (v := 1) dX4_read_73 (by decide) ?_
                  refine C.iadd dX4_read_74 ?_
                  rw [show (nI i) + 1 = nI (i + 1) from nI_1 i]
                  refine C.istore_n (L' := [some (.ref (S 3)), some (.ref (S 1)), some (.int (nI (c + 1))), some (.int (nI (i + 1))), some (.int (nI i))]) dX4_read_75 (by decide) rfl rfl ?_
                  refine C.iinc (v := nI (i + 1)) (L' := [some (.ref (S 3)), some (.ref (S 1)), some (.int (nI (c + 1))), some (.int (nI (i + 1))), some (.int (nI (i + 1)))]) dX4_read_76 rfl (nI_1 i) (by decide) rfl rfl ?_
                  refine C.goto (tgt := 11) dX4_read_79 (by decide) ?_
                  exact ih_11 (i + 1) (i + 1) (c + 1) acc' g' G' (by omega) (by omega) (by omega) (by omega) (by omega) hff' (hfr1.tr hfr2) (Or.inr rfl) (hfm.trans hstep) rfl
                · have e8 := e8.symm; subst e8
                  refine C.if_ne (tgt := 71) dX4_read_66 (by decide) (fun c_66 => absurd c_66 (fun z => z rfl)) (fun c_66 => ?_)
                  refine C.iconst (v := 0) dX4_read_69 (by decide) ?_
                  refine C.zret dX4_read_70 rfl rfl ?_
                  exact ⟨hfr1.tr hfr2, rfl, Or.inr ⟨by rw [hfm, frmI_bad (by omega) hn1 (by rw [hhit]; exact hpo)], rfl, hcf⟩⟩
          · skip
            refine C.goto (tgt := 76) dX4_read_40 (by decide) ?_
            refine C.iinc (v := nI (i + 1)) (L' := [some (.ref (S 3)), some (.ref (S 1)), some (.int (nI c)), some (.int (nI p)), some (.int (nI (i + 1)))]) dX4_read_76 rfl (nI_1 i) (by decide) rfl rfl ?_
            refine C.goto (tgt := 11) dX4_read_79 (by decide) ?_
            exact ih_11 (i + 1) p c acc g G1 (by omega) (by omega) (by omega) hc (hal) hff hfr1 (Or.inl (by omega)) hfm (hat.trans (atI_f lt_n (fun q => c_37 (by show gD v i &&& 255 = 38; rw [q]; decide))))
  exact cut_11 (v.length + 3) 0 0 0 [] vf0 G1 (by omega) (by omega) (by omega) (by omega) (by rw [List.length_nil]; omega) hff hfr1 (Or.inl (by omega)) rfl rfl
