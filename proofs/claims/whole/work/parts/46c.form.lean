theorem k_decode {Λ : kL} {S : Nat → Nat} {G : Nat → kc} {D : kh} (hS : cInj S) (hK : cK S G) {v acc : List Int32} (hT : tO S G 1 13 2000 v) (hD : tO S G 15 16 2000 acc) {s9 en9 : Nat} (hse : s9 ≤ en9 + 1) (hev : en9 ≤ v.length) (hnx : nhx v en9) (hca : acc.length + (en9 - s9) ≤ 2000) : cCt Λ mX4_decode 0 0 S [.ref (S 3), .ref (S 1), .int (nI s9), .int (nI en9)] G D (fun r G' D' => (∃ l, decI (gD v) s9 en9 = some l ∧ r = some (.int 1) ∧ ∃ f, tl f 0 (acc ++ l).length = acc ++ l ∧ bts (acc ++ l) ∧ G' = gW S G 15 16 2000 f (acc ++ l).length ∧ D' = D) ∨ (decI (gD v) s9 en9 = none ∧ r = some (.int 0) ∧ ∃ f n, n ≤ 2000 ∧ G' = gW S G 15 16 2000 f n ∧ D' = D)) := by
  refine cCt.of hS pn_X4 [some (.ref (S 3)), some (.ref (S 1)), some (.int (nI s9)), some (.int (nI en9)), none, none, none, none] rfl (Nat.le_of_ble_eq_true rfl) fun X => ?_
  have hT9 := hT; obtain ⟨ft9, t1, t2, t3, t4, t5, t6⟩ := hT9
  have hD9 := hD; obtain ⟨fd, d1, d2, d3, d4, d5, d6⟩ := hD9
  refine C.iload_n dX4_decode_0 rfl ?_
  refine C.istore (L' := [some (.ref (S 3)), some (.ref (S 1)), some (.int (nI s9)), some (.int (nI en9)), some (.int (nI s9)), none, none, none]) dX4_decode_1 (by decide) rfl rfl ?_
  have cut_3 : ∀ (k_3 : Nat) (i : Nat) (l : List Int32) (f : Nat → Int32), (s9 ≤ i) → (i ≤ en9 + 1) → (en9 + 2 ≤ i + k_3) → (l.length + s9 ≤ i) → (decI (gD v) s9 en9 = (decI (gD v) i en9).map (fun z => l ++ z)) → (tl f 0 (acc ++ l).length = acc ++ l) → (bts (acc ++ l)) → C Λ X mX4_decode 0 0 S (fun r G' D' => (∃ l, decI (gD v) s9 en9 = some l ∧ r = some (.int 1) ∧ ∃ f, tl f 0 (acc ++ l).length = acc ++ l ∧ bts (acc ++ l) ∧ G' = gW S G 15 16 2000 f (acc ++ l).length ∧ D' = D) ∨ (decI (gD v) s9 en9 = none ∧ r = some (.int 0) ∧ ∃ f n, n ≤ 2000 ∧ G' = gW S G 15 16 2000 f n ∧ D' = D)) 0 0 (gW S G 15 16 2000 f (acc ++ l).length) D 3 [some (.ref (S 3)), some (.ref (S 1)), some (.int (nI s9)), some (.int (nI en9)), some (.int (nI i)), none, none, none] [] := by
    intro k_3
    induction k_3 with
    | zero => intro i l f h1 h3 h2 hll hdc hf hb; exact absurd h2 (by omega)
    | succ k_3 ih_3 =>
      intro i l f h1 h3 h2 hll hdc hf hb
      refine C.iload dX4_decode_3 rfl ?_
      refine C.iload_n dX4_decode_5 rfl ?_
      refine C.icmp_ge (tgt := 125) dX4_decode_6 (by decide) (fun c_6 => ?_) (fun c_6 => ?_)
      · skip
        refine C.iconst (v := 1) dX4_decode_125 (by decide) ?_
        refine C.zret dX4_decode_126 rfl rfl ?_
        refine Or.inl ⟨l, by rw [hdc, decI_end ((nI_leI (by omega) (by omega)).mp c_6)]; exact congrArg some (List.append_nil l), rfl, f, hf, hb, rfl, rfl⟩
      · skip
        have lt_i : i < en9 := nI_ltn c_6 (by omega) (by omega)
        have hiv : i < v.length := by omega
        have hbi : b8 (gD v i) = gD v i := bts_at t6 hiv
        refine C.aload_nR dX4_decode_9 rfl ?_
        refine C.iload dX4_decode_10 rfl ?_
        refine C.callVS0 (k9 := 1) [.int (nI i)] dX4_decode_12 mdX9_at imX9_at seX9_at kc_10 rfl t1 lk_X4_111 rfl rfl rfl rfl (cCt.w0 (R := fun r => r = some (.int (v.getD i 0 &&& 255))) fun σ9 h9 => v_at ((show tO S (gW S G 15 16 2000 f (acc ++ l).length) 1 13 2000 v from hT).s.tx h9 rfl rfl) (show i < v.length by omega)) ?_
        rintro _ G9 D9 ⟨rfl, e9, e8⟩
        have e9 := e9.symm; subst e9; have e8 := e8.symm; subst e8
        refine C.istore (L' := [some (.ref (S 3)), some (.ref (S 1)), some (.int (nI s9)), some (.int (nI en9)), some (.int (nI i)), some (.int (v.getD i 0 &&& 255)), none, none]) dX4_decode_15 (by decide) rfl rfl ?_
        refine C.iload dX4_decode_17 rfl ?_
        refine C.bipush (v := 37) dX4_decode_19 (by decide) ?_
        refine C.icmp_ne (tgt := 85) dX4_decode_21 (by decide) (fun c_21 => ?_) (fun c_21 => ?_)
        · skip
          have n37 : ¬ gD v i = 37 := of_decide_eq_false ((eq255 (c := 37) hbi (by decide)).symm.trans (decide_eq_false c_21))
          refine C.iload dX4_decode_85 rfl ?_
          refine C.callS0 [.int (v.getD i 0 &&& 255)] dX4_decode_87 mdX11_isVisibleByte ssX11_isVisibleByte lk_X4_155 rfl rfl rfl rfl (cCt.w0 (R := fun r => r = some (.int (bI (visb (v.getD i 0 &&& 255))))) fun σ9 h9 => c_isVisibleByte (v.getD i 0 &&& 255)) ?_
          rintro _ G9 D9 ⟨rfl, e9, e8⟩
          have e9 := e9.symm; subst e9; have e8 := e8.symm; subst e8
          refine C.if_eq (tgt := 117) dX4_decode_90 (by decide) (fun c_90 => ?_) (fun c_90 => ?_)
          · skip
            have hbd : decI (gD v) i en9 = none := decI_inv lt_i n37 (by rw [← vis255 hbi]; rw [show visb (gD v i &&& 255) = false from (bI_eq0 _).mp c_90]; decide)
            refine C.iconst (v := 0) dX4_decode_117 (by decide) ?_
            refine C.zret dX4_decode_118 rfl rfl ?_
            refine Or.inr ⟨by rw [hdc, hbd]; rfl, rfl, _, _, (by rw [List.length_append]; omega), rfl, rfl⟩
          · skip
            have hvis : visb (gD v i) = true := by rw [← vis255 hbi]; exact bt1 c_90
            have hvs := decI_vis lt_i n37 hvis
            refine C.aload_nR dX4_decode_93 rfl ?_
            refine C.getS (k9 := 3) (fs := [.ref (S 15), .ref (S 17), .ref (S 18), .ref (S 19), .ref (S 20), .ref (S 21), .ref (S 22), .ref (S 23), .ref (S 24), .ref (S 25), .ref (S 26), .ref (S 27), .ref (S 28), .ref (S 29), .ref (S 30), .ref (S 44)]) dX4_decode_94 fl_X4_14 rfl hK.1 rfl ?_
            refine C.iload dX4_decode_97 rfl ?_
            refine C.bipush (v := 43) dX4_decode_99 (by decide) ?_
            refine C.icmp_ne (tgt := 109) dX4_decode_101 (by decide) (fun c_101 => ?_) (fun c_101 => ?_)
            · skip
              have n43 : ¬ gD v i = 43 := fun q => c_101 (by show gD v i &&& 255 = 43; rw [q]; decide)
              refine C.iload dX4_decode_109 rfl ?_
              refine C.callVS0 (k9 := 15) [.int (v.getD i 0 &&& 255)] dX4_decode_111 mdX9_add imX9_add seX9_add kc_10 rfl rfl lk_X4_153 rfl rfl rfl rfl (o_add hS (show tO S (gW S G 15 16 2000 f (acc ++ l).length) 15 16 2000 (acc ++ l) from (tO.gW (by decide) (by rw [List.length_append]; omega) (by decide) hf hb)) rfl rfl (by rw [List.length_append]; omega) (v.getD i 0 &&& 255)) ?_
              rintro _ _ D9 ⟨f9_1, h_f9_1, b_f9_1, rfl, rfl, e8⟩; have e8 := e8.symm; subst e8
              rw [gW_gW _ _ _ _ _ _ _ (by decide)]
              rw [show b8 (v.getD i 0 &&& 255) = (if gD v i = 43 then 32 else gD v i) from (by rw [if_neg n43]; exact b8_255 _ (bts_at t6 hiv))] at h_f9_1 b_f9_1 ⊢
              refine C.goto (tgt := 119) dX4_decode_114 (by decide) ?_
              refine C.iinc (v := nI (i + 1)) (L' := [some (.ref (S 3)), some (.ref (S 1)), some (.int (nI s9)), some (.int (nI en9)), some (.int (nI (i + 1))), some (.int (v.getD i 0 &&& 255)), none, none]) dX4_decode_119 rfl (nI_1 i) (by decide) rfl rfl ?_
              refine C.goto (tgt := 3) dX4_decode_122 (by decide) ?_
              refine C.drop (i := 5) (L' := [some (.ref (S 3)), some (.ref (S 1)), some (.int (nI s9)), some (.int (nI en9)), some (.int (nI (i + 1))), none, none, none]) rfl ?_
              have t9 := ih_3 (i + 1) _ _ (by omega) (by omega) (by omega) (by rw [List.length_append, List.length_singleton]; omega) (hdc.trans (map_app hvs)) (by rw [← List.append_assoc]; exact h_f9_1) (by rw [← List.append_assoc]; exact b_f9_1)
              rw [← List.append_assoc] at t9
              exact t9
            · skip
              have e43 : gD v i = 43 := by have h9 := b8_255 (gD v i) hbi; rw [show gD v i &&& 255 = 43 from c_101] at h9; exact h9.symm
              refine C.bipush (v := 32) dX4_decode_104 (by decide) ?_
              refine C.goto (tgt := 111) dX4_decode_106 (by decide) ?_
              refine C.callVS0 (k9 := 15) [.int 32] dX4_decode_111 mdX9_add imX9_add seX9_add kc_10 rfl rfl lk_X4_153 rfl rfl rfl rfl (o_add hS (show tO S (gW S G 15 16 2000 f (acc ++ l).length) 15 16 2000 (acc ++ l) from (tO.gW (by decide) (by rw [List.length_append]; omega) (by decide) hf hb)) rfl rfl (by rw [List.length_append]; omega) 32) ?_
              rintro _ _ D9 ⟨f9_2, h_f9_2, b_f9_2, rfl, rfl, e8⟩; have e8 := e8.symm; subst e8
              rw [gW_gW _ _ _ _ _ _ _ (by decide)]
              rw [show b8 32 = (if gD v i = 43 then 32 else gD v i) from (by rw [if_pos e43]; rfl)] at h_f9_2 b_f9_2 ⊢
              refine C.goto (tgt := 119) dX4_decode_114 (by decide) ?_
              refine C.iinc (v := nI (i + 1)) (L' := [some (.ref (S 3)), some (.ref (S 1)), some (.int (nI s9)), some (.int (nI en9)), some (.int (nI (i + 1))), some (.int (v.getD i 0 &&& 255)), none, none]) dX4_decode_119 rfl (nI_1 i) (by decide) rfl rfl ?_
              refine C.goto (tgt := 3) dX4_decode_122 (by decide) ?_
              refine C.drop (i := 5) (L' := [some (.ref (S 3)), some (.ref (S 1)), some (.int (nI s9)), some (.int (nI en9)), some (.int (nI (i + 1))), none, none, none]) rfl ?_
              have t9 := ih_3 (i + 1) _ _ (by omega) (by omega) (by omega) (by rw [List.length_append, List.length_singleton]; omega) (hdc.trans (map_app hvs)) (by rw [← List.append_assoc]; exact h_f9_2) (by rw [← List.append_assoc]; exact b_f9_2)
              rw [← List.append_assoc] at t9
              exact t9
        · skip
          have e37 : gD v i = 37 := of_decide_eq_true ((eq255 (c := 37) hbi (by decide)).symm.trans (decide_eq_true c_21))
          refine C.aload_nR dX4_decode_24 rfl ?_
          refine C.iload dX4_decode_25 rfl ?_
          refine C.iconst (v := 1) dX4_decode_27 (by decide) ?_
          refine C.iadd dX4_decode_28 ?_
          rw [show (nI i) + 1 = nI (i + 1) from nI_1 i]
          refine C.callVS0 (k9 := 1) [.int (nI (i + 1))] dX4_decode_29 mdX9_at imX9_at seX9_at kc_10 rfl t1 lk_X4_111 rfl rfl rfl rfl (cCt.w0 (R := fun r => r = some (.int (if (i + 1) < v.length then v.getD (i + 1) 0 &&& 255 else -1))) fun σ9 h9 => v_atg ((show tO S (gW S G 15 16 2000 f (acc ++ l).length) 1 13 2000 v from hT).s.tx h9 rfl rfl) (i + 1) (by omega)) ?_
          rintro _ G9 D9 ⟨rfl, e9, e8⟩
          have e9 := e9.symm; subst e9; have e8 := e8.symm; subst e8
          have hct9 := fun σ9 : kh => c_hexDigit (Λ := Λ) (σ := σ9) (if (i + 1) < v.length then v.getD (i + 1) 0 &&& 255 else -1)
          rw [(hx_at t6 (i + 1)).1] at hct9
          refine C.callS0 [.int (if (i + 1) < v.length then v.getD (i + 1) 0 &&& 255 else -1)] dX4_decode_32 mdX11_hexDigit ssX11_hexDigit lk_X4_150 rfl rfl rfl rfl (cCt.w0 (R := fun r => r = some (.int (hexd (gD v (i + 1))))) fun σ9 h9 => hct9 σ9) ?_
          rintro _ G9 D9 ⟨rfl, e9, e8⟩
          have e9 := e9.symm; subst e9; have e8 := e8.symm; subst e8
          refine C.istore (L' := [some (.ref (S 3)), some (.ref (S 1)), some (.int (nI s9)), some (.int (nI en9)), some (.int (nI i)), some (.int (v.getD i 0 &&& 255)), some (.int (hexd (gD v (i + 1)))), none]) dX4_decode_35 (by decide) rfl rfl ?_
          refine C.aload_nR dX4_decode_37 rfl ?_
          refine C.iload dX4_decode_38 rfl ?_
          refine C.iconst (v := 2) dX4_decode_40 (by decide) ?_
          refine C.iadd dX4_decode_41 ?_
          rw [show (nI i) + 2 = nI (i + 2) from nI_add i 2]
          refine C.callVS0 (k9 := 1) [.int (nI (i + 2))] dX4_decode_42 mdX9_at imX9_at seX9_at kc_10 rfl t1 lk_X4_111 rfl rfl rfl rfl (cCt.w0 (R := fun r => r = some (.int (if (i + 2) < v.length then v.getD (i + 2) 0 &&& 255 else -1))) fun σ9 h9 => v_atg ((show tO S (gW S G 15 16 2000 f (acc ++ l).length) 1 13 2000 v from hT).s.tx h9 rfl rfl) (i + 2) (by omega)) ?_
          rintro _ G9 D9 ⟨rfl, e9, e8⟩
          have e9 := e9.symm; subst e9; have e8 := e8.symm; subst e8
          have hct9 := fun σ9 : kh => c_hexDigit (Λ := Λ) (σ := σ9) (if (i + 2) < v.length then v.getD (i + 2) 0 &&& 255 else -1)
          rw [(hx_at t6 (i + 2)).1] at hct9
          refine C.callS0 [.int (if (i + 2) < v.length then v.getD (i + 2) 0 &&& 255 else -1)] dX4_decode_45 mdX11_hexDigit ssX11_hexDigit lk_X4_150 rfl rfl rfl rfl (cCt.w0 (R := fun r => r = some (.int (hexd (gD v (i + 2))))) fun σ9 h9 => hct9 σ9) ?_
          rintro _ G9 D9 ⟨rfl, e9, e8⟩
          have e9 := e9.symm; subst e9; have e8 := e8.symm; subst e8
          refine C.istore (L' := [some (.ref (S 3)), some (.ref (S 1)), some (.int (nI s9)), some (.int (nI en9)), some (.int (nI i)), some (.int (v.getD i 0 &&& 255)), some (.int (hexd (gD v (i + 1)))), some (.int (hexd (gD v (i + 2))))]) dX4_decode_48 (by decide) rfl rfl ?_
          refine C.iload dX4_decode_50 rfl ?_
          refine C.iconst (v := (-1)) dX4_decode_52 (by decide) ?_
          refine C.icmp_eq (tgt := 62) dX4_decode_53 (by decide) (fun c_53 => ?_) (fun c_53 => ?_)
          · skip
            have hbd : decI (gD v) i en9 = none := decI_bad lt_i e37 (by first | exact Or.inr (Or.inl (by rw [c_53]; decide)) | exact Or.inr (Or.inr (by rw [c_59]; decide)))
            refine C.iconst (v := 0) dX4_decode_62 (by decide) ?_
            refine C.zret dX4_decode_63 rfl rfl ?_
            refine Or.inr ⟨by rw [hdc, hbd]; rfl, rfl, _, _, (by rw [List.length_append]; omega), rfl, rfl⟩
          · skip
            refine C.iload dX4_decode_56 rfl ?_
            refine C.iconst (v := (-1)) dX4_decode_58 (by decide) ?_
            refine C.icmp_ne (tgt := 64) dX4_decode_59 (by decide) (fun c_59 => ?_) (fun c_59 => ?_)
            · skip
              have hn1 : ¬ hexd (gD v (i + 1)) < 0 := fun q => c_53 ((hx_at t6 (i + 1)).2 q)
              have hn2 : ¬ hexd (gD v (i + 2)) < 0 := fun q => c_59 ((hx_at t6 (i + 2)).2 q)
              have hq3 : i + 3 ≤ en9 := by
                have hng := hnx.neg
                refine Nat.le_of_not_lt fun q => ?_
                rcases (show en9 = i + 1 ∨ en9 = i + 2 by omega) with q | q
                · rw [q] at hng; exact hn1 hng
                · rw [q] at hng; exact hn2 hng
              have hnb : ¬ (en9 < i + 3 ∨ hexd (gD v (i + 1)) < 0 ∨ hexd (gD v (i + 2)) < 0) := fun q => q.elim (fun z => by omega) (fun q => q.elim hn1 hn2)
              refine C.aload_nR dX4_decode_64 rfl ?_
              refine C.getS (k9 := 3) (fs := [.ref (S 15), .ref (S 17), .ref (S 18), .ref (S 19), .ref (S 20), .ref (S 21), .ref (S 22), .ref (S 23), .ref (S 24), .ref (S 25), .ref (S 26), .ref (S 27), .ref (S 28), .ref (S 29), .ref (S 30), .ref (S 44)]) dX4_decode_65 fl_X4_14 rfl hK.1 rfl ?_
              refine C.iload dX4_decode_68 rfl ?_
              refine C.bipush (v := 16) dX4_decode_70 (by decide) ?_
              refine C.imul dX4_decode_72 ?_
              refine C.iload dX4_decode_73 rfl ?_
              refine C.iadd dX4_decode_75 ?_
              refine C.callVS0 (k9 := 15) [.int (((hexd (gD v (i + 1))) * 16) + (hexd (gD v (i + 2))))] dX4_decode_76 mdX9_add imX9_add seX9_add kc_10 rfl rfl lk_X4_153 rfl rfl rfl rfl (o_add hS (show tO S (gW S G 15 16 2000 f (acc ++ l).length) 15 16 2000 (acc ++ l) from (tO.gW (by decide) (by rw [List.length_append]; omega) (by decide) hf hb)) rfl rfl (by rw [List.length_append]; omega) (((hexd (gD v (i + 1))) * 16) + (hexd (gD v (i + 2))))) ?_
              rintro _ _ D9 ⟨f9_3, h_f9_3, b_f9_3, rfl, rfl, e8⟩; have e8 := e8.symm; subst e8
              rw [gW_gW _ _ _ _ _ _ _ (by decide)]
              rw [show b8 (((hexd (gD v (i + 1))) * 16) + (hexd (gD v (i + 2)))) = b8 (16 * hexd (gD v (i + 1)) + hexd (gD v (i + 2))) from (by rw [Int32.mul_comm])] at h_f9_3 b_f9_3 ⊢
              refine C.iinc (v := nI (i + 2)) (L' := [some (.ref (S 3)), some (.ref (S 1)), some (.int (nI s9)), some (.int (nI en9)), some (.int (nI (i + 2))), some (.int (v.getD i 0 &&& 255)), some (.int (hexd (gD v (i + 1)))), some (.int (hexd (gD v (i + 2))))]) dX4_decode_79 rfl (nI_add i 2) (by decide) rfl rfl ?_
              refine C.goto (tgt := 119) dX4_decode_82 (by decide) ?_
              refine C.iinc (v := nI (i + 3)) (L' := [some (.ref (S 3)), some (.ref (S 1)), some (.int (nI s9)), some (.int (nI en9)), some (.int (nI (i + 3))), some (.int (v.getD i 0 &&& 255)), some (.int (hexd (gD v (i + 1)))), some (.int (hexd (gD v (i + 2))))]) dX4_decode_119 rfl (nI_1 (i + 2)) (by decide) rfl rfl ?_
              refine C.goto (tgt := 3) dX4_decode_122 (by decide) ?_
              refine C.drop (i := 5) (L' := [some (.ref (S 3)), some (.ref (S 1)), some (.int (nI s9)), some (.int (nI en9)), some (.int (nI (i + 3))), none, some (.int (hexd (gD v (i + 1)))), some (.int (hexd (gD v (i + 2))))]) rfl ?_
              refine C.drop (i := 6) (L' := [some (.ref (S 3)), some (.ref (S 1)), some (.int (nI s9)), some (.int (nI en9)), some (.int (nI (i + 3))), none, none, some (.int (hexd (gD v (i + 2))))]) rfl ?_
              refine C.drop (i := 7) (L' := [some (.ref (S 3)), some (.ref (S 1)), some (.int (nI s9)), some (.int (nI en9)), some (.int (nI (i + 3))), none, none, none]) rfl ?_
              have t9 := ih_3 (i + 3) _ _ (by omega) (by omega) (by omega) (by rw [List.length_append, List.length_singleton]; omega) (hdc.trans (map_app (decI_pct lt_i e37 hnb))) (by rw [← List.append_assoc]; exact h_f9_3) (by rw [← List.append_assoc]; exact b_f9_3)
              rw [← List.append_assoc] at t9
              exact t9
            · skip
              have hbd : decI (gD v) i en9 = none := decI_bad lt_i e37 (by first | exact Or.inr (Or.inl (by rw [c_53]; decide)) | exact Or.inr (Or.inr (by rw [c_59]; decide)))
              refine C.iconst (v := 0) dX4_decode_62 (by decide) ?_
              refine C.zret dX4_decode_63 rfl rfl ?_
              refine Or.inr ⟨by rw [hdc, hbd]; rfl, rfl, _, _, (by rw [List.length_append]; omega), rfl, rfl⟩
  have t9 := cut_3 (en9 + 2) s9 [] fd (by omega) (by omega) (by omega) (by rw [List.length_nil]; omega) (by cases decI (gD v) s9 en9 <;> rfl) (by rw [List.append_nil]; exact d5) (by rw [List.append_nil]; exact d6)
  rw [List.append_nil, gW_id d1 d2] at t9
  exact t9
