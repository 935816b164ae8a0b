theorem knw_at {l : List Int32} (i : Nat) (hi : i < 13) (hn : ∀ k, k < i → ¬ l = nmL.getD k []) (hy : l = nmL.getD i []) : knw l = i := by
  have hg := fsti_ge (p := fun k => decide (l = nmL.getD k [])) (k := 13) (i := 0)
  rw [knw]
  refine Nat.le_antisymm (Nat.le_of_not_lt fun q => ?_) (Nat.le_of_not_lt fun q => ?_)
  · exact absurd hy (of_decide_eq_false (fsti_lt (p := fun k => decide (l = nmL.getD k [])) (Nat.zero_le i) q))
  · have hy2 := fsti_yes (p := fun k => decide (l = nmL.getD k [])) (k := 13) (i := 0) (by omega)
    exact hn _ q (of_decide_eq_true hy2)
theorem knw_no {l : List Int32} (hn : ∀ k, k < 13 → ¬ l = nmL.getD k []) : knw l = 13 := by
  have hg := fsti_ge (p := fun k => decide (l = nmL.getD k [])) (k := 13) (i := 0)
  rw [knw]
  refine Nat.le_antisymm (by omega) (Nat.le_of_not_lt fun q => ?_)
  have hy2 := fsti_yes (p := fun k => decide (l = nmL.getD k [])) (k := 13) (i := 0) (by omega)
  exact hn _ q (of_decide_eq_true hy2)

theorem k_fieldOf {Λ : kL} {S : Nat → Nat} {G : Nat → kc} {D : kh} (hS : cInj S) (hSt : kSt Λ) (hK : cK S G) {nm : List Int32} (hN : tS S G 17 16 2000 nm) {to0 : Bool} (fe0 : G 18 = oFi (kSa Λ RX4 28) (S 31) to0) {to1 : Bool} (fe1 : G 19 = oFi (kSa Λ RX4 37) (S 32) to1) {to2 : Bool} (fe2 : G 20 = oFi (kSa Λ RX4 42) (S 33) to2) {to3 : Bool} (fe3 : G 21 = oFi (kSa Λ RX4 47) (S 34) to3) {to4 : Bool} (fe4 : G 22 = oFi (kSa Λ RX4 51) (S 35) to4) {to5 : Bool} (fe5 : G 23 = oFi (kSa Λ RX4 55) (S 36) to5) {to6 : Bool} (fe6 : G 24 = oFi (kSa Λ RX4 60) (S 37) to6) {to7 : Bool} (fe7 : G 25 = oFi (kSa Λ RX4 65) (S 38) to7) {to8 : Bool} (fe8 : G 26 = oFi (kSa Λ RX4 70) (S 39) to8) {to9 : Bool} (fe9 : G 27 = oFi (kSa Λ RX4 74) (S 40) to9) {to10 : Bool} (fe10 : G 28 = oFi (kSa Λ RX4 79) (S 41) to10) {to11 : Bool} (fe11 : G 29 = oFi (kSa Λ RX4 84) (S 42) to11) {to12 : Bool} (fe12 : G 30 = oFi (kSa Λ RX4 89) (S 43) to12) : cCt Λ mX4_fieldOf 0 0 S [.ref (S 3), .ref (S 17)] G D (fun r G' D' => (knw nm = 13 ∧ r = some .null ∧ G' = G ∧ D' = D) ∨ (knw nm = 0 ∧ r = some (.ref (S 18)) ∧ G' = G ∧ D' = D) ∨ (knw nm = 1 ∧ r = some (.ref (S 19)) ∧ G' = G ∧ D' = D) ∨ (knw nm = 2 ∧ r = some (.ref (S 20)) ∧ G' = G ∧ D' = D) ∨ (knw nm = 3 ∧ r = some (.ref (S 21)) ∧ G' = G ∧ D' = D) ∨ (knw nm = 4 ∧ r = some (.ref (S 22)) ∧ G' = G ∧ D' = D) ∨ (knw nm = 5 ∧ r = some (.ref (S 23)) ∧ G' = G ∧ D' = D) ∨ (knw nm = 6 ∧ r = some (.ref (S 24)) ∧ G' = G ∧ D' = D) ∨ (knw nm = 7 ∧ r = some (.ref (S 25)) ∧ G' = G ∧ D' = D) ∨ (knw nm = 8 ∧ r = some (.ref (S 26)) ∧ G' = G ∧ D' = D) ∨ (knw nm = 9 ∧ r = some (.ref (S 27)) ∧ G' = G ∧ D' = D) ∨ (knw nm = 10 ∧ r = some (.ref (S 28)) ∧ G' = G ∧ D' = D) ∨ (knw nm = 11 ∧ r = some (.ref (S 29)) ∧ G' = G ∧ D' = D) ∨ (knw nm = 12 ∧ r = some (.ref (S 30)) ∧ G' = G ∧ D' = D)) := by
  refine cCt.of hS pn_X4 [some (.ref (S 3)), some (.ref (S 17)), none] rfl (Nat.le_of_ble_eq_true rfl) fun X => ?_
  have hN9 := hN; obtain ⟨b17, f17, x17, -⟩ := hN9
  refine C.iconst (v := 0) dX4_fieldOf_0 (by decide) ?_
  refine C.istore_n (L' := [some (.ref (S 3)), some (.ref (S 17)), some (.int 0)]) dX4_fieldOf_1 (by decide) rfl rfl ?_
  refine C.iload_n dX4_fieldOf_2 rfl ?_
  refine C.aload_nR dX4_fieldOf_3 rfl ?_
  refine C.getS (k9 := 3) (fs := [.ref (S 15), .ref (S 17), .ref (S 18), .ref (S 19), .ref (S 20), .ref (S 21), .ref (S 22), .ref (S 23), .ref (S 24), .ref (S 25), .ref (S 26), .ref (S 27), .ref (S 28), .ref (S 29), .ref (S 30), .ref (S 44)]) dX4_fieldOf_4 fl_X4_96 rfl hK.1 rfl ?_
  refine C.callLS0 (k9 := 44) [] dX4_fieldOf_7 mdJx4a65c_size_8abf5 imJx4a65c_size_8abf5 seJx4a65c_size_8abf5 rfl hK.2.2.2 lk_X4_122 rfl rfl rfl rfl (cCt.w0 (R := fun r => r = some (.int (nI (rv (fl13 S)).length))) fun σ9 h9 => c_list_size (h9.at (k := 44) rfl hK.2.2.2)) ?_
  rintro _ G9 D9 ⟨rfl, e9, e8⟩
  have e9 := e9.symm; subst e9; have e8 := e8.symm; subst e8
  refine C.icmp_ge (tgt := 52) dX4_fieldOf_10 (by decide) (fun c_10 => absurd c_10 (show ¬ (13 : Int32) ≤ 0 by decide)) (fun c_10 => ?_)
  refine C.aload_nR dX4_fieldOf_13 rfl ?_
  refine C.aload_nR dX4_fieldOf_14 rfl ?_
  refine C.getS (k9 := 3) (fs := [.ref (S 15), .ref (S 17), .ref (S 18), .ref (S 19), .ref (S 20), .ref (S 21), .ref (S 22), .ref (S 23), .ref (S 24), .ref (S 25), .ref (S 26), .ref (S 27), .ref (S 28), .ref (S 29), .ref (S 30), .ref (S 44)]) dX4_fieldOf_15 fl_X4_96 rfl hK.1 rfl ?_
  refine C.iload_n dX4_fieldOf_18 rfl ?_
  refine C.callLS0 (k9 := 44) [.int 0] dX4_fieldOf_19 mdJx4a65c_get_915e3 imJx4a65c_get_915e3 seJx4a65c_get_915e3 rfl hK.2.2.2 lk_X4_123 rfl rfl rfl rfl (cCt.w0 (R := fun r => r = some (.ref (S 18))) fun σ9 h9 => c_list_get (h9.at (k := 44) rfl hK.2.2.2) (show (rv (fl13 S))[0]? = some (.ref (S 18)) from rfl)) ?_
  rintro _ G9 D9 ⟨rfl, e9, e8⟩
  have e9 := e9.symm; subst e9; have e8 := e8.symm; subst e8
  refine C.castS (k9 := 18) dX4_fieldOf_22 cl_X4_26 cs_4 kc_4 rfl fe0 ?_
  refine C.getS (k9 := 18) (fs := [.ref (kSa Λ RX4 28), .ref (S 31), .int (bI to0)]) dX4_fieldOf_25 fl_X4_159 rfl fe0 rfl ?_
  refine C.callVS0 (k9 := 17) [.ref (kSa Λ RX4 28)] dX4_fieldOf_28 mdX9_spells imX9_spells seX9_spells kc_10 rfl x17 lk_X4_162 rfl rfl rfl rfl (cCt.w0 (R := fun r => r = some (.int (bI (decide (nm = sb_response_type))))) fun σ9 h9 => v_spells (hN.tx h9 rfl rfl) (st_X4_28 hSt) sb_response_type_b) ?_
  rintro _ G9 D9 ⟨rfl, e9, e8⟩
  have e9 := e9.symm; subst e9; have e8 := e8.symm; subst e8
  refine C.if_eq (tgt := 46) dX4_fieldOf_31 (by decide) (fun c_31 => ?_) (fun c_31 => ?_)
  · skip
    have n_0 := of_decide_eq_false ((bI_eq0 _).mp c_31)
    refine C.iinc (v := 1) (L' := [some (.ref (S 3)), some (.ref (S 17)), some (.int 1)]) dX4_fieldOf_46 rfl rfl (by decide) rfl rfl ?_
    refine C.goto (tgt := 2) dX4_fieldOf_49 (by decide) ?_
    refine C.iload_n dX4_fieldOf_2 rfl ?_
    refine C.aload_nR dX4_fieldOf_3 rfl ?_
    refine C.getS (k9 := 3) (fs := [.ref (S 15), .ref (S 17), .ref (S 18), .ref (S 19), .ref (S 20), .ref (S 21), .ref (S 22), .ref (S 23), .ref (S 24), .ref (S 25), .ref (S 26), .ref (S 27), .ref (S 28), .ref (S 29), .ref (S 30), .ref (S 44)]) dX4_fieldOf_4 fl_X4_96 rfl hK.1 rfl ?_
    refine C.callLS0 (k9 := 44) [] dX4_fieldOf_7 mdJx4a65c_size_8abf5 imJx4a65c_size_8abf5 seJx4a65c_size_8abf5 rfl hK.2.2.2 lk_X4_122 rfl rfl rfl rfl (cCt.w0 (R := fun r => r = some (.int (nI (rv (fl13 S)).length))) fun σ9 h9 => c_list_size (h9.at (k := 44) rfl hK.2.2.2)) ?_
    rintro _ G9 D9 ⟨rfl, e9, e8⟩
    have e9 := e9.symm; subst e9; have e8 := e8.symm; subst e8
    refine C.icmp_ge (tgt := 52) dX4_fieldOf_10 (by decide) (fun c_10 => absurd c_10 (show ¬ (13 : Int32) ≤ 1 by decide)) (fun c_10 => ?_)
    refine C.aload_nR dX4_fieldOf_13 rfl ?_
    refine C.aload_nR dX4_fieldOf_14 rfl ?_
    refine C.getS (k9 := 3) (fs := [.ref (S 15), .ref (S 17), .ref (S 18), .ref (S 19), .ref (S 20), .ref (S 21), .ref (S 22), .ref (S 23), .ref (S 24), .ref (S 25), .ref (S 26), .ref (S 27), .ref (S 28), .ref (S 29), .ref (S 30), .ref (S 44)]) dX4_fieldOf_15 fl_X4_96 rfl hK.1 rfl ?_
    refine C.iload_n dX4_fieldOf_18 rfl ?_
    refine C.callLS0 (k9 := 44) [.int 1] dX4_fieldOf_19 mdJx4a65c_get_915e3 imJx4a65c_get_915e3 seJx4a65c_get_915e3 rfl hK.2.2.2 lk_X4_123 rfl rfl rfl rfl (cCt.w0 (R := fun r => r = some (.ref (S 19))) fun σ9 h9 => c_list_get (h9.at (k := 44) rfl hK.2.2.2) (show (rv (fl13 S))[1]? = some (.ref (S 19)) from rfl)) ?_
    rintro _ G9 D9 ⟨rfl, e9, e8⟩
    have e9 := e9.symm; subst e9; have e8 := e8.symm; subst e8
    refine C.castS (k9 := 19) dX4_fieldOf_22 cl_X4_26 cs_4 kc_4 rfl fe1 ?_
    refine C.getS (k9 := 19) (fs := [.ref (kSa Λ RX4 37), .ref (S 32), .int (bI to1)]) dX4_fieldOf_25 fl_X4_159 rfl fe1 rfl ?_
    refine C.callVS0 (k9 := 17) [.ref (kSa Λ RX4 37)] dX4_fieldOf_28 mdX9_spells imX9_spells seX9_spells kc_10 rfl x17 lk_X4_162 rfl rfl rfl rfl (cCt.w0 (R := fun r => r = some (.int (bI (decide (nm = sb_client_id))))) fun σ9 h9 => v_spells (hN.tx h9 rfl rfl) (st_X4_37 hSt) sb_client_id_b) ?_
    rintro _ G9 D9 ⟨rfl, e9, e8⟩
    have e9 := e9.symm; subst e9; have e8 := e8.symm; subst e8
    refine C.if_eq (tgt := 46) dX4_fieldOf_31 (by decide) (fun c_31 => ?_) (fun c_31 => ?_)
    · skip
      have n_1 := of_decide_eq_false ((bI_eq0 _).mp c_31)
      refine C.iinc (v := 2) (L' := [some (.ref (S 3)), some (.ref (S 17)), some (.int 2)]) dX4_fieldOf_46 rfl rfl (by decide) rfl rfl ?_
      refine C.goto (tgt := 2) dX4_fieldOf_49 (by decide) ?_
      refine C.iload_n dX4_fieldOf_2 rfl ?_
      refine C.aload_nR dX4_fieldOf_3 rfl ?_
      refine C.getS (k9 := 3) (fs := [.ref (S 15), .ref (S 17), .ref (S 18), .ref (S 19), .ref (S 20), .ref (S 21), .ref (S 22), .ref (S 23), .ref (S 24), .ref (S 25), .ref (S 26), .ref (S 27), .ref (S 28), .ref (S 29), .ref (S 30), .ref (S 44)]) dX4_fieldOf_4 fl_X4_96 rfl hK.1 rfl ?_
      refine C.callLS0 (k9 := 44) [] dX4_fieldOf_7 mdJx4a65c_size_8abf5 imJx4a65c_size_8abf5 seJx4a65c_size_8abf5 rfl hK.2.2.2 lk_X4_122 rfl rfl rfl rfl (cCt.w0 (R := fun r => r = some (.int (nI (rv (fl13 S)).length))) fun σ9 h9 => c_list_size (h9.at (k := 44) rfl hK.2.2.2)) ?_
      rintro _ G9 D9 ⟨rfl, e9, e8⟩
      have e9 := e9.symm; subst e9; have e8 := e8.symm; subst e8
      refine C.icmp_ge (tgt := 52) dX4_fieldOf_10 (by decide) (fun c_10 => absurd c_10 (show ¬ (13 : Int32) ≤ 2 by decide)) (fun c_10 => ?_)
      refine C.aload_nR dX4_fieldOf_13 rfl ?_
      refine C.aload_nR dX4_fieldOf_14 rfl ?_
      refine C.getS (k9 := 3) (fs := [.ref (S 15), .ref (S 17), .ref (S 18), .ref (S 19), .ref (S 20), .ref (S 21), .ref (S 22), .ref (S 23), .ref (S 24), .ref (S 25), .ref (S 26), .ref (S 27), .ref (S 28), .ref (S 29), .ref (S 30), .ref (S 44)]) dX4_fieldOf_15 fl_X4_96 rfl hK.1 rfl ?_
      refine C.iload_n dX4_fieldOf_18 rfl ?_
      refine C.callLS0 (k9 := 44) [.int 2] dX4_fieldOf_19 mdJx4a65c_get_915e3 imJx4a65c_get_915e3 seJx4a65c_get_915e3 rfl hK.2.2.2 lk_X4_123 rfl rfl rfl rfl (cCt.w0 (R := fun r => r = some (.ref (S 20))) fun σ9 h9 => c_list_get (h9.at (k := 44) rfl hK.2.2.2) (show (rv (fl13 S))[2]? = some (.ref (S 20)) from rfl)) ?_
      rintro _ G9 D9 ⟨rfl, e9, e8⟩
      have e9 := e9.symm; subst e9; have e8 := e8.symm; subst e8
      refine C.castS (k9 := 20) dX4_fieldOf_22 cl_X4_26 cs_4 kc_4 rfl fe2 ?_
      refine C.getS (k9 := 20) (fs := [.ref (kSa Λ RX4 42), .ref (S 33), .int (bI to2)]) dX4_fieldOf_25 fl_X4_159 rfl fe2 rfl ?_
      refine C.callVS0 (k9 := 17) [.ref (kSa Λ RX4 42)] dX4_fieldOf_28 mdX9_spells imX9_spells seX9_spells kc_10 rfl x17 lk_X4_162 rfl rfl rfl rfl (cCt.w0 (R := fun r => r = some (.int (bI (decide (nm = sb_redirect_uri))))) fun σ9 h9 => v_spells (hN.tx h9 rfl rfl) (st_X4_42 hSt) sb_redirect_uri_b) ?_
      rintro _ G9 D9 ⟨rfl, e9, e8⟩
      have e9 := e9.symm; subst e9; have e8 := e8.symm; subst e8
      refine C.if_eq (tgt := 46) dX4_fieldOf_31 (by decide) (fun c_31 => ?_) (fun c_31 => ?_)
      · skip
        have n_2 := of_decide_eq_false ((bI_eq0 _).mp c_31)
        refine C.iinc (v := 3) (L' := [some (.ref (S 3)), some (.ref (S 17)), some (.int 3)]) dX4_fieldOf_46 rfl rfl (by decide) rfl rfl ?_
        refine C.goto (tgt := 2) dX4_fieldOf_49 (by decide) ?_
        refine C.iload_n dX4_fieldOf_2 rfl ?_
        refine C.aload_nR dX4_fieldOf_3 rfl ?_
        refine C.getS (k9 := 3) (fs := [.ref (S 15), .ref (S 17), .ref (S 18), .ref (S 19), .ref (S 20), .ref (S 21), .ref (S 22), .ref (S 23), .ref (S 24), .ref (S 25), .ref (S 26), .ref (S 27), .ref (S 28), .ref (S 29), .ref (S 30), .ref (S 44)]) dX4_fieldOf_4 fl_X4_96 rfl hK.1 rfl ?_
        refine C.callLS0 (k9 := 44) [] dX4_fieldOf_7 mdJx4a65c_size_8abf5 imJx4a65c_size_8abf5 seJx4a65c_size_8abf5 rfl hK.2.2.2 lk_X4_122 rfl rfl rfl rfl (cCt.w0 (R := fun r => r = some (.int (nI (rv (fl13 S)).length))) fun σ9 h9 => c_list_size (h9.at (k := 44) rfl hK.2.2.2)) ?_
        rintro _ G9 D9 ⟨rfl, e9, e8⟩
        have e9 := e9.symm; subst e9; have e8 := e8.symm; subst e8
        refine C.icmp_ge (tgt := 52) dX4_fieldOf_10 (by decide) (fun c_10 => absurd c_10 (show ¬ (13 : Int32) ≤ 3 by decide)) (fun c_10 => ?_)
        refine C.aload_nR dX4_fieldOf_13 rfl ?_
        refine C.aload_nR dX4_fieldOf_14 rfl ?_
        refine C.getS (k9 := 3) (fs := [.ref (S 15), .ref (S 17), .ref (S 18), .ref (S 19), .ref (S 20), .ref (S 21), .ref (S 22), .ref (S 23), .ref (S 24), .ref (S 25), .ref (S 26), .ref (S 27), .ref (S 28), .ref (S 29), .ref (S 30), .ref (S 44)]) dX4_fieldOf_15 fl_X4_96 rfl hK.1 rfl ?_
        refine C.iload_n dX4_fieldOf_18 rfl ?_
        refine C.callLS0 (k9 := 44) [.int 3] dX4_fieldOf_19 mdJx4a65c_get_915e3 imJx4a65c_get_915e3 seJx4a65c_get_915e3 rfl hK.2.2.2 lk_X4_123 rfl rfl rfl rfl (cCt.w0 (R := fun r => r = some (.ref (S 21))) fun σ9 h9 => c_list_get (h9.at (k := 44) rfl hK.2.2.2) (show (rv (fl13 S))[3]? = some (.ref (S 21)) from rfl)) ?_
        rintro _ G9 D9 ⟨rfl, e9, e8⟩
        have e9 := e9.symm; subst e9; have e8 := e8.symm; subst e8
        refine C.castS (k9 := 21) dX4_fieldOf_22 cl_X4_26 cs_4 kc_4 rfl fe3 ?_
        refine C.getS (k9 := 21) (fs := [.ref (kSa Λ RX4 47), .ref (S 34), .int (bI to3)]) dX4_fieldOf_25 fl_X4_159 rfl fe3 rfl ?_
        refine C.callVS0 (k9 := 17) [.ref (kSa Λ RX4 47)] dX4_fieldOf_28 mdX9_spells imX9_spells seX9_spells kc_10 rfl x17 lk_X4_162 rfl rfl rfl rfl (cCt.w0 (R := fun r => r = some (.int (bI (decide (nm = sb_scope))))) fun σ9 h9 => v_spells (hN.tx h9 rfl rfl) (st_X4_47 hSt) sb_scope_b) ?_
        rintro _ G9 D9 ⟨rfl, e9, e8⟩
        have e9 := e9.symm; subst e9; have e8 := e8.symm; subst e8
        refine C.if_eq (tgt := 46) dX4_fieldOf_31 (by decide) (fun c_31 => ?_) (fun c_31 => ?_)
        · skip
          have n_3 := of_decide_eq_false ((bI_eq0 _).mp c_31)
          refine C.iinc (v := 4) (L' := [some (.ref (S 3)), some (.ref (S 17)), some (.int 4)]) dX4_fieldOf_46 rfl rfl (by decide) rfl rfl ?_
          refine C.goto (tgt := 2) dX4_fieldOf_49 (by decide) ?_
          refine C.iload_n dX4_fieldOf_2 rfl ?_
          refine C.aload_nR dX4_fieldOf_3 rfl ?_
          refine C.getS (k9 := 3) (fs := [.ref (S 15), .ref (S 17), .ref (S 18), .ref (S 19), .ref (S 20), .ref (S 21), .ref (S 22), .ref (S 23), .ref (S 24), .ref (S 25), .ref (S 26), .ref (S 27), .ref (S 28), .ref (S 29), .ref (S 30), .ref (S 44)]) dX4_fieldOf_4 fl_X4_96 rfl hK.1 rfl ?_
          refine C.callLS0 (k9 := 44) [] dX4_fieldOf_7 mdJx4a65c_size_8abf5 imJx4a65c_size_8abf5 seJx4a65c_size_8abf5 rfl hK.2.2.2 lk_X4_122 rfl rfl rfl rfl (cCt.w0 (R := fun r => r = some (.int (nI (rv (fl13 S)).length))) fun σ9 h9 => c_list_size (h9.at (k := 44) rfl hK.2.2.2)) ?_
          rintro _ G9 D9 ⟨rfl, e9, e8⟩
          have e9 := e9.symm; subst e9; have e8 := e8.symm; subst e8
          refine C.icmp_ge (tgt := 52) dX4_fieldOf_10 (by decide) (fun c_10 => absurd c_10 (show ¬ (13 : Int32) ≤ 4 by decide)) (fun c_10 => ?_)
          refine C.aload_nR dX4_fieldOf_13 rfl ?_
          refine C.aload_nR dX4_fieldOf_14 rfl ?_
          refine C.getS (k9 := 3) (fs := [.ref (S 15), .ref (S 17), .ref (S 18), .ref (S 19), .ref (S 20), .ref (S 21), .ref (S 22), .ref (S 23), .ref (S 24), .ref (S 25), .ref (S 26), .ref (S 27), .ref (S 28), .ref (S 29), .ref (S 30), .ref (S 44)]) dX4_fieldOf_15 fl_X4_96 rfl hK.1 rfl ?_
          refine C.iload_n dX4_fieldOf_18 rfl ?_
          refine C.callLS0 (k9 := 44) [.int 4] dX4_fieldOf_19 mdJx4a65c_get_915e3 imJx4a65c_get_915e3 seJx4a65c_get_915e3 rfl hK.2.2.2 lk_X4_123 rfl rfl rfl rfl (cCt.w0 (R := fun r => r = some (.ref (S 22))) fun σ9 h9 => c_list_get (h9.at (k := 44) rfl hK.2.2.2) (show (rv (fl13 S))[4]? = some (.ref (S 22)) from rfl)) ?_
          rintro _ G9 D9 ⟨rfl, e9, e8⟩
          have e9 := e9.symm; subst e9; have e8 := e8.symm; subst e8
          refine C.castS (k9 := 22) dX4_fieldOf_22 cl_X4_26 cs_4 kc_4 rfl fe4 ?_
          refine C.getS (k9 := 22) (fs := [.ref (kSa Λ RX4 51), .ref (S 35), .int (bI to4)]) dX4_fieldOf_25 fl_X4_159 rfl fe4 rfl ?_
          refine C.callVS0 (k9 := 17) [.ref (kSa Λ RX4 51)] dX4_fieldOf_28 mdX9_spells imX9_spells seX9_spells kc_10 rfl x17 lk_X4_162 rfl rfl rfl rfl (cCt.w0 (R := fun r => r = some (.int (bI (decide (nm = sb_state))))) fun σ9 h9 => v_spells (hN.tx h9 rfl rfl) (st_X4_51 hSt) sb_state_b) ?_
          rintro _ G9 D9 ⟨rfl, e9, e8⟩
          have e9 := e9.symm; subst e9; have e8 := e8.symm; subst e8
          refine C.if_eq (tgt := 46) dX4_fieldOf_31 (by decide) (fun c_31 => ?_) (fun c_31 => ?_)
          · skip
            have n_4 := of_decide_eq_false ((bI_eq0 _).mp c_31)
            refine C.iinc (v := 5) (L' := [some (.ref (S 3)), some (.ref (S 17)), some (.int 5)]) dX4_fieldOf_46 rfl rfl (by decide) rfl rfl ?_
            refine C.goto (tgt := 2) dX4_fieldOf_49 (by decide) ?_
            refine C.iload_n dX4_fieldOf_2 rfl ?_
            refine C.aload_nR dX4_fieldOf_3 rfl ?_
            refine C.getS (k9 := 3) (fs := [.ref (S 15), .ref (S 17), .ref (S 18), .ref (S 19), .ref (S 20), .ref (S 21), .ref (S 22), .ref (S 23), .ref (S 24), .ref (S 25), .ref (S 26), .ref (S 27), .ref (S 28), .ref (S 29), .ref (S 30), .ref (S 44)]) dX4_fieldOf_4 fl_X4_96 rfl hK.1 rfl ?_
            refine C.callLS0 (k9 := 44) [] dX4_fieldOf_7 mdJx4a65c_size_8abf5 imJx4a65c_size_8abf5 seJx4a65c_size_8abf5 rfl hK.2.2.2 lk_X4_122 rfl rfl rfl rfl (cCt.w0 (R := fun r => r = some (.int (nI (rv (fl13 S)).length))) fun σ9 h9 => c_list_size (h9.at (k := 44) rfl hK.2.2.2)) ?_
            rintro _ G9 D9 ⟨rfl, e9, e8⟩
            have e9 := e9.symm; subst e9; have e8 := e8.symm; subst e8
            refine C.icmp_ge (tgt := 52) dX4_fieldOf_10 (by decide) (fun c_10 => absurd c_10 (show ¬ (13 : Int32) ≤ 5 by decide)) (fun c_10 => ?_)
            refine C.aload_nR dX4_fieldOf_13 rfl ?_
            refine C.aload_nR dX4_fieldOf_14 rfl ?_
            refine C.getS (k9 := 3) (fs := [.ref (S 15), .ref (S 17), .ref (S 18), .ref (S 19), .ref (S 20), .ref (S 21), .ref (S 22), .ref (S 23), .ref (S 24), .ref (S 25), .ref (S 26), .ref (S 27), .ref (S 28), .ref (S 29), .ref (S 30), .ref (S 44)]) dX4_fieldOf_15 fl_X4_96 rfl hK.1 rfl ?_
            refine C.iload_n dX4_fieldOf_18 rfl ?_
            refine C.callLS0 (k9 := 44) [.int 5] dX4_fieldOf_19 mdJx4a65c_get_915e3 imJx4a65c_get_915e3 seJx4a65c_get_915e3 rfl hK.2.2.2 lk_X4_123 rfl rfl rfl rfl (cCt.w0 (R := fun r => r = some (.ref (S 23))) fun σ9 h9 => c_list_get (h9.at (k := 44) rfl hK.2.2.2) (show (rv (fl13 S))[5]? = some (.ref (S 23)) from rfl)) ?_
            rintro _ G9 D9 ⟨rfl, e9, e8⟩
            have e9 := e9.symm; subst e9; have e8 := e8.symm; subst e8
            refine C.castS (k9 := 23) dX4_fieldOf_22 cl_X4_26 cs_4 kc_4 rfl fe5 ?_
            refine C.getS (k9 := 23) (fs := [.ref (kSa Λ RX4 55), .ref (S 36), .int (bI to5)]) dX4_fieldOf_25 fl_X4_159 rfl fe5 rfl ?_
            refine C.callVS0 (k9 := 17) [.ref (kSa Λ RX4 55)] dX4_fieldOf_28 mdX9_spells imX9_spells seX9_spells kc_10 rfl x17 lk_X4_162 rfl rfl rfl rfl (cCt.w0 (R := fun r => r = some (.int (bI (decide (nm = sb_code_challenge))))) fun σ9 h9 => v_spells (hN.tx h9 rfl rfl) (st_X4_55 hSt) sb_code_challenge_b) ?_
            rintro _ G9 D9 ⟨rfl, e9, e8⟩
            have e9 := e9.symm; subst e9; have e8 := e8.symm; subst e8
            refine C.if_eq (tgt := 46) dX4_fieldOf_31 (by decide) (fun c_31 => ?_) (fun c_31 => ?_)
            · skip
              have n_5 := of_decide_eq_false ((bI_eq0 _).mp c_31)
              refine C.iinc (v := 6) (L' := [some (.ref (S 3)), some (.ref (S 17)), some (.int 6)]) dX4_fieldOf_46 rfl rfl (by decide) rfl rfl ?_
              refine C.goto (tgt := 2) dX4_fieldOf_49 (by decide) ?_
              refine C.iload_n dX4_fieldOf_2 rfl ?_
              refine C.aload_nR dX4_fieldOf_3 rfl ?_
              refine C.getS (k9 := 3) (fs := [.ref (S 15), .ref (S 17), .ref (S 18), .ref (S 19), .ref (S 20), .ref (S 21), .ref (S 22), .ref (S 23), .ref (S 24), .ref (S 25), .ref (S 26), .ref (S 27), .ref (S 28), .ref (S 29), .ref (S 30), .ref (S 44)]) dX4_fieldOf_4 fl_X4_96 rfl hK.1 rfl ?_
              refine C.callLS0 (k9 := 44) [] dX4_fieldOf_7 mdJx4a65c_size_8abf5 imJx4a65c_size_8abf5 seJx4a65c_size_8abf5 rfl hK.2.2.2 lk_X4_122 rfl rfl rfl rfl (cCt.w0 (R := fun r => r = some (.int (nI (rv (fl13 S)).length))) fun σ9 h9 => c_list_size (h9.at (k := 44) rfl hK.2.2.2)) ?_
              rintro _ G9 D9 ⟨rfl, e9, e8⟩
              have e9 := e9.symm; subst e9; have e8 := e8.symm; subst e8
              refine C.icmp_ge (tgt := 52) dX4_fieldOf_10 (by decide) (fun c_10 => absurd c_10 (show ¬ (13 : Int32) ≤ 6 by decide)) (fun c_10 => ?_)
              refine C.aload_nR dX4_fieldOf_13 rfl ?_
              refine C.aload_nR dX4_fieldOf_14 rfl ?_
              refine C.getS (k9 := 3) (fs := [.ref (S 15), .ref (S 17), .ref (S 18), .ref (S 19), .ref (S 20), .ref (S 21), .ref (S 22), .ref (S 23), .ref (S 24), .ref (S 25), .ref (S 26), .ref (S 27), .ref (S 28), .ref (S 29), .ref (S 30), .ref (S 44)]) dX4_fieldOf_15 fl_X4_96 rfl hK.1 rfl ?_
              refine C.iload_n dX4_fieldOf_18 rfl ?_
              refine C.callLS0 (k9 := 44) [.int 6] dX4_fieldOf_19 mdJx4a65c_get_915e3 imJx4a65c_get_915e3 seJx4a65c_get_915e3 rfl hK.2.2.2 lk_X4_123 rfl rfl rfl rfl (cCt.w0 (R := fun r => r = some (.ref (S 24))) fun σ9 h9 => c_list_get (h9.at (k := 44) rfl hK.2.2.2) (show (rv (fl13 S))[6]? = some (.ref (S 24)) from rfl)) ?_
              rintro _ G9 D9 ⟨rfl, e9, e8⟩
              have e9 := e9.symm; subst e9; have e8 := e8.symm; subst e8
              refine C.castS (k9 := 24) dX4_fieldOf_22 cl_X4_26 cs_4 kc_4 rfl fe6 ?_
              refine C.getS (k9 := 24) (fs := [.ref (kSa Λ RX4 60), .ref (S 37), .int (bI to6)]) dX4_fieldOf_25 fl_X4_159 rfl fe6 rfl ?_
              refine C.callVS0 (k9 := 17) [.ref (kSa Λ RX4 60)] dX4_fieldOf_28 mdX9_spells imX9_spells seX9_spells kc_10 rfl x17 lk_X4_162 rfl rfl rfl rfl (cCt.w0 (R := fun r => r = some (.int (bI (decide (nm = sb_code_challenge_method))))) fun σ9 h9 => v_spells (hN.tx h9 rfl rfl) (st_X4_60 hSt) sb_code_challenge_method_b) ?_
              rintro _ G9 D9 ⟨rfl, e9, e8⟩
              have e9 := e9.symm; subst e9; have e8 := e8.symm; subst e8
              refine C.if_eq (tgt := 46) dX4_fieldOf_31 (by decide) (fun c_31 => ?_) (fun c_31 => ?_)
              · skip
                have n_6 := of_decide_eq_false ((bI_eq0 _).mp c_31)
                refine C.iinc (v := 7) (L' := [some (.ref (S 3)), some (.ref (S 17)), some (.int 7)]) dX4_fieldOf_46 rfl rfl (by decide) rfl rfl ?_
                refine C.goto (tgt := 2) dX4_fieldOf_49 (by decide) ?_
                refine C.iload_n dX4_fieldOf_2 rfl ?_
                refine C.aload_nR dX4_fieldOf_3 rfl ?_
                refine C.getS (k9 := 3) (fs := [.ref (S 15), .ref (S 17), .ref (S 18), .ref (S 19), .ref (S 20), .ref (S 21), .ref (S 22), .ref (S 23), .ref (S 24), .ref (S 25), .ref (S 26), .ref (S 27), .ref (S 28), .ref (S 29), .ref (S 30), .ref (S 44)]) dX4_fieldOf_4 fl_X4_96 rfl hK.1 rfl ?_
                refine C.callLS0 (k9 := 44) [] dX4_fieldOf_7 mdJx4a65c_size_8abf5 imJx4a65c_size_8abf5 seJx4a65c_size_8abf5 rfl hK.2.2.2 lk_X4_122 rfl rfl rfl rfl (cCt.w0 (R := fun r => r = some (.int (nI (rv (fl13 S)).length))) fun σ9 h9 => c_list_size (h9.at (k := 44) rfl hK.2.2.2)) ?_
                rintro _ G9 D9 ⟨rfl, e9, e8⟩
                have e9 := e9.symm; subst e9; have e8 := e8.symm; subst e8
                refine C.icmp_ge (tgt := 52) dX4_fieldOf_10 (by decide) (fun c_10 => absurd c_10 (show ¬ (13 : Int32) ≤ 7 by decide)) (fun c_10 => ?_)
                refine C.aload_nR dX4_fieldOf_13 rfl ?_
                refine C.aload_nR dX4_fieldOf_14 rfl ?_
                refine C.getS (k9 := 3) (fs := [.ref (S 15), .ref (S 17), .ref (S 18), .ref (S 19), .ref (S 20), .ref (S 21), .ref (S 22), .ref (S 23), .ref (S 24), .ref (S 25), .ref (S 26), .ref (S 27), .ref (S 28), .ref (S 29), .ref (S 30), .ref (S 44)]) dX4_fieldOf_15 fl_X4_96 rfl hK.1 rfl ?_
                refine C.iload_n dX4_fieldOf_18 rfl ?_
                refine C.callLS0 (k9 := 44) [.int 7] dX4_fieldOf_19 mdJx4a65c_get_915e3 imJx4a65c_get_915e3 seJx4a65c_get_915e3 rfl hK.2.2.2 lk_X4_123 rfl rfl rfl rfl (cCt.w0 (R := fun r => r = some (.ref (S 25))) fun σ9 h9 => c_list_get (h9.at (k := 44) rfl hK.2.2.2) (show (rv (fl13 S))[7]? = some (.ref (S 25)) from rfl)) ?_
                rintro _ G9 D9 ⟨rfl, e9, e8⟩
                have e9 := e9.symm; subst e9; have e8 := e8.symm; subst e8
                refine C.castS (k9 := 25) dX4_fieldOf_22 cl_X4_26 cs_4 kc_4 rfl fe7 ?_
                refine C.getS (k9 := 25) (fs := [.ref (kSa Λ RX4 65), .ref (S 38), .int (bI to7)]) dX4_fieldOf_25 fl_X4_159 rfl fe7 rfl ?_
                refine C.callVS0 (k9 := 17) [.ref (kSa Λ RX4 65)] dX4_fieldOf_28 mdX9_spells imX9_spells seX9_spells kc_10 rfl x17 lk_X4_162 rfl rfl rfl rfl (cCt.w0 (R := fun r => r = some (.int (bI (decide (nm = sb_grant_type))))) fun σ9 h9 => v_spells (hN.tx h9 rfl rfl) (st_X4_65 hSt) sb_grant_type_b) ?_
                rintro _ G9 D9 ⟨rfl, e9, e8⟩
                have e9 := e9.symm; subst e9; have e8 := e8.symm; subst e8
                refine C.if_eq (tgt := 46) dX4_fieldOf_31 (by decide) (fun c_31 => ?_) (fun c_31 => ?_)
                · skip
                  have n_7 := of_decide_eq_false ((bI_eq0 _).mp c_31)
                  refine C.iinc (v := 8) (L' := [some (.ref (S 3)), some (.ref (S 17)), some (.int 8)]) dX4_fieldOf_46 rfl rfl (by decide) rfl rfl ?_
                  refine C.goto (tgt := 2) dX4_fieldOf_49 (by decide) ?_
                  refine C.iload_n dX4_fieldOf_2 rfl ?_
                  refine C.aload_nR dX4_fieldOf_3 rfl ?_
                  refine C.getS (k9 := 3) (fs := [.ref (S 15), .ref (S 17), .ref (S 18), .ref (S 19), .ref (S 20), .ref (S 21), .ref (S 22), .ref (S 23), .ref (S 24), .ref (S 25), .ref (S 26), .ref (S 27), .ref (S 28), .ref (S 29), .ref (S 30), .ref (S 44)]) dX4_fieldOf_4 fl_X4_96 rfl hK.1 rfl ?_
                  refine C.callLS0 (k9 := 44) [] dX4_fieldOf_7 mdJx4a65c_size_8abf5 imJx4a65c_size_8abf5 seJx4a65c_size_8abf5 rfl hK.2.2.2 lk_X4_122 rfl rfl rfl rfl (cCt.w0 (R := fun r => r = some (.int (nI (rv (fl13 S)).length))) fun σ9 h9 => c_list_size (h9.at (k := 44) rfl hK.2.2.2)) ?_
                  rintro _ G9 D9 ⟨rfl, e9, e8⟩
                  have e9 := e9.symm; subst e9; have e8 := e8.symm; subst e8
                  refine C.icmp_ge (tgt := 52) dX4_fieldOf_10 (by decide) (fun c_10 => absurd c_10 (show ¬ (13 : Int32) ≤ 8 by decide)) (fun c_10 => ?_)
                  refine C.aload_nR dX4_fieldOf_13 rfl ?_
                  refine C.aload_nR dX4_fieldOf_14 rfl ?_
                  refine C.getS (k9 := 3) (fs := [.ref (S 15), .ref (S 17), .ref (S 18), .ref (S 19), .ref (S 20), .ref (S 21), .ref (S 22), .ref (S 23), .ref (S 24), .ref (S 25), .ref (S 26), .ref (S 27), .ref (S 28), .ref (S 29), .ref (S 30), .ref (S 44)]) dX4_fieldOf_15 fl_X4_96 rfl hK.1 rfl ?_
                  refine C.iload_n dX4_fieldOf_18 rfl ?_
                  refine C.callLS0 (k9 := 44) [.int 8] dX4_fieldOf_19 mdJx4a65c_get_915e3 imJx4a65c_get_915e3 seJx4a65c_get_915e3 rfl hK.2.2.2 lk_X4_123 rfl rfl rfl rfl (cCt.w0 (R := fun r => r = some (.ref (S 26))) fun σ9 h9 => c_list_get (h9.at (k := 44) rfl hK.2.2.2) (show (rv (fl13 S))[8]? = some (.ref (S 26)) from rfl)) ?_
                  rintro _ G9 D9 ⟨rfl, e9, e8⟩
                  have e9 := e9.symm; subst e9; have e8 := e8.symm; subst e8
                  refine C.castS (k9 := 26) dX4_fieldOf_22 cl_X4_26 cs_4 kc_4 rfl fe8 ?_
                  refine C.getS (k9 := 26) (fs := [.ref (kSa Λ RX4 70), .ref (S 39), .int (bI to8)]) dX4_fieldOf_25 fl_X4_159 rfl fe8 rfl ?_
                  refine C.callVS0 (k9 := 17) [.ref (kSa Λ RX4 70)] dX4_fieldOf_28 mdX9_spells imX9_spells seX9_spells kc_10 rfl x17 lk_X4_162 rfl rfl rfl rfl (cCt.w0 (R := fun r => r = some (.int (bI (decide (nm = sb_code))))) fun σ9 h9 => v_spells (hN.tx h9 rfl rfl) (st_X4_70 hSt) sb_code_b) ?_
                  rintro _ G9 D9 ⟨rfl, e9, e8⟩
                  have e9 := e9.symm; subst e9; have e8 := e8.symm; subst e8
                  refine C.if_eq (tgt := 46) dX4_fieldOf_31 (by decide) (fun c_31 => ?_) (fun c_31 => ?_)
                  · skip
                    have n_8 := of_decide_eq_false ((bI_eq0 _).mp c_31)
                    refine C.iinc (v := 9) (L' := [some (.ref (S 3)), some (.ref (S 17)), some (.int 9)]) dX4_fieldOf_46 rfl rfl (by decide) rfl rfl ?_
                    refine C.goto (tgt := 2) dX4_fieldOf_49 (by decide) ?_
                    refine C.iload_n dX4_fieldOf_2 rfl ?_
                    refine C.aload_nR dX4_fieldOf_3 rfl ?_
                    refine C.getS (k9 := 3) (fs := [.ref (S 15), .ref (S 17), .ref (S 18), .ref (S 19), .ref (S 20), .ref (S 21), .ref (S 22), .ref (S 23), .ref (S 24), .ref (S 25), .ref (S 26), .ref (S 27), .ref (S 28), .ref (S 29), .ref (S 30), .ref (S 44)]) dX4_fieldOf_4 fl_X4_96 rfl hK.1 rfl ?_
                    refine C.callLS0 (k9 := 44) [] dX4_fieldOf_7 mdJx4a65c_size_8abf5 imJx4a65c_size_8abf5 seJx4a65c_size_8abf5 rfl hK.2.2.2 lk_X4_122 rfl rfl rfl rfl (cCt.w0 (R := fun r => r = some (.int (nI (rv (fl13 S)).length))) fun σ9 h9 => c_list_size (h9.at (k := 44) rfl hK.2.2.2)) ?_
                    rintro _ G9 D9 ⟨rfl, e9, e8⟩
                    have e9 := e9.symm; subst e9; have e8 := e8.symm; subst e8
                    refine C.icmp_ge (tgt := 52) dX4_fieldOf_10 (by decide) (fun c_10 => absurd c_10 (show ¬ (13 : Int32) ≤ 9 by decide)) (fun c_10 => ?_)
                    refine C.aload_nR dX4_fieldOf_13 rfl ?_
                    refine C.aload_nR dX4_fieldOf_14 rfl ?_
                    refine C.getS (k9 := 3) (fs := [.ref (S 15), .ref (S 17), .ref (S 18), .ref (S 19), .ref (S 20), .ref (S 21), .ref (S 22), .ref (S 23), .ref (S 24), .ref (S 25), .ref (S 26), .ref (S 27), .ref (S 28), .ref (S 29), .ref (S 30), .ref (S 44)]) dX4_fieldOf_15 fl_X4_96 rfl hK.1 rfl ?_
                    refine C.iload_n dX4_fieldOf_18 rfl ?_
                    refine C.callLS0 (k9 := 44) [.int 9] dX4_fieldOf_19 mdJx4a65c_get_915e3 imJx4a65c_get_915e3 seJx4a65c_get_915e3 rfl hK.2.2.2 lk_X4_123 rfl rfl rfl rfl (cCt.w0 (R := fun r => r = some (.ref (S 27))) fun σ9 h9 => c_list_get (h9.at (k := 44) rfl hK.2.2.2) (show (rv (fl13 S))[9]? = some (.ref (S 27)) from rfl)) ?_
                    rintro _ G9 D9 ⟨rfl, e9, e8⟩
                    have e9 := e9.symm; subst e9; have e8 := e8.symm; subst e8
                    refine C.castS (k9 := 27) dX4_fieldOf_22 cl_X4_26 cs_4 kc_4 rfl fe9 ?_
                    refine C.getS (k9 := 27) (fs := [.ref (kSa Λ RX4 74), .ref (S 40), .int (bI to9)]) dX4_fieldOf_25 fl_X4_159 rfl fe9 rfl ?_
                    refine C.callVS0 (k9 := 17) [.ref (kSa Λ RX4 74)] dX4_fieldOf_28 mdX9_spells imX9_spells seX9_spells kc_10 rfl x17 lk_X4_162 rfl rfl rfl rfl (cCt.w0 (R := fun r => r = some (.int (bI (decide (nm = sb_code_verifier))))) fun σ9 h9 => v_spells (hN.tx h9 rfl rfl) (st_X4_74 hSt) sb_code_verifier_b) ?_
                    rintro _ G9 D9 ⟨rfl, e9, e8⟩
                    have e9 := e9.symm; subst e9; have e8 := e8.symm; subst e8
                    refine C.if_eq (tgt := 46) dX4_fieldOf_31 (by decide) (fun c_31 => ?_) (fun c_31 => ?_)
                    · skip
                      have n_9 := of_decide_eq_false ((bI_eq0 _).mp c_31)
                      refine C.iinc (v := 10) (L' := [some (.ref (S 3)), some (.ref (S 17)), some (.int 10)]) dX4_fieldOf_46 rfl rfl (by decide) rfl rfl ?_
                      refine C.goto (tgt := 2) dX4_fieldOf_49 (by decide) ?_
                      refine C.iload_n dX4_fieldOf_2 rfl ?_
                      refine C.aload_nR dX4_fieldOf_3 rfl ?_
                      refine C.getS (k9 := 3) (fs := [.ref (S 15), .ref (S 17), .ref (S 18), .ref (S 19), .ref (S 20), .ref (S 21), .ref (S 22), .ref (S 23), .ref (S 24), .ref (S 25), .ref (S 26), .ref (S 27), .ref (S 28), .ref (S 29), .ref (S 30), .ref (S 44)]) dX4_fieldOf_4 fl_X4_96 rfl hK.1 rfl ?_
                      refine C.callLS0 (k9 := 44) [] dX4_fieldOf_7 mdJx4a65c_size_8abf5 imJx4a65c_size_8abf5 seJx4a65c_size_8abf5 rfl hK.2.2.2 lk_X4_122 rfl rfl rfl rfl (cCt.w0 (R := fun r => r = some (.int (nI (rv (fl13 S)).length))) fun σ9 h9 => c_list_size (h9.at (k := 44) rfl hK.2.2.2)) ?_
                      rintro _ G9 D9 ⟨rfl, e9, e8⟩
                      have e9 := e9.symm; subst e9; have e8 := e8.symm; subst e8
                      refine C.icmp_ge (tgt := 52) dX4_fieldOf_10 (by decide) (fun c_10 => absurd c_10 (show ¬ (13 : Int32) ≤ 10 by decide)) (fun c_10 => ?_)
                      refine C.aload_nR dX4_fieldOf_13 rfl ?_
                      refine C.aload_nR dX4_fieldOf_14 rfl ?_
                      refine C.getS (k9 := 3) (fs := [.ref (S 15), .ref (S 17), .ref (S 18), .ref (S 19), .ref (S 20), .ref (S 21), .ref (S 22), .ref (S 23), .ref (S 24), .ref (S 25), .ref (S 26), .ref (S 27), .ref (S 28), .ref (S 29), .ref (S 30), .ref (S 44)]) dX4_fieldOf_15 fl_X4_96 rfl hK.1 rfl ?_
                      refine C.iload_n dX4_fieldOf_18 rfl ?_
                      refine C.callLS0 (k9 := 44) [.int 10] dX4_fieldOf_19 mdJx4a65c_get_915e3 imJx4a65c_get_915e3 seJx4a65c_get_915e3 rfl hK.2.2.2 lk_X4_123 rfl rfl rfl rfl (cCt.w0 (R := fun r => r = some (.ref (S 28))) fun σ9 h9 => c_list_get (h9.at (k := 44) rfl hK.2.2.2) (show (rv (fl13 S))[10]? = some (.ref (S 28)) from rfl)) ?_
                      rintro _ G9 D9 ⟨rfl, e9, e8⟩
                      have e9 := e9.symm; subst e9; have e8 := e8.symm; subst e8
                      refine C.castS (k9 := 28) dX4_fieldOf_22 cl_X4_26 cs_4 kc_4 rfl fe10 ?_
                      refine C.getS (k9 := 28) (fs := [.ref (kSa Λ RX4 79), .ref (S 41), .int (bI to10)]) dX4_fieldOf_25 fl_X4_159 rfl fe10 rfl ?_
                      refine C.callVS0 (k9 := 17) [.ref (kSa Λ RX4 79)] dX4_fieldOf_28 mdX9_spells imX9_spells seX9_spells kc_10 rfl x17 lk_X4_162 rfl rfl rfl rfl (cCt.w0 (R := fun r => r = some (.int (bI (decide (nm = sb_client_secret))))) fun σ9 h9 => v_spells (hN.tx h9 rfl rfl) (st_X4_79 hSt) sb_client_secret_b) ?_
                      rintro _ G9 D9 ⟨rfl, e9, e8⟩
                      have e9 := e9.symm; subst e9; have e8 := e8.symm; subst e8
                      refine C.if_eq (tgt := 46) dX4_fieldOf_31 (by decide) (fun c_31 => ?_) (fun c_31 => ?_)
                      · skip
                        have n_10 := of_decide_eq_false ((bI_eq0 _).mp c_31)
                        refine C.iinc (v := 11) (L' := [some (.ref (S 3)), some (.ref (S 17)), some (.int 11)]) dX4_fieldOf_46 rfl rfl (by decide) rfl rfl ?_
                        refine C.goto (tgt := 2) dX4_fieldOf_49 (by decide) ?_
                        refine C.iload_n dX4_fieldOf_2 rfl ?_
                        refine C.aload_nR dX4_fieldOf_3 rfl ?_
                        refine C.getS (k9 := 3) (fs := [.ref (S 15), .ref (S 17), .ref (S 18), .ref (S 19), .ref (S 20), .ref (S 21), .ref (S 22), .ref (S 23), .ref (S 24), .ref (S 25), .ref (S 26), .ref (S 27), .ref (S 28), .ref (S 29), .ref (S 30), .ref (S 44)]) dX4_fieldOf_4 fl_X4_96 rfl hK.1 rfl ?_
                        refine C.callLS0 (k9 := 44) [] dX4_fieldOf_7 mdJx4a65c_size_8abf5 imJx4a65c_size_8abf5 seJx4a65c_size_8abf5 rfl hK.2.2.2 lk_X4_122 rfl rfl rfl rfl (cCt.w0 (R := fun r => r = some (.int (nI (rv (fl13 S)).length))) fun σ9 h9 => c_list_size (h9.at (k := 44) rfl hK.2.2.2)) ?_
                        rintro _ G9 D9 ⟨rfl, e9, e8⟩
                        have e9 := e9.symm; subst e9; have e8 := e8.symm; subst e8
                        refine C.icmp_ge (tgt := 52) dX4_fieldOf_10 (by decide) (fun c_10 => absurd c_10 (show ¬ (13 : Int32) ≤ 11 by decide)) (fun c_10 => ?_)
                        refine C.aload_nR dX4_fieldOf_13 rfl ?_
                        refine C.aload_nR dX4_fieldOf_14 rfl ?_
                        refine C.getS (k9 := 3) (fs := [.ref (S 15), .ref (S 17), .ref (S 18), .ref (S 19), .ref (S 20), .ref (S 21), .ref (S 22), .ref (S 23), .ref (S 24), .ref (S 25), .ref (S 26), .ref (S 27), .ref (S 28), .ref (S 29), .ref (S 30), .ref (S 44)]) dX4_fieldOf_15 fl_X4_96 rfl hK.1 rfl ?_
                        refine C.iload_n dX4_fieldOf_18 rfl ?_
                        refine C.callLS0 (k9 := 44) [.int 11] dX4_fieldOf_19 mdJx4a65c_get_915e3 imJx4a65c_get_915e3 seJx4a65c_get_915e3 rfl hK.2.2.2 lk_X4_123 rfl rfl rfl rfl (cCt.w0 (R := fun r => r = some (.ref (S 29))) fun σ9 h9 => c_list_get (h9.at (k := 44) rfl hK.2.2.2) (show (rv (fl13 S))[11]? = some (.ref (S 29)) from rfl)) ?_
                        rintro _ G9 D9 ⟨rfl, e9, e8⟩
                        have e9 := e9.symm; subst e9; have e8 := e8.symm; subst e8
                        refine C.castS (k9 := 29) dX4_fieldOf_22 cl_X4_26 cs_4 kc_4 rfl fe11 ?_
                        refine C.getS (k9 := 29) (fs := [.ref (kSa Λ RX4 84), .ref (S 42), .int (bI to11)]) dX4_fieldOf_25 fl_X4_159 rfl fe11 rfl ?_
                        refine C.callVS0 (k9 := 17) [.ref (kSa Λ RX4 84)] dX4_fieldOf_28 mdX9_spells imX9_spells seX9_spells kc_10 rfl x17 lk_X4_162 rfl rfl rfl rfl (cCt.w0 (R := fun r => r = some (.int (bI (decide (nm = sb_refresh_token))))) fun σ9 h9 => v_spells (hN.tx h9 rfl rfl) (st_X4_84 hSt) sb_refresh_token_b) ?_
                        rintro _ G9 D9 ⟨rfl, e9, e8⟩
                        have e9 := e9.symm; subst e9; have e8 := e8.symm; subst e8
                        refine C.if_eq (tgt := 46) dX4_fieldOf_31 (by decide) (fun c_31 => ?_) (fun c_31 => ?_)
                        · skip
                          have n_11 := of_decide_eq_false ((bI_eq0 _).mp c_31)
                          refine C.iinc (v := 12) (L' := [some (.ref (S 3)), some (.ref (S 17)), some (.int 12)]) dX4_fieldOf_46 rfl rfl (by decide) rfl rfl ?_
                          refine C.goto (tgt := 2) dX4_fieldOf_49 (by decide) ?_
                          refine C.iload_n dX4_fieldOf_2 rfl ?_
                          refine C.aload_nR dX4_fieldOf_3 rfl ?_
                          refine C.getS (k9 := 3) (fs := [.ref (S 15), .ref (S 17), .ref (S 18), .ref (S 19), .ref (S 20), .ref (S 21), .ref (S 22), .ref (S 23), .ref (S 24), .ref (S 25), .ref (S 26), .ref (S 27), .ref (S 28), .ref (S 29), .ref (S 30), .ref (S 44)]) dX4_fieldOf_4 fl_X4_96 rfl hK.1 rfl ?_
                          refine C.callLS0 (k9 := 44) [] dX4_fieldOf_7 mdJx4a65c_size_8abf5 imJx4a65c_size_8abf5 seJx4a65c_size_8abf5 rfl hK.2.2.2 lk_X4_122 rfl rfl rfl rfl (cCt.w0 (R := fun r => r = some (.int (nI (rv (fl13 S)).length))) fun σ9 h9 => c_list_size (h9.at (k := 44) rfl hK.2.2.2)) ?_
                          rintro _ G9 D9 ⟨rfl, e9, e8⟩
                          have e9 := e9.symm; subst e9; have e8 := e8.symm; subst e8
                          refine C.icmp_ge (tgt := 52) dX4_fieldOf_10 (by decide) (fun c_10 => absurd c_10 (show ¬ (13 : Int32) ≤ 12 by decide)) (fun c_10 => ?_)
                          refine C.aload_nR dX4_fieldOf_13 rfl ?_
                          refine C.aload_nR dX4_fieldOf_14 rfl ?_
                          refine C.getS (k9 := 3) (fs := [.ref (S 15), .ref (S 17), .ref (S 18), .ref (S 19), .ref (S 20), .ref (S 21), .ref (S 22), .ref (S 23), .ref (S 24), .ref (S 25), .ref (S 26), .ref (S 27), .ref (S 28), .ref (S 29), .ref (S 30), .ref (S 44)]) dX4_fieldOf_15 fl_X4_96 rfl hK.1 rfl ?_
                          refine C.iload_n dX4_fieldOf_18 rfl ?_
                          refine C.callLS0 (k9 := 44) [.int 12] dX4_fieldOf_19 mdJx4a65c_get_915e3 imJx4a65c_get_915e3 seJx4a65c_get_915e3 rfl hK.2.2.2 lk_X4_123 rfl rfl rfl rfl (cCt.w0 (R := fun r => r = some (.ref (S 30))) fun σ9 h9 => c_list_get (h9.at (k := 44) rfl hK.2.2.2) (show (rv (fl13 S))[12]? = some (.ref (S 30)) from rfl)) ?_
                          rintro _ G9 D9 ⟨rfl, e9, e8⟩
                          have e9 := e9.symm; subst e9; have e8 := e8.symm; subst e8
                          refine C.castS (k9 := 30) dX4_fieldOf_22 cl_X4_26 cs_4 kc_4 rfl fe12 ?_
                          refine C.getS (k9 := 30) (fs := [.ref (kSa Λ RX4 89), .ref (S 43), .int (bI to12)]) dX4_fieldOf_25 fl_X4_159 rfl fe12 rfl ?_
                          refine C.callVS0 (k9 := 17) [.ref (kSa Λ RX4 89)] dX4_fieldOf_28 mdX9_spells imX9_spells seX9_spells kc_10 rfl x17 lk_X4_162 rfl rfl rfl rfl (cCt.w0 (R := fun r => r = some (.int (bI (decide (nm = sb_token))))) fun σ9 h9 => v_spells (hN.tx h9 rfl rfl) (st_X4_89 hSt) sb_token_b) ?_
                          rintro _ G9 D9 ⟨rfl, e9, e8⟩
                          have e9 := e9.symm; subst e9; have e8 := e8.symm; subst e8
                          refine C.if_eq (tgt := 46) dX4_fieldOf_31 (by decide) (fun c_31 => ?_) (fun c_31 => ?_)
                          · skip
                            have n_12 := of_decide_eq_false ((bI_eq0 _).mp c_31)
                            refine C.iinc (v := 13) (L' := [some (.ref (S 3)), some (.ref (S 17)), some (.int 13)]) dX4_fieldOf_46 rfl rfl (by decide) rfl rfl ?_
                            refine C.goto (tgt := 2) dX4_fieldOf_49 (by decide) ?_
                            refine C.iload_n dX4_fieldOf_2 rfl ?_
                            refine C.aload_nR dX4_fieldOf_3 rfl ?_
                            refine C.getS (k9 := 3) (fs := [.ref (S 15), .ref (S 17), .ref (S 18), .ref (S 19), .ref (S 20), .ref (S 21), .ref (S 22), .ref (S 23), .ref (S 24), .ref (S 25), .ref (S 26), .ref (S 27), .ref (S 28), .ref (S 29), .ref (S 30), .ref (S 44)]) dX4_fieldOf_4 fl_X4_96 rfl hK.1 rfl ?_
                            refine C.callLS0 (k9 := 44) [] dX4_fieldOf_7 mdJx4a65c_size_8abf5 imJx4a65c_size_8abf5 seJx4a65c_size_8abf5 rfl hK.2.2.2 lk_X4_122 rfl rfl rfl rfl (cCt.w0 (R := fun r => r = some (.int (nI (rv (fl13 S)).length))) fun σ9 h9 => c_list_size (h9.at (k := 44) rfl hK.2.2.2)) ?_
                            rintro _ G9 D9 ⟨rfl, e9, e8⟩
                            have e9 := e9.symm; subst e9; have e8 := e8.symm; subst e8
                            refine C.icmp_ge (tgt := 52) dX4_fieldOf_10 (by decide) (fun c_10 => ?_) (fun c_10 => absurd (show (13 : Int32) ≤ 13 by decide) c_10)
                            refine C.aconst_null dX4_fieldOf_52 ?_
                            refine C.aret (r := none) dX4_fieldOf_53 rfl (by first | exact Or.inl ⟨_, rfl⟩ | exact Or.inr ⟨_, rfl⟩) ?_
                            refine Or.inl ⟨?_, rfl, rfl, rfl⟩
                            refine knw_no fun k hk => ?_
                            rcases (show k = 0 ∨ k = 1 ∨ k = 2 ∨ k = 3 ∨ k = 4 ∨ k = 5 ∨ k = 6 ∨ k = 7 ∨ k = 8 ∨ k = 9 ∨ k = 10 ∨ k = 11 ∨ k = 12 by omega) with rfl | rfl | rfl | rfl | rfl | rfl | rfl | rfl | rfl | rfl | rfl | rfl | rfl
                            · exact n_0
                            · exact n_1
                            · exact n_2
                            · exact n_3
                            · exact n_4
                            · exact n_5
                            · exact n_6
                            · exact n_7
                            · exact n_8
                            · exact n_9
                            · exact n_10
                            · exact n_11
                            · exact n_12
                          · skip
                            have y_9 := of_decide_eq_true (bt1 c_31)
                            refine C.aload_nR dX4_fieldOf_34 rfl ?_
                            refine C.getS (k9 := 3) (fs := [.ref (S 15), .ref (S 17), .ref (S 18), .ref (S 19), .ref (S 20), .ref (S 21), .ref (S 22), .ref (S 23), .ref (S 24), .ref (S 25), .ref (S 26), .ref (S 27), .ref (S 28), .ref (S 29), .ref (S 30), .ref (S 44)]) dX4_fieldOf_35 fl_X4_96 rfl hK.1 rfl ?_
                            refine C.iload_n dX4_fieldOf_38 rfl ?_
                            refine C.callLS0 (k9 := 44) [.int 12] dX4_fieldOf_39 mdJx4a65c_get_915e3 imJx4a65c_get_915e3 seJx4a65c_get_915e3 rfl hK.2.2.2 lk_X4_123 rfl rfl rfl rfl (cCt.w0 (R := fun r => r = some (.ref (S 30))) fun σ9 h9 => c_list_get (h9.at (k := 44) rfl hK.2.2.2) (show (rv (fl13 S))[12]? = some (.ref (S 30)) from rfl)) ?_
                            rintro _ G9 D9 ⟨rfl, e9, e8⟩
                            have e9 := e9.symm; subst e9; have e8 := e8.symm; subst e8
                            refine C.castS (k9 := 30) dX4_fieldOf_42 cl_X4_26 cs_4 kc_4 rfl fe12 ?_
                            refine C.aret (r := some (S 30)) dX4_fieldOf_45 rfl (by first | exact Or.inl ⟨_, rfl⟩ | exact Or.inr ⟨_, rfl⟩) ?_
                            refine Or.inr (Or.inr (Or.inr (Or.inr (Or.inr (Or.inr (Or.inr (Or.inr (Or.inr (Or.inr (Or.inr (Or.inr (Or.inr (⟨?_, rfl, rfl, rfl⟩)))))))))))))
                            refine knw_at 12 (by decide) (fun k hk => ?_) y_9
                            rcases (show k = 0 ∨ k = 1 ∨ k = 2 ∨ k = 3 ∨ k = 4 ∨ k = 5 ∨ k = 6 ∨ k = 7 ∨ k = 8 ∨ k = 9 ∨ k = 10 ∨ k = 11 by omega) with rfl | rfl | rfl | rfl | rfl | rfl | rfl | rfl | rfl | rfl | rfl | rfl
                            · exact n_0
                            · exact n_1
                            · exact n_2
                            · exact n_3
                            · exact n_4
                            · exact n_5
                            · exact n_6
                            · exact n_7
                            · exact n_8
                            · exact n_9
                            · exact n_10
                            · exact n_11
                        · skip
                          have y_9 := of_decide_eq_true (bt1 c_31)
                          refine C.aload_nR dX4_fieldOf_34 rfl ?_
                          refine C.getS (k9 := 3) (fs := [.ref (S 15), .ref (S 17), .ref (S 18), .ref (S 19), .ref (S 20), .ref (S 21), .ref (S 22), .ref (S 23), .ref (S 24), .ref (S 25), .ref (S 26), .ref (S 27), .ref (S 28), .ref (S 29), .ref (S 30), .ref (S 44)]) dX4_fieldOf_35 fl_X4_96 rfl hK.1 rfl ?_
                          refine C.iload_n dX4_fieldOf_38 rfl ?_
                          refine C.callLS0 (k9 := 44) [.int 11] dX4_fieldOf_39 mdJx4a65c_get_915e3 imJx4a65c_get_915e3 seJx4a65c_get_915e3 rfl hK.2.2.2 lk_X4_123 rfl rfl rfl rfl (cCt.w0 (R := fun r => r = some (.ref (S 29))) fun σ9 h9 => c_list_get (h9.at (k := 44) rfl hK.2.2.2) (show (rv (fl13 S))[11]? = some (.ref (S 29)) from rfl)) ?_
                          rintro _ G9 D9 ⟨rfl, e9, e8⟩
                          have e9 := e9.symm; subst e9; have e8 := e8.symm; subst e8
                          refine C.castS (k9 := 29) dX4_fieldOf_42 cl_X4_26 cs_4 kc_4 rfl fe11 ?_
                          refine C.aret (r := some (S 29)) dX4_fieldOf_45 rfl (by first | exact Or.inl ⟨_, rfl⟩ | exact Or.inr ⟨_, rfl⟩) ?_
                          refine Or.inr (Or.inr (Or.inr (Or.inr (Or.inr (Or.inr (Or.inr (Or.inr (Or.inr (Or.inr (Or.inr (Or.inr (Or.inl ⟨?_, rfl, rfl, rfl⟩))))))))))))
                          refine knw_at 11 (by decide) (fun k hk => ?_) y_9
                          rcases (show k = 0 ∨ k = 1 ∨ k = 2 ∨ k = 3 ∨ k = 4 ∨ k = 5 ∨ k = 6 ∨ k = 7 ∨ k = 8 ∨ k = 9 ∨ k = 10 by omega) with rfl | rfl | rfl | rfl | rfl | rfl | rfl | rfl | rfl | rfl | rfl
                          · exact n_0
                          · exact n_1
                          · exact n_2
                          · exact n_3
                          · exact n_4
                          · exact n_5
                          · exact n_6
                          · exact n_7
                          · exact n_8
                          · exact n_9
                          · exact n_10
                      · skip
                        have y_9 := of_decide_eq_true (bt1 c_31)
                        refine C.aload_nR dX4_fieldOf_34 rfl ?_
                        refine C.getS (k9 := 3) (fs := [.ref (S 15), .ref (S 17), .ref (S 18), .ref (S 19), .ref (S 20), .ref (S 21), .ref (S 22), .ref (S 23), .ref (S 24), .ref (S 25), .ref (S 26), .ref (S 27), .ref (S 28), .ref (S 29), .ref (S 30), .ref (S 44)]) dX4_fieldOf_35 fl_X4_96 rfl hK.1 rfl ?_
                        refine C.iload_n dX4_fieldOf_38 rfl ?_
                        refine C.callLS0 (k9 := 44) [.int 10] dX4_fieldOf_39 mdJx4a65c_get_915e3 imJx4a65c_get_915e3 seJx4a65c_get_915e3 rfl hK.2.2.2 lk_X4_123 rfl rfl rfl rfl (cCt.w0 (R := fun r => r = some (.ref (S 28))) fun σ9 h9 => c_list_get (h9.at (k := 44) rfl hK.2.2.2) (show (rv (fl13 S))[10]? = some (.ref (S 28)) from rfl)) ?_
                        rintro _ G9 D9 ⟨rfl, e9, e8⟩
                        have e9 := e9.symm; subst e9; have e8 := e8.symm; subst e8
                        refine C.castS (k9 := 28) dX4_fieldOf_42 cl_X4_26 cs_4 kc_4 rfl fe10 ?_
                        refine C.aret (r := some (S 28)) dX4_fieldOf_45 rfl (by first | exact Or.inl ⟨_, rfl⟩ | exact Or.inr ⟨_, rfl⟩) ?_
                        refine Or.inr (Or.inr (Or.inr (Or.inr (Or.inr (Or.inr (Or.inr (Or.inr (Or.inr (Or.inr (Or.inr (Or.inl ⟨?_, rfl, rfl, rfl⟩)))))))))))
                        refine knw_at 10 (by decide) (fun k hk => ?_) y_9
                        rcases (show k = 0 ∨ k = 1 ∨ k = 2 ∨ k = 3 ∨ k = 4 ∨ k = 5 ∨ k = 6 ∨ k = 7 ∨ k = 8 ∨ k = 9 by omega) with rfl | rfl | rfl | rfl | rfl | rfl | rfl | rfl | rfl | rfl
                        · exact n_0
                        · exact n_1
                        · exact n_2
                        · exact n_3
                        · exact n_4
                        · exact n_5
                        · exact n_6
                        · exact n_7
                        · exact n_8
                        · exact n_9
                    · skip
                      have y_9 := of_decide_eq_true (bt1 c_31)
                      refine C.aload_nR dX4_fieldOf_34 rfl ?_
                      refine C.getS (k9 := 3) (fs := [.ref (S 15), .ref (S 17), .ref (S 18), .ref (S 19), .ref (S 20), .ref (S 21), .ref (S 22), .ref (S 23), .ref (S 24), .ref (S 25), .ref (S 26), .ref (S 27), .ref (S 28), .ref (S 29), .ref (S 30), .ref (S 44)]) dX4_fieldOf_35 fl_X4_96 rfl hK.1 rfl ?_
                      refine C.iload_n dX4_fieldOf_38 rfl ?_
                      refine C.callLS0 (k9 := 44) [.int 9] dX4_fieldOf_39 mdJx4a65c_get_915e3 imJx4a65c_get_915e3 seJx4a65c_get_915e3 rfl hK.2.2.2 lk_X4_123 rfl rfl rfl rfl (cCt.w0 (R := fun r => r = some (.ref (S 27))) fun σ9 h9 => c_list_get (h9.at (k := 44) rfl hK.2.2.2) (show (rv (fl13 S))[9]? = some (.ref (S 27)) from rfl)) ?_
                      rintro _ G9 D9 ⟨rfl, e9, e8⟩
                      have e9 := e9.symm; subst e9; have e8 := e8.symm; subst e8
                      refine C.castS (k9 := 27) dX4_fieldOf_42 cl_X4_26 cs_4 kc_4 rfl fe9 ?_
                      refine C.aret (r := some (S 27)) dX4_fieldOf_45 rfl (by first | exact Or.inl ⟨_, rfl⟩ | exact Or.inr ⟨_, rfl⟩) ?_
                      refine Or.inr (Or.inr (Or.inr (Or.inr (Or.inr (Or.inr (Or.inr (Or.inr (Or.inr (Or.inr (Or.inl ⟨?_, rfl, rfl, rfl⟩))))))))))
                      refine knw_at 9 (by decide) (fun k hk => ?_) y_9
                      rcases (show k = 0 ∨ k = 1 ∨ k = 2 ∨ k = 3 ∨ k = 4 ∨ k = 5 ∨ k = 6 ∨ k = 7 ∨ k = 8 by omega) with rfl | rfl | rfl | rfl | rfl | rfl | rfl | rfl | rfl
                      · exact n_0
                      · exact n_1
                      · exact n_2
                      · exact n_3
                      · exact n_4
                      · exact n_5
                      · exact n_6
                      · exact n_7
                      · exact n_8
                  · skip
                    have y_9 := of_decide_eq_true (bt1 c_31)
                    refine C.aload_nR dX4_fieldOf_34 rfl ?_
                    refine C.getS (k9 := 3) (fs := [.ref (S 15), .ref (S 17), .ref (S 18), .ref (S 19), .ref (S 20), .ref (S 21), .ref (S 22), .ref (S 23), .ref (S 24), .ref (S 25), .ref (S 26), .ref (S 27), .ref (S 28), .ref (S 29), .ref (S 30), .ref (S 44)]) dX4_fieldOf_35 fl_X4_96 rfl hK.1 rfl ?_
                    refine C.iload_n dX4_fieldOf_38 rfl ?_
                    refine C.callLS0 (k9 := 44) [.int 8] dX4_fieldOf_39 mdJx4a65c_get_915e3 imJx4a65c_get_915e3 seJx4a65c_get_915e3 rfl hK.2.2.2 lk_X4_123 rfl rfl rfl rfl (cCt.w0 (R := fun r => r = some (.ref (S 26))) fun σ9 h9 => c_list_get (h9.at (k := 44) rfl hK.2.2.2) (show (rv (fl13 S))[8]? = some (.ref (S 26)) from rfl)) ?_
                    rintro _ G9 D9 ⟨rfl, e9, e8⟩
                    have e9 := e9.symm; subst e9; have e8 := e8.symm; subst e8
                    refine C.castS (k9 := 26) dX4_fieldOf_42 cl_X4_26 cs_4 kc_4 rfl fe8 ?_
                    refine C.aret (r := some (S 26)) dX4_fieldOf_45 rfl (by first | exact Or.inl ⟨_, rfl⟩ | exact Or.inr ⟨_, rfl⟩) ?_
                    refine Or.inr (Or.inr (Or.inr (Or.inr (Or.inr (Or.inr (Or.inr (Or.inr (Or.inr (Or.inl ⟨?_, rfl, rfl, rfl⟩)))))))))
                    refine knw_at 8 (by decide) (fun k hk => ?_) y_9
                    rcases (show k = 0 ∨ k = 1 ∨ k = 2 ∨ k = 3 ∨ k = 4 ∨ k = 5 ∨ k = 6 ∨ k = 7 by omega) with rfl | rfl | rfl | rfl | rfl | rfl | rfl | rfl
                    · exact n_0
                    · exact n_1
                    · exact n_2
                    · exact n_3
                    · exact n_4
                    · exact n_5
                    · exact n_6
                    · exact n_7
                · skip
                  have y_9 := of_decide_eq_true (bt1 c_31)
                  refine C.aload_nR dX4_fieldOf_34 rfl ?_
                  refine C.getS (k9 := 3) (fs := [.ref (S 15), .ref (S 17), .ref (S 18), .ref (S 19), .ref (S 20), .ref (S 21), .ref (S 22), .ref (S 23), .ref (S 24), .ref (S 25), .ref (S 26), .ref (S 27), .ref (S 28), .ref (S 29), .ref (S 30), .ref (S 44)]) dX4_fieldOf_35 fl_X4_96 rfl hK.1 rfl ?_
                  refine C.iload_n dX4_fieldOf_38 rfl ?_
                  refine C.callLS0 (k9 := 44) [.int 7] dX4_fieldOf_39 mdJx4a65c_get_915e3 imJx4a65c_get_915e3 seJx4a65c_get_915e3 rfl hK.2.2.2 lk_X4_123 rfl rfl rfl rfl (cCt.w0 (R := fun r => r = some (.ref (S 25))) fun σ9 h9 => c_list_get (h9.at (k := 44) rfl hK.2.2.2) (show (rv (fl13 S))[7]? = some (.ref (S 25)) from rfl)) ?_
                  rintro _ G9 D9 ⟨rfl, e9, e8⟩
                  have e9 := e9.symm; subst e9; have e8 := e8.symm; subst e8
                  refine C.castS (k9 := 25) dX4_fieldOf_42 cl_X4_26 cs_4 kc_4 rfl fe7 ?_
                  refine C.aret (r := some (S 25)) dX4_fieldOf_45 rfl (by first | exact Or.inl ⟨_, rfl⟩ | exact Or.inr ⟨_, rfl⟩) ?_
                  refine Or.inr (Or.inr (Or.inr (Or.inr (Or.inr (Or.inr (Or.inr (Or.inr (Or.inl ⟨?_, rfl, rfl, rfl⟩))))))))
                  refine knw_at 7 (by decide) (fun k hk => ?_) y_9
                  rcases (show k = 0 ∨ k = 1 ∨ k = 2 ∨ k = 3 ∨ k = 4 ∨ k = 5 ∨ k = 6 by omega) with rfl | rfl | rfl | rfl | rfl | rfl | rfl
                  · exact n_0
                  · exact n_1
                  · exact n_2
                  · exact n_3
                  · exact n_4
                  · exact n_5
                  · exact n_6
              · skip
                have y_9 := of_decide_eq_true (bt1 c_31)
                refine C.aload_nR dX4_fieldOf_34 rfl ?_
                refine C.getS (k9 := 3) (fs := [.ref (S 15), .ref (S 17), .ref (S 18), .ref (S 19), .ref (S 20), .ref (S 21), .ref (S 22), .ref (S 23), .ref (S 24), .ref (S 25), .ref (S 26), .ref (S 27), .ref (S 28), .ref (S 29), .ref (S 30), .ref (S 44)]) dX4_fieldOf_35 fl_X4_96 rfl hK.1 rfl ?_
                refine C.iload_n dX4_fieldOf_38 rfl ?_
                refine C.callLS0 (k9 := 44) [.int 6] dX4_fieldOf_39 mdJx4a65c_get_915e3 imJx4a65c_get_915e3 seJx4a65c_get_915e3 rfl hK.2.2.2 lk_X4_123 rfl rfl rfl rfl (cCt.w0 (R := fun r => r = some (.ref (S 24))) fun σ9 h9 => c_list_get (h9.at (k := 44) rfl hK.2.2.2) (show (rv (fl13 S))[6]? = some (.ref (S 24)) from rfl)) ?_
                rintro _ G9 D9 ⟨rfl, e9, e8⟩
                have e9 := e9.symm; subst e9; have e8 := e8.symm; subst e8
                refine C.castS (k9 := 24) dX4_fieldOf_42 cl_X4_26 cs_4 kc_4 rfl fe6 ?_
                refine C.aret (r := some (S 24)) dX4_fieldOf_45 rfl (by first | exact Or.inl ⟨_, rfl⟩ | exact Or.inr ⟨_, rfl⟩) ?_
                refine Or.inr (Or.inr (Or.inr (Or.inr (Or.inr (Or.inr (Or.inr (Or.inl ⟨?_, rfl, rfl, rfl⟩)))))))
                refine knw_at 6 (by decide) (fun k hk => ?_) y_9
                rcases (show k = 0 ∨ k = 1 ∨ k = 2 ∨ k = 3 ∨ k = 4 ∨ k = 5 by omega) with rfl | rfl | rfl | rfl | rfl | rfl
                · exact n_0
                · exact n_1
                · exact n_2
                · exact n_3
                · exact n_4
                · exact n_5
            · skip
              have y_9 := of_decide_eq_true (bt1 c_31)
              refine C.aload_nR dX4_fieldOf_34 rfl ?_
              refine C.getS (k9 := 3) (fs := [.ref (S 15), .ref (S 17), .ref (S 18), .ref (S 19), .ref (S 20), .ref (S 21), .ref (S 22), .ref (S 23), .ref (S 24), .ref (S 25), .ref (S 26), .ref (S 27), .ref (S 28), .ref (S 29), .ref (S 30), .ref (S 44)]) dX4_fieldOf_35 fl_X4_96 rfl hK.1 rfl ?_
              refine C.iload_n dX4_fieldOf_38 rfl ?_
              refine C.callLS0 (k9 := 44) [.int 5] dX4_fieldOf_39 mdJx4a65c_get_915e3 imJx4a65c_get_915e3 seJx4a65c_get_915e3 rfl hK.2.2.2 lk_X4_123 rfl rfl rfl rfl (cCt.w0 (R := fun r => r = some (.ref (S 23))) fun σ9 h9 => c_list_get (h9.at (k := 44) rfl hK.2.2.2) (show (rv (fl13 S))[5]? = some (.ref (S 23)) from rfl)) ?_
              rintro _ G9 D9 ⟨rfl, e9, e8⟩
              have e9 := e9.symm; subst e9; have e8 := e8.symm; subst e8
              refine C.castS (k9 := 23) dX4_fieldOf_42 cl_X4_26 cs_4 kc_4 rfl fe5 ?_
              refine C.aret (r := some (S 23)) dX4_fieldOf_45 rfl (by first | exact Or.inl ⟨_, rfl⟩ | exact Or.inr ⟨_, rfl⟩) ?_
              refine Or.inr (Or.inr (Or.inr (Or.inr (Or.inr (Or.inr (Or.inl ⟨?_, rfl, rfl, rfl⟩))))))
              refine knw_at 5 (by decide) (fun k hk => ?_) y_9
              rcases (show k = 0 ∨ k = 1 ∨ k = 2 ∨ k = 3 ∨ k = 4 by omega) with rfl | rfl | rfl | rfl | rfl
              · exact n_0
              · exact n_1
              · exact n_2
              · exact n_3
              · exact n_4
          · skip
            have y_9 := of_decide_eq_true (bt1 c_31)
            refine C.aload_nR dX4_fieldOf_34 rfl ?_
            refine C.getS (k9 := 3) (fs := [.ref (S 15), .ref (S 17), .ref (S 18), .ref (S 19), .ref (S 20), .ref (S 21), .ref (S 22), .ref (S 23), .ref (S 24), .ref (S 25), .ref (S 26), .ref (S 27), .ref (S 28), .ref (S 29), .ref (S 30), .ref (S 44)]) dX4_fieldOf_35 fl_X4_96 rfl hK.1 rfl ?_
            refine C.iload_n dX4_fieldOf_38 rfl ?_
            refine C.callLS0 (k9 := 44) [.int 4] dX4_fieldOf_39 mdJx4a65c_get_915e3 imJx4a65c_get_915e3 seJx4a65c_get_915e3 rfl hK.2.2.2 lk_X4_123 rfl rfl rfl rfl (cCt.w0 (R := fun r => r = some (.ref (S 22))) fun σ9 h9 => c_list_get (h9.at (k := 44) rfl hK.2.2.2) (show (rv (fl13 S))[4]? = some (.ref (S 22)) from rfl)) ?_
            rintro _ G9 D9 ⟨rfl, e9, e8⟩
            have e9 := e9.symm; subst e9; have e8 := e8.symm; subst e8
            refine C.castS (k9 := 22) dX4_fieldOf_42 cl_X4_26 cs_4 kc_4 rfl fe4 ?_
            refine C.aret (r := some (S 22)) dX4_fieldOf_45 rfl (by first | exact Or.inl ⟨_, rfl⟩ | exact Or.inr ⟨_, rfl⟩) ?_
            refine Or.inr (Or.inr (Or.inr (Or.inr (Or.inr (Or.inl ⟨?_, rfl, rfl, rfl⟩)))))
            refine knw_at 4 (by decide) (fun k hk => ?_) y_9
            rcases (show k = 0 ∨ k = 1 ∨ k = 2 ∨ k = 3 by omega) with rfl | rfl | rfl | rfl
            · exact n_0
            · exact n_1
            · exact n_2
            · exact n_3
        · skip
          have y_9 := of_decide_eq_true (bt1 c_31)
          refine C.aload_nR dX4_fieldOf_34 rfl ?_
          refine C.getS (k9 := 3) (fs := [.ref (S 15), .ref (S 17), .ref (S 18), .ref (S 19), .ref (S 20), .ref (S 21), .ref (S 22), .ref (S 23), .ref (S 24), .ref (S 25), .ref (S 26), .ref (S 27), .ref (S 28), .ref (S 29), .ref (S 30), .ref (S 44)]) dX4_fieldOf_35 fl_X4_96 rfl hK.1 rfl ?_
          refine C.iload_n dX4_fieldOf_38 rfl ?_
          refine C.callLS0 (k9 := 44) [.int 3] dX4_fieldOf_39 mdJx4a65c_get_915e3 imJx4a65c_get_915e3 seJx4a65c_get_915e3 rfl hK.2.2.2 lk_X4_123 rfl rfl rfl rfl (cCt.w0 (R := fun r => r = some (.ref (S 21))) fun σ9 h9 => c_list_get (h9.at (k := 44) rfl hK.2.2.2) (show (rv (fl13 S))[3]? = some (.ref (S 21)) from rfl)) ?_
          rintro _ G9 D9 ⟨rfl, e9, e8⟩
          have e9 := e9.symm; subst e9; have e8 := e8.symm; subst e8
          refine C.castS (k9 := 21) dX4_fieldOf_42 cl_X4_26 cs_4 kc_4 rfl fe3 ?_
          refine C.aret (r := some (S 21)) dX4_fieldOf_45 rfl (by first | exact Or.inl ⟨_, rfl⟩ | exact Or.inr ⟨_, rfl⟩) ?_
          refine Or.inr (Or.inr (Or.inr (Or.inr (Or.inl ⟨?_, rfl, rfl, rfl⟩))))
          refine knw_at 3 (by decide) (fun k hk => ?_) y_9
          rcases (show k = 0 ∨ k = 1 ∨ k = 2 by omega) with rfl | rfl | rfl
          · exact n_0
          · exact n_1
          · exact n_2
      · skip
        have y_9 := of_decide_eq_true (bt1 c_31)
        refine C.aload_nR dX4_fieldOf_34 rfl ?_
        refine C.getS (k9 := 3) (fs := [.ref (S 15), .ref (S 17), .ref (S 18), .ref (S 19), .ref (S 20), .ref (S 21), .ref (S 22), .ref (S 23), .ref (S 24), .ref (S 25), .ref (S 26), .ref (S 27), .ref (S 28), .ref (S 29), .ref (S 30), .ref (S 44)]) dX4_fieldOf_35 fl_X4_96 rfl hK.1 rfl ?_
        refine C.iload_n dX4_fieldOf_38 rfl ?_
        refine C.callLS0 (k9 := 44) [.int 2] dX4_fieldOf_39 mdJx4a65c_get_915e3 imJx4a65c_get_915e3 seJx4a65c_get_915e3 rfl hK.2.2.2 lk_X4_123 rfl rfl rfl rfl (cCt.w0 (R := fun r => r = some (.ref (S 20))) fun σ9 h9 => c_list_get (h9.at (k := 44) rfl hK.2.2.2) (show (rv (fl13 S))[2]? = some (.ref (S 20)) from rfl)) ?_
        rintro _ G9 D9 ⟨rfl, e9, e8⟩
        have e9 := e9.symm; subst e9; have e8 := e8.symm; subst e8
        refine C.castS (k9 := 20) dX4_fieldOf_42 cl_X4_26 cs_4 kc_4 rfl fe2 ?_
        refine C.aret (r := some (S 20)) dX4_fieldOf_45 rfl (by first | exact Or.inl ⟨_, rfl⟩ | exact Or.inr ⟨_, rfl⟩) ?_
        refine Or.inr (Or.inr (Or.inr (Or.inl ⟨?_, rfl, rfl, rfl⟩)))
        refine knw_at 2 (by decide) (fun k hk => ?_) y_9
        rcases (show k = 0 ∨ k = 1 by omega) with rfl | rfl
        · exact n_0
        · exact n_1
    · skip
      have y_9 := of_decide_eq_true (bt1 c_31)
      refine C.aload_nR dX4_fieldOf_34 rfl ?_
      refine C.getS (k9 := 3) (fs := [.ref (S 15), .ref (S 17), .ref (S 18), .ref (S 19), .ref (S 20), .ref (S 21), .ref (S 22), .ref (S 23), .ref (S 24), .ref (S 25), .ref (S 26), .ref (S 27), .ref (S 28), .ref (S 29), .ref (S 30), .ref (S 44)]) dX4_fieldOf_35 fl_X4_96 rfl hK.1 rfl ?_
      refine C.iload_n dX4_fieldOf_38 rfl ?_
      refine C.callLS0 (k9 := 44) [.int 1] dX4_fieldOf_39 mdJx4a65c_get_915e3 imJx4a65c_get_915e3 seJx4a65c_get_915e3 rfl hK.2.2.2 lk_X4_123 rfl rfl rfl rfl (cCt.w0 (R := fun r => r = some (.ref (S 19))) fun σ9 h9 => c_list_get (h9.at (k := 44) rfl hK.2.2.2) (show (rv (fl13 S))[1]? = some (.ref (S 19)) from rfl)) ?_
      rintro _ G9 D9 ⟨rfl, e9, e8⟩
      have e9 := e9.symm; subst e9; have e8 := e8.symm; subst e8
      refine C.castS (k9 := 19) dX4_fieldOf_42 cl_X4_26 cs_4 kc_4 rfl fe1 ?_
      refine C.aret (r := some (S 19)) dX4_fieldOf_45 rfl (by first | exact Or.inl ⟨_, rfl⟩ | exact Or.inr ⟨_, rfl⟩) ?_
      refine Or.inr (Or.inr (Or.inl ⟨?_, rfl, rfl, rfl⟩))
      refine knw_at 1 (by decide) (fun k hk => ?_) y_9
      rcases (show k = 0 by omega) with rfl
      · exact n_0
  · skip
    have y_9 := of_decide_eq_true (bt1 c_31)
    refine C.aload_nR dX4_fieldOf_34 rfl ?_
    refine C.getS (k9 := 3) (fs := [.ref (S 15), .ref (S 17), .ref (S 18), .ref (S 19), .ref (S 20), .ref (S 21), .ref (S 22), .ref (S 23), .ref (S 24), .ref (S 25), .ref (S 26), .ref (S 27), .ref (S 28), .ref (S 29), .ref (S 30), .ref (S 44)]) dX4_fieldOf_35 fl_X4_96 rfl hK.1 rfl ?_
    refine C.iload_n dX4_fieldOf_38 rfl ?_
    refine C.callLS0 (k9 := 44) [.int 0] dX4_fieldOf_39 mdJx4a65c_get_915e3 imJx4a65c_get_915e3 seJx4a65c_get_915e3 rfl hK.2.2.2 lk_X4_123 rfl rfl rfl rfl (cCt.w0 (R := fun r => r = some (.ref (S 18))) fun σ9 h9 => c_list_get (h9.at (k := 44) rfl hK.2.2.2) (show (rv (fl13 S))[0]? = some (.ref (S 18)) from rfl)) ?_
    rintro _ G9 D9 ⟨rfl, e9, e8⟩
    have e9 := e9.symm; subst e9; have e8 := e8.symm; subst e8
    refine C.castS (k9 := 18) dX4_fieldOf_42 cl_X4_26 cs_4 kc_4 rfl fe0 ?_
    refine C.aret (r := some (S 18)) dX4_fieldOf_45 rfl (by first | exact Or.inl ⟨_, rfl⟩ | exact Or.inr ⟨_, rfl⟩) ?_
    refine Or.inr (Or.inl ⟨?_, rfl, rfl, rfl⟩)
    refine knw_at 0 (by decide) (fun k hk => ?_) y_9
    omega
