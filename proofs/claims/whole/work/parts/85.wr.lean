/-! the law's nine wrappers -/
def wFr (S : Nat → Nat) (ou : Nat) (D0 σ0 D σ : kh) : Prop := (∀ q c, σ0 q = some c → D0 q = none → (∀ k, k < 51 → q ≠ S k) → q ≠ ou → σ q = some c) ∧ ∀ q, D0 q = none → D q ≠ none → σ0 q = none
theorem cFr.w {S : Nat → Nat} {ou : Nat} {D0 σ0 D σ : kh} (h : cFr S D0 σ0 D σ) : wFr S ou D0 σ0 D σ := ⟨fun q c h1 h2 h3 _ => h.1 q c h1 h2 h3, h.2⟩
theorem cFr.wo {S : Nat → Nat} {ou : Nat} {D0 σ0 D σ : kh} {c : kc} (h : cFr S D0 σ0 D σ) : wFr S ou D0 σ0 D (kup σ ou c) := ⟨fun q d h1 h2 h3 h4 => kup_i h4 (h.1 q d h1 h2 h3), h.2⟩
theorem cFr.no {S : Nat → Nat} {ou : Nat} {D0 σ0 D σ : kh} {c : kc} (h : cFr S D0 σ0 D σ) (ho : σ0 ou = some c) (hD : D0 ou = none) : D ou = none := Classical.byContradiction fun q => by rw [h.2 ou hD q] at ho; cases ho
theorem cHas.wo {σ : kh} {S : Nat → Nat} {G : Nat → kc} {D : kh} {ou : Nat} {c : kc} (h : cHas σ S G D) (hS : ∀ k, k < 51 → S k ≠ ou) (hD : D ou = none) : cHas (kup σ ou c) S G D := ⟨fun k hk => kup_i (hS k hk) (h.1 k hk), fun q d hq => kup_i (fun e => by rw [e, hD] at hq; cases hq) (h.2.1 q d hq), h.2.2⟩
/-- what a wrapper leaves: its answer (which throw, 0 if none), the class's new state, the answer in the law's row -/
def wQ (Λ : kL) (S : Nat → Nat) (ou : Nat) (D σ : kh) (o : rx) : Option Value → kh → Prop := fun r σ' => ∃ (G' : Nat → kc) (D' : kh) (f' : Nat → Int64), r = some (.int o.2.1) ∧ cHas σ' S G' D' ∧ wFr S ou D σ D' σ' ∧ σ' ou = some (aL 1 f') ∧ cSt Λ S o G' D' ∧ (o.2.1 = 0 → f' 0 = o.1.toInt64)
def wQv (Λ : kL) (S : Nat → Nat) (D σ : kh) (o : rx) : Option Value → kh → Prop := fun r σ' => ∃ (G' : Nat → kc) (D' : kh), r = some (.int o.2.1) ∧ cHas σ' S G' D' ∧ cFr S D σ D' σ' ∧ cSt Λ S o G' D'

theorem ca_x0 : Cond.castable "java/lang/IllegalArgumentException" "java/lang/IllegalArgumentException" ∈ lw_tbl := by decide +kernel
theorem ca_x1 : Cond.castable "java/lang/UnsupportedOperationException" "java/lang/UnsupportedOperationException" ∈ lw_tbl := by decide +kernel
theorem ca_x2 : Cond.castable "java/lang/IndexOutOfBoundsException" "java/lang/IndexOutOfBoundsException" ∈ lw_tbl := by decide +kernel
theorem ca_x3 : Cond.castable "java/util/NoSuchElementException" "java/util/NoSuchElementException" ∈ lw_tbl := by decide +kernel
theorem ca_x4 : Cond.castable "java/lang/IllegalStateException" "java/lang/IllegalStateException" ∈ lw_tbl := by decide +kernel

def hh_scope : List (Nat × Nat × Nat × Nat) := [(0, 8, 11, 13), (0, 8, 14, 15)]
theorem hd_scope_0 {Λ : kL} (h : kOK Λ) : kHd Λ RL hh_scope "java/lang/IllegalArgumentException" 3 11 := ⟨tableOf [], ⟨0, 8, 11, 13⟩, tableOf [(0, 8, 14, 15)], "java/lang/IllegalArgumentException", rfl, (fun z hz => by cases hz), rfl, (by decide), cl_L_13, ca_x0, rfl⟩
theorem hd_scope_1 {Λ : kL} (h : kOK Λ) : kHd Λ RL hh_scope "java/lang/UnsupportedOperationException" 3 14 := ⟨tableOf [(0, 8, 11, 13)], ⟨0, 8, 14, 15⟩, tableOf [], "java/lang/UnsupportedOperationException", rfl, (fun z hz => by
    have hz : z = ⟨0, 8, 11, 13⟩ := by simpa [tableOf] using hz
    rcases hz with rfl
    · exact Or.inr ⟨by decide, _, cl_L_13, va_Nc.of (nw h [false, true, true, true, false, false, false, true, true, true, false, false] rfl)⟩), rfl, (by decide), cl_L_15, ca_x1, rfl⟩
theorem w_scope {Λ : kL} (hok : kOK Λ) {S : Nat → Nat} {G : Nat → kc} {D σ : kh} {N : Nat → Int32} {o : rx} {c1 s1 : Nat} (h : cHas σ S G D) (h0 : G 0 = oGs S N) {ou : Nat} {f : Nat → Int64} (ho : σ ou = some (aL 1 f)) (hSo : ∀ k, k < 51 → S k ≠ ou) (hD : D ou = none) (hq : eCt Λ mX11_scope c1 s1 S [.ref (S 0)] G D (eP Λ S o xl_s)) : jWt Λ mL_scope hh_scope c1 s1 [.ref (S 0), .ref ou] σ (wQ Λ S ou D σ o) := by
  refine jWt.of pn_L [some (.ref (S 0)), some (.ref ou), none] rfl (Nat.le_of_ble_eq_true rfl) fun X hT => ?_
  refine J.aload_nR dL_scope_0 rfl ?_
  refine J.iconst (v := 0) dL_scope_1 (by decide) ?_
  refine J.aload_nR dL_scope_2 rfl ?_
  refine J.less (bc' := 0 + c1) (bs' := 0 + s1) (by omega) (by omega) ?_
  refine J.callX (hh := hh_scope) [] dL_scope_3 mdX11_scope imX11_scope seX11_scope kc_12 (h.at (k := 0) rfl h0) (tb4 (i := 210) rfl) rfl rfl rfl rfl hT (hq σ h) ?_ ?_
  · rintro r9 σ1 ⟨G1, D1, ⟨e0, e1, A1, L1, hR1⟩, h1, hfr⟩
    subst e1
    have ho1 := hfr.1 ou _ ho hD (fun k hk e => hSo k hk e.symm)
    have hD1 := hfr.no ho hD
    refine J.i2l dL_scope_6 ?_
    refine J.lastore (j := 0) dL_scope_7 ho1 rfl (by decide) (by decide) ?_
    have h_1 : (kup σ1 ou (aL 1 (vp_updL f 0 o.1.toInt64))) ou = some (aL 1 (vp_updL f 0 o.1.toInt64)) := kup_s _ _ _
    refine J.goto (tgt := 17) dL_scope_8 (by decide) ?_
    refine J.iconst (v := 0) dL_scope_17 (by decide) ?_
    refine J.iret dL_scope_18 rfl ?_
    exact ⟨G1, D1, _, by rw [e0], h1.wo hSo hD1, hfr.wo, kup_s _ _ _, ⟨A1, L1, hR1⟩, fun _ => rfl⟩
  · rintro E9 σ1 ⟨G1, D1, ⟨k9, hk9, e1, A1, L1, hR1⟩, h1, hfr⟩
    have ho1 := hfr.1 ou _ ho hD (fun k hk e => hSo k hk e.symm)
    by_cases z0 : k9 = 0
    · subst z0; cases hk9; refine ⟨11, hd_scope_0 hok, fun q9 => ?_⟩
      refine J.astore_n (L' := [some (.ref (S 0)), some (.ref ou), some (.ref q9)]) dL_scope_11 (by decide) rfl rfl ?_
      refine J.iconst (v := 1) dL_scope_12 (by decide) ?_
      refine J.iret dL_scope_13 rfl ?_
      exact ⟨G1, D1, f, by rw [e1]; rfl, h1, hfr.w, ho1, ⟨A1, L1, hR1⟩, fun z => absurd (e1.symm.trans z) (by decide)⟩
    by_cases z1 : k9 = 1
    · subst z1; cases hk9; refine ⟨14, hd_scope_1 hok, fun q9 => ?_⟩
      refine J.astore_n (L' := [some (.ref (S 0)), some (.ref ou), some (.ref q9)]) dL_scope_14 (by decide) rfl rfl ?_
      refine J.iconst (v := 2) dL_scope_15 (by decide) ?_
      refine J.iret dL_scope_16 rfl ?_
      exact ⟨G1, D1, f, by rw [e1]; rfl, h1, hfr.w, ho1, ⟨A1, L1, hR1⟩, fun z => absurd (e1.symm.trans z) (by decide)⟩
    exact absurd hk9 (by have hn : xl_s.length = 2 := rfl; rw [List.getElem?_eq_none (by omega)]; exact fun z => by cases z)

def hh_client : List (Nat × Nat × Nat × Nat) := [(0, 12, 15, 13), (0, 12, 19, 15)]
theorem hd_client_0 {Λ : kL} (h : kOK Λ) : kHd Λ RL hh_client "java/lang/IllegalArgumentException" 7 15 := ⟨tableOf [], ⟨0, 12, 15, 13⟩, tableOf [(0, 12, 19, 15)], "java/lang/IllegalArgumentException", rfl, (fun z hz => by cases hz), rfl, (by decide), cl_L_13, ca_x0, rfl⟩
theorem hd_client_1 {Λ : kL} (h : kOK Λ) : kHd Λ RL hh_client "java/lang/UnsupportedOperationException" 7 19 := ⟨tableOf [(0, 12, 15, 13)], ⟨0, 12, 19, 15⟩, tableOf [], "java/lang/UnsupportedOperationException", rfl, (fun z hz => by
    have hz : z = ⟨0, 12, 15, 13⟩ := by simpa [tableOf] using hz
    rcases hz with rfl
    · exact Or.inr ⟨by decide, _, cl_L_13, va_Nc.of (nw h [false, true, true, true, false, false, false, true, true, true, false, false] rfl)⟩), rfl, (by decide), cl_L_15, ca_x1, rfl⟩
theorem w_client {Λ : kL} (hok : kOK Λ) {S : Nat → Nat} {G : Nat → kc} {D σ : kh} {N : Nat → Int32} {o : rx} {c1 s1 : Nat} {cf rf : Bool} {x : Int32} (h : cHas σ S G D) (h0 : G 0 = oGs S N) {ou : Nat} {f : Nat → Int64} (ho : σ ou = some (aL 1 f)) (hSo : ∀ k, k < 51 → S k ≠ ou) (hD : D ou = none) (hq : eCt Λ mX11_client c1 s1 S [.ref (S 0), .int (bI cf), .int x, .int (bI rf)] G D (eP Λ S o xl_s)) : jWt Λ mL_client hh_client c1 s1 [.ref (S 0), .int (bI cf), .int x, .int (bI rf), .ref ou] σ (wQ Λ S ou D σ o) := by
  refine jWt.of pn_L [some (.ref (S 0)), some (.int (bI cf)), some (.int x), some (.int (bI rf)), some (.ref ou), none] rfl (Nat.le_of_ble_eq_true rfl) fun X hT => ?_
  refine J.aloadR dL_client_0 rfl ?_
  refine J.iconst (v := 0) dL_client_2 (by decide) ?_
  refine J.aload_nR dL_client_3 rfl ?_
  refine J.iload_n dL_client_4 rfl ?_
  refine J.iload_n dL_client_5 rfl ?_
  refine J.iload_n dL_client_6 rfl ?_
  refine J.less (bc' := 0 + c1) (bs' := 0 + s1) (by omega) (by omega) ?_
  refine J.callX (hh := hh_client) [.int (bI cf), .int x, .int (bI rf)] dL_client_7 mdX11_client imX11_client seX11_client kc_12 (h.at (k := 0) rfl h0) (tb5 (i := 71) rfl) rfl rfl rfl rfl hT (hq σ h) ?_ ?_
  · rintro r9 σ1 ⟨G1, D1, ⟨e0, e1, A1, L1, hR1⟩, h1, hfr⟩
    subst e1
    have ho1 := hfr.1 ou _ ho hD (fun k hk e => hSo k hk e.symm)
    have hD1 := hfr.no ho hD
    refine J.i2l dL_client_10 ?_
    refine J.lastore (j := 0) dL_client_11 ho1 rfl (by decide) (by decide) ?_
    have h_1 : (kup σ1 ou (aL 1 (vp_updL f 0 o.1.toInt64))) ou = some (aL 1 (vp_updL f 0 o.1.toInt64)) := kup_s _ _ _
    refine J.goto (tgt := 23) dL_client_12 (by decide) ?_
    refine J.iconst (v := 0) dL_client_23 (by decide) ?_
    refine J.iret dL_client_24 rfl ?_
    exact ⟨G1, D1, _, by rw [e0], h1.wo hSo hD1, hfr.wo, kup_s _ _ _, ⟨A1, L1, hR1⟩, fun _ => rfl⟩
  · rintro E9 σ1 ⟨G1, D1, ⟨k9, hk9, e1, A1, L1, hR1⟩, h1, hfr⟩
    have ho1 := hfr.1 ou _ ho hD (fun k hk e => hSo k hk e.symm)
    by_cases z0 : k9 = 0
    · subst z0; cases hk9; refine ⟨15, hd_client_0 hok, fun q9 => ?_⟩
      refine J.astore (L' := [some (.ref (S 0)), some (.int (bI cf)), some (.int x), some (.int (bI rf)), some (.ref ou), some (.ref q9)]) dL_client_15 (by decide) rfl rfl ?_
      refine J.iconst (v := 1) dL_client_17 (by decide) ?_
      refine J.iret dL_client_18 rfl ?_
      exact ⟨G1, D1, f, by rw [e1]; rfl, h1, hfr.w, ho1, ⟨A1, L1, hR1⟩, fun z => absurd (e1.symm.trans z) (by decide)⟩
    by_cases z1 : k9 = 1
    · subst z1; cases hk9; refine ⟨19, hd_client_1 hok, fun q9 => ?_⟩
      refine J.astore (L' := [some (.ref (S 0)), some (.int (bI cf)), some (.int x), some (.int (bI rf)), some (.ref ou), some (.ref q9)]) dL_client_19 (by decide) rfl rfl ?_
      refine J.iconst (v := 2) dL_client_21 (by decide) ?_
      refine J.iret dL_client_22 rfl ?_
      exact ⟨G1, D1, f, by rw [e1]; rfl, h1, hfr.w, ho1, ⟨A1, L1, hR1⟩, fun z => absurd (e1.symm.trans z) (by decide)⟩
    exact absurd hk9 (by have hn : xl_s.length = 2 := rfl; rw [List.getElem?_eq_none (by omega)]; exact fun z => by cases z)

def hh_redirect : List (Nat × Nat × Nat × Nat) := [(0, 9, 12, 25), (0, 9, 15, 13), (0, 9, 18, 15)]
theorem hd_redirect_0 {Λ : kL} (h : kOK Λ) : kHd Λ RL hh_redirect "java/lang/IndexOutOfBoundsException" 4 12 := ⟨tableOf [], ⟨0, 9, 12, 25⟩, tableOf [(0, 9, 15, 13), (0, 9, 18, 15)], "java/lang/IndexOutOfBoundsException", rfl, (fun z hz => by cases hz), rfl, (by decide), cl_L_25, ca_x2, rfl⟩
theorem hd_redirect_1 {Λ : kL} (h : kOK Λ) : kHd Λ RL hh_redirect "java/lang/IllegalArgumentException" 4 15 := ⟨tableOf [(0, 9, 12, 25)], ⟨0, 9, 15, 13⟩, tableOf [(0, 9, 18, 15)], "java/lang/IllegalArgumentException", rfl, (fun z hz => by
    have hz : z = ⟨0, 9, 12, 25⟩ := by simpa [tableOf] using hz
    rcases hz with rfl
    · exact Or.inr ⟨by decide, _, cl_L_25, va_Nc.of (nw h [false, true, true, false, true, true, true, false, true, true, false, true] rfl)⟩), rfl, (by decide), cl_L_13, ca_x0, rfl⟩
theorem hd_redirect_2 {Λ : kL} (h : kOK Λ) : kHd Λ RL hh_redirect "java/lang/UnsupportedOperationException" 4 18 := ⟨tableOf [(0, 9, 12, 25), (0, 9, 15, 13)], ⟨0, 9, 18, 15⟩, tableOf [], "java/lang/UnsupportedOperationException", rfl, (fun z hz => by
    have hz : z = ⟨0, 9, 12, 25⟩ ∨ z = ⟨0, 9, 15, 13⟩ := by simpa [tableOf] using hz
    rcases hz with rfl | rfl
    · exact Or.inr ⟨by decide, _, cl_L_25, va_Nc.of (nw h [false, true, true, false, true, true, true, false, true, true, false, false] rfl)⟩
    · exact Or.inr ⟨by decide, _, cl_L_13, va_Nc.of (nw h [false, true, true, true, false, false, false, true, true, true, false, false] rfl)⟩), rfl, (by decide), cl_L_15, ca_x1, rfl⟩
theorem w_redirect {Λ : kL} (hok : kOK Λ) {S : Nat → Nat} {G : Nat → kc} {D σ : kh} {N : Nat → Int32} {o : rx} {c1 s1 : Nat} {x : Int32} (h : cHas σ S G D) (h0 : G 0 = oGs S N) {ou : Nat} {f : Nat → Int64} (ho : σ ou = some (aL 1 f)) (hSo : ∀ k, k < 51 → S k ≠ ou) (hD : D ou = none) (hq : eCt Λ mX11_redirect c1 s1 S [.ref (S 0), .int x] G D (eP Λ S o xl_r)) : jWt Λ mL_redirect hh_redirect c1 s1 [.ref (S 0), .int x, .ref ou] σ (wQ Λ S ou D σ o) := by
  refine jWt.of pn_L [some (.ref (S 0)), some (.int x), some (.ref ou), none] rfl (Nat.le_of_ble_eq_true rfl) fun X hT => ?_
  refine J.aload_nR dL_redirect_0 rfl ?_
  refine J.iconst (v := 0) dL_redirect_1 (by decide) ?_
  refine J.aload_nR dL_redirect_2 rfl ?_
  refine J.iload_n dL_redirect_3 rfl ?_
  refine J.less (bc' := 0 + c1) (bs' := 0 + s1) (by omega) (by omega) ?_
  refine J.callX (hh := hh_redirect) [.int x] dL_redirect_4 mdX11_redirect imX11_redirect seX11_redirect kc_12 (h.at (k := 0) rfl h0) (tb5 (i := 121) rfl) rfl rfl rfl rfl hT (hq σ h) ?_ ?_
  · rintro r9 σ1 ⟨G1, D1, ⟨e0, e1, A1, L1, hR1⟩, h1, hfr⟩
    subst e1
    have ho1 := hfr.1 ou _ ho hD (fun k hk e => hSo k hk e.symm)
    have hD1 := hfr.no ho hD
    refine J.i2l dL_redirect_7 ?_
    refine J.lastore (j := 0) dL_redirect_8 ho1 rfl (by decide) (by decide) ?_
    have h_1 : (kup σ1 ou (aL 1 (vp_updL f 0 o.1.toInt64))) ou = some (aL 1 (vp_updL f 0 o.1.toInt64)) := kup_s _ _ _
    refine J.goto (tgt := 21) dL_redirect_9 (by decide) ?_
    refine J.iconst (v := 0) dL_redirect_21 (by decide) ?_
    refine J.iret dL_redirect_22 rfl ?_
    exact ⟨G1, D1, _, by rw [e0], h1.wo hSo hD1, hfr.wo, kup_s _ _ _, ⟨A1, L1, hR1⟩, fun _ => rfl⟩
  · rintro E9 σ1 ⟨G1, D1, ⟨k9, hk9, e1, A1, L1, hR1⟩, h1, hfr⟩
    have ho1 := hfr.1 ou _ ho hD (fun k hk e => hSo k hk e.symm)
    by_cases z0 : k9 = 0
    · subst z0; cases hk9; refine ⟨12, hd_redirect_0 hok, fun q9 => ?_⟩
      refine J.astore_n (L' := [some (.ref (S 0)), some (.int x), some (.ref ou), some (.ref q9)]) dL_redirect_12 (by decide) rfl rfl ?_
      refine J.iconst (v := 1) dL_redirect_13 (by decide) ?_
      refine J.iret dL_redirect_14 rfl ?_
      exact ⟨G1, D1, f, by rw [e1]; rfl, h1, hfr.w, ho1, ⟨A1, L1, hR1⟩, fun z => absurd (e1.symm.trans z) (by decide)⟩
    by_cases z1 : k9 = 1
    · subst z1; cases hk9; refine ⟨15, hd_redirect_1 hok, fun q9 => ?_⟩
      refine J.astore_n (L' := [some (.ref (S 0)), some (.int x), some (.ref ou), some (.ref q9)]) dL_redirect_15 (by decide) rfl rfl ?_
      refine J.iconst (v := 2) dL_redirect_16 (by decide) ?_
      refine J.iret dL_redirect_17 rfl ?_
      exact ⟨G1, D1, f, by rw [e1]; rfl, h1, hfr.w, ho1, ⟨A1, L1, hR1⟩, fun z => absurd (e1.symm.trans z) (by decide)⟩
    by_cases z2 : k9 = 2
    · subst z2; cases hk9; refine ⟨18, hd_redirect_2 hok, fun q9 => ?_⟩
      refine J.astore_n (L' := [some (.ref (S 0)), some (.int x), some (.ref ou), some (.ref q9)]) dL_redirect_18 (by decide) rfl rfl ?_
      refine J.iconst (v := 3) dL_redirect_19 (by decide) ?_
      refine J.iret dL_redirect_20 rfl ?_
      exact ⟨G1, D1, f, by rw [e1]; rfl, h1, hfr.w, ho1, ⟨A1, L1, hR1⟩, fun z => absurd (e1.symm.trans z) (by decide)⟩
    exact absurd hk9 (by have hn : xl_r.length = 3 := rfl; rw [List.getElem?_eq_none (by omega)]; exact fun z => by cases z)

def hh_lives : List (Nat × Nat × Nat × Nat) := [(0, 7, 10, 13)]
theorem hd_lives_0 {Λ : kL} (h : kOK Λ) : kHd Λ RL hh_lives "java/lang/IllegalArgumentException" 4 10 := ⟨tableOf [], ⟨0, 7, 10, 13⟩, tableOf [], "java/lang/IllegalArgumentException", rfl, (fun z hz => by cases hz), rfl, (by decide), cl_L_13, ca_x0, rfl⟩
theorem w_lives {Λ : kL} (hok : kOK Λ) {S : Nat → Nat} {G : Nat → kc} {D σ : kh} {N : Nat → Int32} {o : rx} {c1 s1 : Nat} {a b c : Int32} (h : cHas σ S G D) (h0 : G 0 = oGs S N) (hq : eCt Λ mX11_lives c1 s1 S [.ref (S 0), .int a, .int b, .int c] G D (ePv Λ S o xl_a)) : jWt Λ mL_lives hh_lives c1 s1 [.ref (S 0), .int a, .int b, .int c] σ (wQv Λ S D σ o) := by
  refine jWt.of pn_L [some (.ref (S 0)), some (.int a), some (.int b), some (.int c), none] rfl (Nat.le_of_ble_eq_true rfl) fun X hT => ?_
  refine J.aload_nR dL_lives_0 rfl ?_
  refine J.iload_n dL_lives_1 rfl ?_
  refine J.iload_n dL_lives_2 rfl ?_
  refine J.iload_n dL_lives_3 rfl ?_
  refine J.less (bc' := 0 + c1) (bs' := 0 + s1) (by omega) (by omega) ?_
  refine J.callX (hh := hh_lives) [.int a, .int b, .int c] dL_lives_4 mdX11_lives imX11_lives seX11_lives kc_12 (h.at (k := 0) rfl h0) (tb5 (i := 149) rfl) rfl rfl rfl rfl hT (hq σ h) ?_ ?_
  · rintro r9 σ1 ⟨G1, D1, ⟨e0, e1, A1, L1, hR1⟩, h1, hfr⟩
    subst e1
    refine J.goto (tgt := 14) dL_lives_7 (by decide) ?_
    refine J.iconst (v := 0) dL_lives_14 (by decide) ?_
    refine J.iret dL_lives_15 rfl ?_
    exact ⟨G1, D1, by rw [e0], h1, hfr, A1, L1, hR1⟩
  · rintro E9 σ1 ⟨G1, D1, ⟨k9, hk9, e1, A1, L1, hR1⟩, h1, hfr⟩
    by_cases z0 : k9 = 0
    · subst z0; cases hk9; refine ⟨10, hd_lives_0 hok, fun q9 => ?_⟩
      refine J.astore (L' := [some (.ref (S 0)), some (.int a), some (.int b), some (.int c), some (.ref q9)]) dL_lives_10 (by decide) rfl rfl ?_
      refine J.iconst (v := 1) dL_lives_12 (by decide) ?_
      refine J.iret dL_lives_13 rfl ?_
      exact ⟨G1, D1, by rw [e1]; rfl, h1, hfr, A1, L1, hR1⟩
    exact absurd hk9 (by have hn : xl_a.length = 1 := rfl; rw [List.getElem?_eq_none (by omega)]; exact fun z => by cases z)

def hh_tick : List (Nat × Nat × Nat × Nat) := [(0, 9, 12, 13)]
theorem hd_tick_0 {Λ : kL} (h : kOK Λ) : kHd Λ RL hh_tick "java/lang/IllegalArgumentException" 4 12 := ⟨tableOf [], ⟨0, 9, 12, 13⟩, tableOf [], "java/lang/IllegalArgumentException", rfl, (fun z hz => by cases hz), rfl, (by decide), cl_L_13, ca_x0, rfl⟩
theorem w_tick {Λ : kL} (hok : kOK Λ) {S : Nat → Nat} {G : Nat → kc} {D σ : kh} {N : Nat → Int32} {o : rx} {c1 s1 : Nat} {x : Int32} (h : cHas σ S G D) (h0 : G 0 = oGs S N) {ou : Nat} {f : Nat → Int64} (ho : σ ou = some (aL 1 f)) (hSo : ∀ k, k < 51 → S k ≠ ou) (hD : D ou = none) (hq : eCt Λ mX11_tick c1 s1 S [.ref (S 0), .int x] G D (eP Λ S o xl_a)) : jWt Λ mL_tick hh_tick c1 s1 [.ref (S 0), .int x, .ref ou] σ (wQ Λ S ou D σ o) := by
  refine jWt.of pn_L [some (.ref (S 0)), some (.int x), some (.ref ou), none] rfl (Nat.le_of_ble_eq_true rfl) fun X hT => ?_
  refine J.aload_nR dL_tick_0 rfl ?_
  refine J.iconst (v := 0) dL_tick_1 (by decide) ?_
  refine J.aload_nR dL_tick_2 rfl ?_
  refine J.iload_n dL_tick_3 rfl ?_
  refine J.less (bc' := 0 + c1) (bs' := 0 + s1) (by omega) (by omega) ?_
  refine J.callX (hh := hh_tick) [.int x] dL_tick_4 mdX11_tick imX11_tick seX11_tick kc_12 (h.at (k := 0) rfl h0) (tb5 (i := 161) rfl) rfl rfl rfl rfl hT (hq σ h) ?_ ?_
  · rintro r9 σ1 ⟨G1, D1, ⟨e0, e1, A1, L1, hR1⟩, h1, hfr⟩
    subst e1
    have ho1 := hfr.1 ou _ ho hD (fun k hk e => hSo k hk e.symm)
    have hD1 := hfr.no ho hD
    refine J.i2l dL_tick_7 ?_
    refine J.lastore (j := 0) dL_tick_8 ho1 rfl (by decide) (by decide) ?_
    have h_1 : (kup σ1 ou (aL 1 (vp_updL f 0 o.1.toInt64))) ou = some (aL 1 (vp_updL f 0 o.1.toInt64)) := kup_s _ _ _
    refine J.goto (tgt := 15) dL_tick_9 (by decide) ?_
    refine J.iconst (v := 0) dL_tick_15 (by decide) ?_
    refine J.iret dL_tick_16 rfl ?_
    exact ⟨G1, D1, _, by rw [e0], h1.wo hSo hD1, hfr.wo, kup_s _ _ _, ⟨A1, L1, hR1⟩, fun _ => rfl⟩
  · rintro E9 σ1 ⟨G1, D1, ⟨k9, hk9, e1, A1, L1, hR1⟩, h1, hfr⟩
    have ho1 := hfr.1 ou _ ho hD (fun k hk e => hSo k hk e.symm)
    by_cases z0 : k9 = 0
    · subst z0; cases hk9; refine ⟨12, hd_tick_0 hok, fun q9 => ?_⟩
      refine J.astore_n (L' := [some (.ref (S 0)), some (.int x), some (.ref ou), some (.ref q9)]) dL_tick_12 (by decide) rfl rfl ?_
      refine J.iconst (v := 1) dL_tick_13 (by decide) ?_
      refine J.iret dL_tick_14 rfl ?_
      exact ⟨G1, D1, f, by rw [e1]; rfl, h1, hfr.w, ho1, ⟨A1, L1, hR1⟩, fun z => absurd (e1.symm.trans z) (by decide)⟩
    exact absurd hk9 (by have hn : xl_a.length = 1 := rfl; rw [List.getElem?_eq_none (by omega)]; exact fun z => by cases z)

def hh_consent : List (Nat × Nat × Nat × Nat) := [(0, 14, 17, 38), (0, 14, 21, 13), (0, 14, 25, 40)]
theorem hd_consent_0 {Λ : kL} (h : kOK Λ) : kHd Λ RL hh_consent "java/util/NoSuchElementException" 9 17 := ⟨tableOf [], ⟨0, 14, 17, 38⟩, tableOf [(0, 14, 21, 13), (0, 14, 25, 40)], "java/util/NoSuchElementException", rfl, (fun z hz => by cases hz), rfl, (by decide), cl_L_38, ca_x3, rfl⟩
theorem hd_consent_1 {Λ : kL} (h : kOK Λ) : kHd Λ RL hh_consent "java/lang/IllegalArgumentException" 9 21 := ⟨tableOf [(0, 14, 17, 38)], ⟨0, 14, 21, 13⟩, tableOf [(0, 14, 25, 40)], "java/lang/IllegalArgumentException", rfl, (fun z hz => by
    have hz : z = ⟨0, 14, 17, 38⟩ := by simpa [tableOf] using hz
    rcases hz with rfl
    · exact Or.inr ⟨by decide, _, cl_L_38, va_Nc.of (nw h [false, true, true, false, true, true, false, true, false, true, true] rfl)⟩), rfl, (by decide), cl_L_13, ca_x0, rfl⟩
theorem hd_consent_2 {Λ : kL} (h : kOK Λ) : kHd Λ RL hh_consent "java/lang/IllegalStateException" 9 25 := ⟨tableOf [(0, 14, 17, 38), (0, 14, 21, 13)], ⟨0, 14, 25, 40⟩, tableOf [], "java/lang/IllegalStateException", rfl, (fun z hz => by
    have hz : z = ⟨0, 14, 17, 38⟩ ∨ z = ⟨0, 14, 21, 13⟩ := by simpa [tableOf] using hz
    rcases hz with rfl | rfl
    · exact Or.inr ⟨by decide, _, cl_L_38, va_Nc.of (nw h [false, true, true, false, true, true, false, false, true, true, true] rfl)⟩
    · exact Or.inr ⟨by decide, _, cl_L_13, va_Nc.of (nw h [false, true, true, true, false, false, false, true, false, true, false, false] rfl)⟩), rfl, (by decide), cl_L_40, ca_x4, rfl⟩
theorem w_consent {Λ : kL} (hok : kOK Λ) {S : Nat → Nat} {G : Nat → kc} {D σ : kh} {N : Nat → Int32} {o : rx} {c1 s1 : Nat} {q w x : Int32} {y : Bool} (h : cHas σ S G D) (h0 : G 0 = oGs S N) {ou : Nat} {f : Nat → Int64} (ho : σ ou = some (aL 1 f)) (hSo : ∀ k, k < 51 → S k ≠ ou) (hD : D ou = none) (hq : eCt Λ mX11_consent c1 s1 S [.ref (S 0), .int q, .int w, .int x, .int (bI y)] G D (eP Λ S o xl_c)) : jWt Λ mL_consent hh_consent c1 s1 [.ref (S 0), .int q, .int w, .int x, .int (bI y), .ref ou] σ (wQ Λ S ou D σ o) := by
  refine jWt.of pn_L [some (.ref (S 0)), some (.int q), some (.int w), some (.int x), some (.int (bI y)), some (.ref ou), none] rfl (Nat.le_of_ble_eq_true rfl) fun X hT => ?_
  refine J.aloadR dL_consent_0 rfl ?_
  refine J.iconst (v := 0) dL_consent_2 (by decide) ?_
  refine J.aload_nR dL_consent_3 rfl ?_
  refine J.iload_n dL_consent_4 rfl ?_
  refine J.iload_n dL_consent_5 rfl ?_
  refine J.iload_n dL_consent_6 rfl ?_
  refine J.iload dL_consent_7 rfl ?_
  refine J.less (bc' := 0 + c1) (bs' := 0 + s1) (by omega) (by omega) ?_
  refine J.callX (hh := hh_consent) [.int q, .int w, .int x, .int (bI y)] dL_consent_9 mdX11_consent imX11_consent seX11_consent kc_12 (h.at (k := 0) rfl h0) (tb5 (i := 172) rfl) rfl rfl rfl rfl hT (hq σ h) ?_ ?_
  · rintro r9 σ1 ⟨G1, D1, ⟨e0, e1, A1, L1, hR1⟩, h1, hfr⟩
    subst e1
    have ho1 := hfr.1 ou _ ho hD (fun k hk e => hSo k hk e.symm)
    have hD1 := hfr.no ho hD
    refine J.i2l dL_consent_12 ?_
    refine J.lastore (j := 0) dL_consent_13 ho1 rfl (by decide) (by decide) ?_
    have h_1 : (kup σ1 ou (aL 1 (vp_updL f 0 o.1.toInt64))) ou = some (aL 1 (vp_updL f 0 o.1.toInt64)) := kup_s _ _ _
    refine J.goto (tgt := 29) dL_consent_14 (by decide) ?_
    refine J.iconst (v := 0) dL_consent_29 (by decide) ?_
    refine J.iret dL_consent_30 rfl ?_
    exact ⟨G1, D1, _, by rw [e0], h1.wo hSo hD1, hfr.wo, kup_s _ _ _, ⟨A1, L1, hR1⟩, fun _ => rfl⟩
  · rintro E9 σ1 ⟨G1, D1, ⟨k9, hk9, e1, A1, L1, hR1⟩, h1, hfr⟩
    have ho1 := hfr.1 ou _ ho hD (fun k hk e => hSo k hk e.symm)
    by_cases z0 : k9 = 0
    · subst z0; cases hk9; refine ⟨17, hd_consent_0 hok, fun q9 => ?_⟩
      refine J.astore (L' := [some (.ref (S 0)), some (.int q), some (.int w), some (.int x), some (.int (bI y)), some (.ref ou), some (.ref q9)]) dL_consent_17 (by decide) rfl rfl ?_
      refine J.iconst (v := 1) dL_consent_19 (by decide) ?_
      refine J.iret dL_consent_20 rfl ?_
      exact ⟨G1, D1, f, by rw [e1]; rfl, h1, hfr.w, ho1, ⟨A1, L1, hR1⟩, fun z => absurd (e1.symm.trans z) (by decide)⟩
    by_cases z1 : k9 = 1
    · subst z1; cases hk9; refine ⟨21, hd_consent_1 hok, fun q9 => ?_⟩
      refine J.astore (L' := [some (.ref (S 0)), some (.int q), some (.int w), some (.int x), some (.int (bI y)), some (.ref ou), some (.ref q9)]) dL_consent_21 (by decide) rfl rfl ?_
      refine J.iconst (v := 2) dL_consent_23 (by decide) ?_
      refine J.iret dL_consent_24 rfl ?_
      exact ⟨G1, D1, f, by rw [e1]; rfl, h1, hfr.w, ho1, ⟨A1, L1, hR1⟩, fun z => absurd (e1.symm.trans z) (by decide)⟩
    by_cases z2 : k9 = 2
    · subst z2; cases hk9; refine ⟨25, hd_consent_2 hok, fun q9 => ?_⟩
      refine J.astore (L' := [some (.ref (S 0)), some (.int q), some (.int w), some (.int x), some (.int (bI y)), some (.ref ou), some (.ref q9)]) dL_consent_25 (by decide) rfl rfl ?_
      refine J.iconst (v := 3) dL_consent_27 (by decide) ?_
      refine J.iret dL_consent_28 rfl ?_
      exact ⟨G1, D1, f, by rw [e1]; rfl, h1, hfr.w, ho1, ⟨A1, L1, hR1⟩, fun z => absurd (e1.symm.trans z) (by decide)⟩
    exact absurd hk9 (by have hn : xl_c.length = 3 := rfl; rw [List.getElem?_eq_none (by omega)]; exact fun z => by cases z)

def hh_check : List (Nat × Nat × Nat × Nat) := [(0, 9, 12, 25)]
theorem hd_check_0 {Λ : kL} (h : kOK Λ) : kHd Λ RL hh_check "java/lang/IndexOutOfBoundsException" 4 12 := ⟨tableOf [], ⟨0, 9, 12, 25⟩, tableOf [], "java/lang/IndexOutOfBoundsException", rfl, (fun z hz => by cases hz), rfl, (by decide), cl_L_25, ca_x2, rfl⟩
theorem w_check {Λ : kL} (hok : kOK Λ) {S : Nat → Nat} {G : Nat → kc} {D σ : kh} {N : Nat → Int32} {o : rx} {c1 s1 : Nat} {x : Int32} (h : cHas σ S G D) (h0 : G 0 = oGs S N) {ou : Nat} {f : Nat → Int64} (ho : σ ou = some (aL 1 f)) (hSo : ∀ k, k < 51 → S k ≠ ou) (hD : D ou = none) (hq : eCt Λ mX11_check c1 s1 S [.ref (S 0), .int x] G D (eP Λ S o xl_i)) : jWt Λ mL_check hh_check c1 s1 [.ref (S 0), .int x, .ref ou] σ (wQ Λ S ou D σ o) := by
  refine jWt.of pn_L [some (.ref (S 0)), some (.int x), some (.ref ou), none] rfl (Nat.le_of_ble_eq_true rfl) fun X hT => ?_
  refine J.aload_nR dL_check_0 rfl ?_
  refine J.iconst (v := 0) dL_check_1 (by decide) ?_
  refine J.aload_nR dL_check_2 rfl ?_
  refine J.iload_n dL_check_3 rfl ?_
  refine J.less (bc' := 0 + c1) (bs' := 0 + s1) (by omega) (by omega) ?_
  refine J.callX (hh := hh_check) [.int x] dL_check_4 mdX11_check imX11_check seX11_check kc_12 (h.at (k := 0) rfl h0) (tb6 (i := 3) rfl) rfl rfl rfl rfl hT (hq σ h) ?_ ?_
  · rintro r9 σ1 ⟨G1, D1, ⟨e0, e1, A1, L1, hR1⟩, h1, hfr⟩
    subst e1
    have ho1 := hfr.1 ou _ ho hD (fun k hk e => hSo k hk e.symm)
    have hD1 := hfr.no ho hD
    refine J.i2l dL_check_7 ?_
    refine J.lastore (j := 0) dL_check_8 ho1 rfl (by decide) (by decide) ?_
    have h_1 : (kup σ1 ou (aL 1 (vp_updL f 0 o.1.toInt64))) ou = some (aL 1 (vp_updL f 0 o.1.toInt64)) := kup_s _ _ _
    refine J.goto (tgt := 15) dL_check_9 (by decide) ?_
    refine J.iconst (v := 0) dL_check_15 (by decide) ?_
    refine J.iret dL_check_16 rfl ?_
    exact ⟨G1, D1, _, by rw [e0], h1.wo hSo hD1, hfr.wo, kup_s _ _ _, ⟨A1, L1, hR1⟩, fun _ => rfl⟩
  · rintro E9 σ1 ⟨G1, D1, ⟨k9, hk9, e1, A1, L1, hR1⟩, h1, hfr⟩
    have ho1 := hfr.1 ou _ ho hD (fun k hk e => hSo k hk e.symm)
    by_cases z0 : k9 = 0
    · subst z0; cases hk9; refine ⟨12, hd_check_0 hok, fun q9 => ?_⟩
      refine J.astore_n (L' := [some (.ref (S 0)), some (.int x), some (.ref ou), some (.ref q9)]) dL_check_12 (by decide) rfl rfl ?_
      refine J.iconst (v := 1) dL_check_13 (by decide) ?_
      refine J.iret dL_check_14 rfl ?_
      exact ⟨G1, D1, f, by rw [e1]; rfl, h1, hfr.w, ho1, ⟨A1, L1, hR1⟩, fun z => absurd (e1.symm.trans z) (by decide)⟩
    exact absurd hk9 (by have hn : xl_i.length = 1 := rfl; rw [List.getElem?_eq_none (by omega)]; exact fun z => by cases z)

def hh_code : List (Nat × Nat × Nat × Nat) := [(0, 10, 13, 38)]
theorem hd_code_0 {Λ : kL} (h : kOK Λ) : kHd Λ RL hh_code "java/util/NoSuchElementException" 5 13 := ⟨tableOf [], ⟨0, 10, 13, 38⟩, tableOf [], "java/util/NoSuchElementException", rfl, (fun z hz => by cases hz), rfl, (by decide), cl_L_38, ca_x3, rfl⟩
theorem w_code {Λ : kL} (hok : kOK Λ) {S : Nat → Nat} {G : Nat → kc} {D σ : kh} {N : Nat → Int32} {o : rx} {c1 s1 : Nat} {q x : Int32} (h : cHas σ S G D) (h0 : G 0 = oGs S N) {ou : Nat} {f : Nat → Int64} (ho : σ ou = some (aL 1 f)) (hSo : ∀ k, k < 51 → S k ≠ ou) (hD : D ou = none) (hq : eCt Λ mX11_code c1 s1 S [.ref (S 0), .int q, .int x] G D (eP Λ S o xl_n)) : jWt Λ mL_code hh_code c1 s1 [.ref (S 0), .int q, .int x, .ref ou] σ (wQ Λ S ou D σ o) := by
  refine jWt.of pn_L [some (.ref (S 0)), some (.int q), some (.int x), some (.ref ou), none] rfl (Nat.le_of_ble_eq_true rfl) fun X hT => ?_
  refine J.aload_nR dL_code_0 rfl ?_
  refine J.iconst (v := 0) dL_code_1 (by decide) ?_
  refine J.aload_nR dL_code_2 rfl ?_
  refine J.iload_n dL_code_3 rfl ?_
  refine J.iload_n dL_code_4 rfl ?_
  refine J.less (bc' := 0 + c1) (bs' := 0 + s1) (by omega) (by omega) ?_
  refine J.callX (hh := hh_code) [.int q, .int x] dL_code_5 mdX11_code imX11_code seX11_code kc_12 (h.at (k := 0) rfl h0) (tb6 (i := 15) rfl) rfl rfl rfl rfl hT (hq σ h) ?_ ?_
  · rintro r9 σ1 ⟨G1, D1, ⟨e0, e1, A1, L1, hR1⟩, h1, hfr⟩
    subst e1
    have ho1 := hfr.1 ou _ ho hD (fun k hk e => hSo k hk e.symm)
    have hD1 := hfr.no ho hD
    refine J.i2l dL_code_8 ?_
    refine J.lastore (j := 0) dL_code_9 ho1 rfl (by decide) (by decide) ?_
    have h_1 : (kup σ1 ou (aL 1 (vp_updL f 0 o.1.toInt64))) ou = some (aL 1 (vp_updL f 0 o.1.toInt64)) := kup_s _ _ _
    refine J.goto (tgt := 17) dL_code_10 (by decide) ?_
    refine J.iconst (v := 0) dL_code_17 (by decide) ?_
    refine J.iret dL_code_18 rfl ?_
    exact ⟨G1, D1, _, by rw [e0], h1.wo hSo hD1, hfr.wo, kup_s _ _ _, ⟨A1, L1, hR1⟩, fun _ => rfl⟩
  · rintro E9 σ1 ⟨G1, D1, ⟨k9, hk9, e1, A1, L1, hR1⟩, h1, hfr⟩
    have ho1 := hfr.1 ou _ ho hD (fun k hk e => hSo k hk e.symm)
    by_cases z0 : k9 = 0
    · subst z0; cases hk9; refine ⟨13, hd_code_0 hok, fun q9 => ?_⟩
      refine J.astore (L' := [some (.ref (S 0)), some (.int q), some (.int x), some (.ref ou), some (.ref q9)]) dL_code_13 (by decide) rfl rfl ?_
      refine J.iconst (v := 1) dL_code_15 (by decide) ?_
      refine J.iret dL_code_16 rfl ?_
      exact ⟨G1, D1, f, by rw [e1]; rfl, h1, hfr.w, ho1, ⟨A1, L1, hR1⟩, fun z => absurd (e1.symm.trans z) (by decide)⟩
    exact absurd hk9 (by have hn : xl_n.length = 1 := rfl; rw [List.getElem?_eq_none (by omega)]; exact fun z => by cases z)

def hh_family : List (Nat × Nat × Nat × Nat) := [(0, 10, 13, 38)]
theorem hd_family_0 {Λ : kL} (h : kOK Λ) : kHd Λ RL hh_family "java/util/NoSuchElementException" 5 13 := ⟨tableOf [], ⟨0, 10, 13, 38⟩, tableOf [], "java/util/NoSuchElementException", rfl, (fun z hz => by cases hz), rfl, (by decide), cl_L_38, ca_x3, rfl⟩
theorem w_family {Λ : kL} (hok : kOK Λ) {S : Nat → Nat} {G : Nat → kc} {D σ : kh} {N : Nat → Int32} {o : rx} {c1 s1 : Nat} {q x : Int32} (h : cHas σ S G D) (h0 : G 0 = oGs S N) {ou : Nat} {f : Nat → Int64} (ho : σ ou = some (aL 1 f)) (hSo : ∀ k, k < 51 → S k ≠ ou) (hD : D ou = none) (hq : eCt Λ mX11_family c1 s1 S [.ref (S 0), .int q, .int x] G D (eP Λ S o xl_n)) : jWt Λ mL_family hh_family c1 s1 [.ref (S 0), .int q, .int x, .ref ou] σ (wQ Λ S ou D σ o) := by
  refine jWt.of pn_L [some (.ref (S 0)), some (.int q), some (.int x), some (.ref ou), none] rfl (Nat.le_of_ble_eq_true rfl) fun X hT => ?_
  refine J.aload_nR dL_family_0 rfl ?_
  refine J.iconst (v := 0) dL_family_1 (by decide) ?_
  refine J.aload_nR dL_family_2 rfl ?_
  refine J.iload_n dL_family_3 rfl ?_
  refine J.iload_n dL_family_4 rfl ?_
  refine J.less (bc' := 0 + c1) (bs' := 0 + s1) (by omega) (by omega) ?_
  refine J.callX (hh := hh_family) [.int q, .int x] dL_family_5 mdX11_family imX11_family seX11_family kc_12 (h.at (k := 0) rfl h0) (tb6 (i := 28) rfl) rfl rfl rfl rfl hT (hq σ h) ?_ ?_
  · rintro r9 σ1 ⟨G1, D1, ⟨e0, e1, A1, L1, hR1⟩, h1, hfr⟩
    subst e1
    have ho1 := hfr.1 ou _ ho hD (fun k hk e => hSo k hk e.symm)
    have hD1 := hfr.no ho hD
    refine J.i2l dL_family_8 ?_
    refine J.lastore (j := 0) dL_family_9 ho1 rfl (by decide) (by decide) ?_
    have h_1 : (kup σ1 ou (aL 1 (vp_updL f 0 o.1.toInt64))) ou = some (aL 1 (vp_updL f 0 o.1.toInt64)) := kup_s _ _ _
    refine J.goto (tgt := 17) dL_family_10 (by decide) ?_
    refine J.iconst (v := 0) dL_family_17 (by decide) ?_
    refine J.iret dL_family_18 rfl ?_
    exact ⟨G1, D1, _, by rw [e0], h1.wo hSo hD1, hfr.wo, kup_s _ _ _, ⟨A1, L1, hR1⟩, fun _ => rfl⟩
  · rintro E9 σ1 ⟨G1, D1, ⟨k9, hk9, e1, A1, L1, hR1⟩, h1, hfr⟩
    have ho1 := hfr.1 ou _ ho hD (fun k hk e => hSo k hk e.symm)
    by_cases z0 : k9 = 0
    · subst z0; cases hk9; refine ⟨13, hd_family_0 hok, fun q9 => ?_⟩
      refine J.astore (L' := [some (.ref (S 0)), some (.int q), some (.int x), some (.ref ou), some (.ref q9)]) dL_family_13 (by decide) rfl rfl ?_
      refine J.iconst (v := 1) dL_family_15 (by decide) ?_
      refine J.iret dL_family_16 rfl ?_
      exact ⟨G1, D1, f, by rw [e1]; rfl, h1, hfr.w, ho1, ⟨A1, L1, hR1⟩, fun z => absurd (e1.symm.trans z) (by decide)⟩
    exact absurd hk9 (by have hn : xl_n.length = 1 := rfl; rw [List.getElem?_eq_none (by omega)]; exact fun z => by cases z)
