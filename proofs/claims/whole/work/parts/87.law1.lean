/-! the law: what stands between its calls -/
abbrev mL_law : kMi := (yL_law, cL_law, 7, ret, 13, 508)
theorem nI_ad (a c : Nat) : nI a + nI c = nI (a + c) := by
  induction c with
  | zero => exact Int32.add_zero _
  | succ c ih => rw [← nI_1 c, ← Int32.add_assoc, ih, nI_1]; rfl
theorem lw_in {n a : Nat} (hn : n ≤ 3072) (ha : a ≤ 3072) (h : ¬ nI n - 6 < nI a) : a + 6 ≤ n := by
  rw [Int32.lt_iff_toInt_lt] at h
  have e1 : (nI a).toInt = (a : Int) := Int32.toInt_ofNat_of_lt (by omega)
  have e2 : (nI n).toInt = (n : Int) := Int32.toInt_ofNat_of_lt (by omega)
  have e3 : (nI n - 6).toInt = (n : Int) - 6 := by
    rw [Int32.toInt_sub, e2, show (6 : Int32).toInt = 6 from rfl]
    exact Int.bmod_eq_of_le (by omega) (by omega)
  rw [e1, e3] at h
  omega
def sepS (S : Nat → Nat) (m : Nat) (Am : Nat → Nat) (ou : Nat) : Prop := (∀ k, k < 51 → S k ≠ m) ∧ (∀ k, k < 51 → ∀ j, mRef j = true → S k ≠ Am j) ∧ (∀ k, k < 51 → S k ≠ ou) ∧ ou ≠ m ∧ ∀ j, mRef j = true → ou ≠ Am j
def sepD (D : kh) (m : Nat) (Am : Nat → Nat) (ou : Nat) : Prop := D m = none ∧ (∀ j, mRef j = true → D (Am j) = none) ∧ D ou = none
def lwI (Λ : kL) (S : Nat → Nat) (m : Nat) (Am : Nat → Nat) (ou : Nat) (σ : kh) (G : Nat → kc) (D : kh) (I : Nat → Int32) (F : Nat → Nat → Int32) (f : Nat → Int64) (N : Nat → Int32) (B : Nat → List Int32) (T R : Nat → List (List Int32)) : Prop := cHas σ S G D ∧ (∃ A L, cR Λ S G D A L N B T R) ∧ mHas σ m Am I F ∧ mR I F N B T R ∧ wf N B T R ∧ wfs T ∧ σ ou = some (aL 1 f) ∧ sepD D m Am ou
section LW
variable {Λ : kL} {S : Nat → Nat} {m ou : Nat} {Am : Nat → Nat} {σ σ' : kh} {G : Nat → kc} {D D' : kh} {I : Nat → Int32} {F : Nat → Nat → Int32}
theorem lw_m (hs : sepS S m Am ou) (hd : sepD D m Am ou) (hf : wFr S ou D σ D' σ') (h : mHas σ m Am I F) : mHas σ' m Am I F :=
  ⟨hf.1 _ _ h.1 hd.1 (fun k hk e => hs.1 k hk e.symm) hs.2.2.2.1.symm, fun j hj => hf.1 _ _ (h.2 j hj) (hd.2.1 j hj) (fun k hk e => hs.2.1 k hk j hj e.symm) (hs.2.2.2.2 j hj).symm⟩
theorem lw_o {c : kc} (hs : sepS S m Am ou) (hd : sepD D m Am ou) (hf : cFr S D σ D' σ') (h : σ ou = some c) : σ' ou = some c := hf.1 _ _ h hd.2.2 fun k hk e => hs.2.2.1 k hk e.symm
theorem lw_d {c : kc} (hd : sepD D m Am ou) (hf : wFr S ou D σ D' σ') (h : mHas σ m Am I F) (ho : σ ou = some c) : sepD D' m Am ou := by
  have key : ∀ q d, σ q = some d → D q = none → D' q = none := fun q d h1 h2 => Classical.byContradiction fun z => by rw [hf.2 q h2 z] at h1; cases h1
  exact ⟨key _ _ h.1 hd.1, fun j hj => key _ _ (h.2 j hj) (hd.2.1 j hj), key _ _ ho hd.2.2⟩
theorem lw_c (hs : sepS S m Am ou) (hd : sepD D m Am ou) (hf : mFr m Am σ σ') (h : cHas σ S G D) : cHas σ' S G D :=
  ⟨fun k hk => by rw [hf _ (hs.1 k hk) (fun j hj => hs.2.1 k hk j hj)]; exact h.1 k hk, fun q c hq => by
    rw [hf q (fun e => by rw [e, hd.1] at hq; cases hq) (fun j hj e => by rw [e, hd.2.1 j hj] at hq; cases hq)]
    exact h.2.1 q c hq, h.2.2⟩
theorem lw_mo {c : kc} (hs : sepS S m Am ou) (hf : mFr m Am σ σ') (h : σ ou = some c) : σ' ou = some c := by rw [hf _ hs.2.2.2.1 hs.2.2.2.2]; exact h
theorem lw_next {o : rx} {f : Nat → Int64} (h : cHas σ S G D) (hc : cSt Λ S o G D) (hm : mHas σ m Am I F) (hM : mR I F o.2.2.1 o.2.2.2.1 o.2.2.2.2.1 o.2.2.2.2.2) (hg : Wg o) (ho : σ ou = some (aL 1 f)) (hd : sepD D m Am ou) : lwI Λ S m Am ou σ G D I F f o.2.2.1 o.2.2.2.1 o.2.2.2.2.1 o.2.2.2.2.2 := by
  refine ⟨h, hc, hm, hM, ⟨?_, hg.1, hg.2.1, hg.2.2.1, hg.2.2.2.1, hg.2.2.2.2.1, hg.2.2.2.2.2.1, hg.2.2.2.2.2.2.1, hg.2.2.2.2.2.2.2.1, hg.2.2.2.2.2.2.2.2.1, hg.2.2.2.2.2.2.2.2.2.1, hg.2.2.2.2.2.2.2.2.2.2.1⟩, hg.2.2.2.2.2.2.2.2.2.2.2, ho, hd⟩
  obtain ⟨A, L, hR⟩ := hc
  obtain ⟨f1, -, -, a1, -, -, a2⟩ := hR.1
  obtain ⟨f2, -, -, b1, -, -, b2⟩ := hR.2.1
  exact ⟨a1, a2, b1, b2⟩
end LW
theorem lg_cmp_self (x : Int64) : lg_cmp x x = 0 := by
  unfold lg_cmp
  simp

theorem mdw_scope : kMdW mL_scope hh_scope 2 := ⟨by decide +kernel, by decide +kernel, by decide, by decide +kernel⟩
theorem mdw_client : kMdW mL_client hh_client 5 := ⟨by decide +kernel, by decide +kernel, by decide, by decide +kernel⟩
theorem mdw_redirect : kMdW mL_redirect hh_redirect 3 := ⟨by decide +kernel, by decide +kernel, by decide, by decide +kernel⟩
theorem mdw_lives : kMdW mL_lives hh_lives 4 := ⟨by decide +kernel, by decide +kernel, by decide, by decide +kernel⟩
theorem mdw_tick : kMdW mL_tick hh_tick 3 := ⟨by decide +kernel, by decide +kernel, by decide, by decide +kernel⟩
theorem mdw_consent : kMdW mL_consent hh_consent 6 := ⟨by decide +kernel, by decide +kernel, by decide, by decide +kernel⟩
theorem mdw_check : kMdW mL_check hh_check 3 := ⟨by decide +kernel, by decide +kernel, by decide, by decide +kernel⟩
theorem mdw_code : kMdW mL_code hh_code 4 := ⟨by decide +kernel, by decide +kernel, by decide, by decide +kernel⟩
theorem mdw_family : kMdW mL_family hh_family 4 := ⟨by decide +kernel, by decide +kernel, by decide, by decide +kernel⟩
theorem lc_feed {Λ : kL} {X : kX} {Z : State → Prop} (hok : kOK Λ) (hX : kXo Λ) (hSt : kSt Λ) (hSh : kSh Λ) (hJ : kJd Λ) {b n : Nat} {xs : Nat → Int32} (hscr : va_T .int b n (fun j => .int (xs j)) (kA Λ) (kS Λ) (kS Λ).heap) (hn : n ≤ 3072) {S : Nat → Nat} {m : Nat} {Am : Nat → Nat} {ou : Nat} (hS : cInj S) (hA : mInj Am) (hsep : sepS S m Am ou) {k t : Nat} (hc : ∀ (σ' : kh) (G' : Nat → kc) (D' : kh) (I' : Nat → Int32) (F' : Nat → Nat → Int32) (f' : Nat → Int64) (N' : Nat → Int32) (B' : Nat → List Int32) (T' R' : Nat → List (List Int32)), lwI Λ S m Am ou σ' G' D' I' F' f' N' B' T' R' → J Λ X mL_law 601024 7293034 Z (8 * k) (5200 * k) σ' 1092 [some (.ref b), some (.ref (S 0)), some (.ref m), some (.ref ou), some (.int (nI (6 * t))), none, none] []) {σ : kh} {G : Nat → kc} {D : kh} {I : Nat → Int32} {F : Nat → Nat → Int32} {f : Nat → Int64} {N : Nat → Int32} {B : Nat → List Int32} {T R : Nat → List (List Int32)} (hI : lwI Λ S m Am ou σ G D I F f N B T R) (h6 : 6 * t + 6 ≤ n) : J Λ X mL_law 601024 7293034 Z (8 * k + 8) (5200 * k + 5200) σ 140 [some (.ref b), some (.ref (S 0)), some (.ref m), some (.ref ou), some (.int (nI (6 * t))), none, none] [] := by
  obtain ⟨h, ⟨A, L, hR⟩, hm, hM, hW, hs, ho, hd⟩ := hI
  refine J.aload_nR dL_law_140 rfl ?_
  refine J.aload_nR dL_law_141 rfl ?_
  refine J.iload dL_law_142 rfl ?_
  refine J.iconst (v := 1) dL_law_144 (by decide) ?_
  refine J.iadd dL_law_145 ?_
  rw [show (nI (6 * t)) + 1 = nI (6 * t + 1) from (nI_ad (6 * t) 1)]
  refine J.ti (j := 6 * t + 1) dL_law_146 hscr rfl (by omega) (by omega) ?_
  refine J.aload_nR dL_law_147 rfl ?_
  refine J.iload dL_law_148 rfl ?_
  refine J.iconst (v := 2) dL_law_150 (by decide) ?_
  refine J.iadd dL_law_151 ?_
  rw [show (nI (6 * t)) + 2 = nI (6 * t + 2) from (nI_ad (6 * t) 2)]
  refine J.ti (j := 6 * t + 2) dL_law_152 hscr rfl (by omega) (by omega) ?_
  refine J.aload_nR dL_law_153 rfl ?_
  refine J.iload dL_law_154 rfl ?_
  refine J.iconst (v := 3) dL_law_156 (by decide) ?_
  refine J.iadd dL_law_157 ?_
  rw [show (nI (6 * t)) + 3 = nI (6 * t + 3) from (nI_ad (6 * t) 3)]
  refine J.ti (j := 6 * t + 3) dL_law_158 hscr rfl (by omega) (by omega) ?_
  refine J.aload_nR dL_law_159 rfl ?_
  refine J.iload dL_law_160 rfl ?_
  refine J.iconst (v := 4) dL_law_162 (by decide) ?_
  refine J.iadd dL_law_163 ?_
  rw [show (nI (6 * t)) + 4 = nI (6 * t + 4) from (nI_ad (6 * t) 4)]
  refine J.ti (j := 6 * t + 4) dL_law_164 hscr rfl (by omega) (by omega) ?_
  refine J.aload_nR dL_law_165 rfl ?_
  refine J.iload dL_law_166 rfl ?_
  refine J.iconst (v := 5) dL_law_168 (by decide) ?_
  refine J.iadd dL_law_169 ?_
  rw [show (nI (6 * t)) + 5 = nI (6 * t + 5) from (nI_ad (6 * t) 5)]
  refine J.ti (j := 6 * t + 5) dL_law_170 hscr rfl (by omega) (by omega) ?_
  refine J.callV0 [.int (xs (6 * t + 1)), .int (xs (6 * t + 2)), .int (xs (6 * t + 3)), .int (xs (6 * t + 4)), .int (xs (6 * t + 5))] dL_law_171 mdX11_feed imX11_feed seX11_feed kc_12 (h.at (k := 0) rfl hR.2.2.1) lk_L_56 rfl rfl rfl rfl (q_feed hS hR hW (xs (6 * t + 1)) (xs (6 * t + 2)) (xs (6 * t + 3)) (xs (6 * t + 4)) (xs (6 * t + 5)) σ h) ?_
  rintro _ σ1 ⟨G1, D1, ⟨rfl, A1, L1, hR1⟩, h1, hfr⟩
  have hm1 := lw_m hsep hd hfr.w hm
  have ho1 := lw_o hsep hd hfr ho
  have hd1 := lw_d hd (hfr.w (ou := ou)) hm ho
  refine J.aload_nR dL_law_174 rfl ?_
  refine J.aload_nR dL_law_175 rfl ?_
  refine J.iload dL_law_176 rfl ?_
  refine J.iconst (v := 1) dL_law_178 (by decide) ?_
  refine J.iadd dL_law_179 ?_
  rw [show (nI (6 * t)) + 1 = nI (6 * t + 1) from (nI_ad (6 * t) 1)]
  refine J.ti (j := 6 * t + 1) dL_law_180 hscr rfl (by omega) (by omega) ?_
  refine J.aload_nR dL_law_181 rfl ?_
  refine J.iload dL_law_182 rfl ?_
  refine J.iconst (v := 2) dL_law_184 (by decide) ?_
  refine J.iadd dL_law_185 ?_
  rw [show (nI (6 * t)) + 2 = nI (6 * t + 2) from (nI_ad (6 * t) 2)]
  refine J.ti (j := 6 * t + 2) dL_law_186 hscr rfl (by omega) (by omega) ?_
  refine J.aload_nR dL_law_187 rfl ?_
  refine J.iload dL_law_188 rfl ?_
  refine J.iconst (v := 3) dL_law_190 (by decide) ?_
  refine J.iadd dL_law_191 ?_
  rw [show (nI (6 * t)) + 3 = nI (6 * t + 3) from (nI_ad (6 * t) 3)]
  refine J.ti (j := 6 * t + 3) dL_law_192 hscr rfl (by omega) (by omega) ?_
  refine J.aload_nR dL_law_193 rfl ?_
  refine J.iload dL_law_194 rfl ?_
  refine J.iconst (v := 4) dL_law_196 (by decide) ?_
  refine J.iadd dL_law_197 ?_
  rw [show (nI (6 * t)) + 4 = nI (6 * t + 4) from (nI_ad (6 * t) 4)]
  refine J.ti (j := 6 * t + 4) dL_law_198 hscr rfl (by omega) (by omega) ?_
  refine J.aload_nR dL_law_199 rfl ?_
  refine J.iload dL_law_200 rfl ?_
  refine J.iconst (v := 5) dL_law_202 (by decide) ?_
  refine J.iadd dL_law_203 ?_
  rw [show (nI (6 * t)) + 5 = nI (6 * t + 5) from (nI_ad (6 * t) 5)]
  refine J.ti (j := 6 * t + 5) dL_law_204 hscr rfl (by omega) (by omega) ?_
  refine J.callV0 [.int (xs (6 * t + 1)), .int (xs (6 * t + 2)), .int (xs (6 * t + 3)), .int (xs (6 * t + 4)), .int (xs (6 * t + 5))] dL_law_205 mdX12_feed imX12_feed seX12_feed kc_13 hm1.1 lk_L_60 rfl rfl rfl rfl (p_feed hA hM hW (xs (6 * t + 1)) (xs (6 * t + 2)) (xs (6 * t + 3)) (xs (6 * t + 4)) (xs (6 * t + 5)) σ1 hm1) ?_
  rintro _ σ2 ⟨I1, F1, ⟨rfl, e0, hM1⟩, hm2, hmf⟩
  have h2 := lw_c hsep hd1 hmf h1
  have ho2 := lw_mo hsep hmf ho1
  refine J.icmp_eq (tgt := 1092) dL_law_208 (by decide) (fun c_208 => ?_) (fun c_208 => absurd rfl c_208)
  refine J.less (bc' := 8 * k) (bs' := 5200 * k) (by omega) (by omega) ?_
  exact hc _ _ _ _ _ _ _ _ _ _ (lw_next (o := (opFeed N B T R (xs (6 * t + 1)) (xs (6 * t + 2)) (xs (6 * t + 3)) (xs (6 * t + 4)) (xs (6 * t + 5)))) h2 ⟨A1, L1, hR1⟩ hm2 hM1 (g_feed hW hs (xs (6 * t + 1)) (xs (6 * t + 2)) (xs (6 * t + 3)) (xs (6 * t + 4)) (xs (6 * t + 5))) ho2 hd1)

theorem lc_end {Λ : kL} {X : kX} {Z : State → Prop} (hok : kOK Λ) (hX : kXo Λ) (hSt : kSt Λ) (hSh : kSh Λ) (hJ : kJd Λ) {b n : Nat} {xs : Nat → Int32} (hscr : va_T .int b n (fun j => .int (xs j)) (kA Λ) (kS Λ) (kS Λ).heap) (hn : n ≤ 3072) {S : Nat → Nat} {m : Nat} {Am : Nat → Nat} {ou : Nat} (hS : cInj S) (hA : mInj Am) (hsep : sepS S m Am ou) {k t : Nat} (hc : ∀ (σ' : kh) (G' : Nat → kc) (D' : kh) (I' : Nat → Int32) (F' : Nat → Nat → Int32) (f' : Nat → Int64) (N' : Nat → Int32) (B' : Nat → List Int32) (T' R' : Nat → List (List Int32)), lwI Λ S m Am ou σ' G' D' I' F' f' N' B' T' R' → J Λ X mL_law 601024 7293034 Z (8 * k) (5200 * k) σ' 1092 [some (.ref b), some (.ref (S 0)), some (.ref m), some (.ref ou), some (.int (nI (6 * t))), none, none] []) {σ : kh} {G : Nat → kc} {D : kh} {I : Nat → Int32} {F : Nat → Nat → Int32} {f : Nat → Int64} {N : Nat → Int32} {B : Nat → List Int32} {T R : Nat → List (List Int32)} (hI : lwI Λ S m Am ou σ G D I F f N B T R) (h6 : 6 * t + 6 ≤ n) : J Λ X mL_law 601024 7293034 Z (8 * k + 8) (5200 * k + 5200) σ 213 [some (.ref b), some (.ref (S 0)), some (.ref m), some (.ref ou), some (.int (nI (6 * t))), none, none] [] := by
  obtain ⟨h, ⟨A, L, hR⟩, hm, hM, hW, hs, ho, hd⟩ := hI
  refine J.aload_nR dL_law_213 rfl ?_
  refine J.aload_nR dL_law_214 rfl ?_
  refine J.iload dL_law_215 rfl ?_
  refine J.iconst (v := 1) dL_law_217 (by decide) ?_
  refine J.iadd dL_law_218 ?_
  rw [show (nI (6 * t)) + 1 = nI (6 * t + 1) from (nI_ad (6 * t) 1)]
  refine J.ti (j := 6 * t + 1) dL_law_219 hscr rfl (by omega) (by omega) ?_
  refine J.callV0 [.int (xs (6 * t + 1))] dL_law_220 mdX11_end imX11_end seX11_end kc_12 (h.at (k := 0) rfl hR.2.2.1) lk_L_61 rfl rfl rfl rfl (q_end hS hR hW (xs (6 * t + 1)) σ h) ?_
  rintro _ σ1 ⟨G1, D1, ⟨rfl, A1, L1, hR1⟩, h1, hfr⟩
  have hm1 := lw_m hsep hd hfr.w hm
  have ho1 := lw_o hsep hd hfr ho
  have hd1 := lw_d hd (hfr.w (ou := ou)) hm ho
  refine J.aload_nR dL_law_223 rfl ?_
  refine J.aload_nR dL_law_224 rfl ?_
  refine J.iload dL_law_225 rfl ?_
  refine J.iconst (v := 1) dL_law_227 (by decide) ?_
  refine J.iadd dL_law_228 ?_
  rw [show (nI (6 * t)) + 1 = nI (6 * t + 1) from (nI_ad (6 * t) 1)]
  refine J.ti (j := 6 * t + 1) dL_law_229 hscr rfl (by omega) (by omega) ?_
  refine J.callV0 [.int (xs (6 * t + 1))] dL_law_230 mdX12_end imX12_end seX12_end kc_13 hm1.1 lk_L_65 rfl rfl rfl rfl (p_end hA hM hW (xs (6 * t + 1)) σ1 hm1) ?_
  rintro _ σ2 ⟨I1, F1, ⟨rfl, e0, hM1⟩, hm2, hmf⟩
  have h2 := lw_c hsep hd1 hmf h1
  have ho2 := lw_mo hsep hmf ho1
  refine J.icmp_eq (tgt := 1092) dL_law_233 (by decide) (fun c_233 => ?_) (fun c_233 => absurd rfl c_233)
  refine J.less (bc' := 8 * k) (bs' := 5200 * k) (by omega) (by omega) ?_
  exact hc _ _ _ _ _ _ _ _ _ _ (lw_next (o := (opEnd N B T R (xs (6 * t + 1)))) h2 ⟨A1, L1, hR1⟩ hm2 hM1 (g_end hW hs (xs (6 * t + 1))) ho2 hd1)

theorem lc_again {Λ : kL} {X : kX} {Z : State → Prop} (hok : kOK Λ) (hX : kXo Λ) (hSt : kSt Λ) (hSh : kSh Λ) (hJ : kJd Λ) {b n : Nat} {xs : Nat → Int32} (hscr : va_T .int b n (fun j => .int (xs j)) (kA Λ) (kS Λ) (kS Λ).heap) (hn : n ≤ 3072) {S : Nat → Nat} {m : Nat} {Am : Nat → Nat} {ou : Nat} (hS : cInj S) (hA : mInj Am) (hsep : sepS S m Am ou) {k t : Nat} (hc : ∀ (σ' : kh) (G' : Nat → kc) (D' : kh) (I' : Nat → Int32) (F' : Nat → Nat → Int32) (f' : Nat → Int64) (N' : Nat → Int32) (B' : Nat → List Int32) (T' R' : Nat → List (List Int32)), lwI Λ S m Am ou σ' G' D' I' F' f' N' B' T' R' → J Λ X mL_law 601024 7293034 Z (8 * k) (5200 * k) σ' 1092 [some (.ref b), some (.ref (S 0)), some (.ref m), some (.ref ou), some (.int (nI (6 * t))), none, none] []) {σ : kh} {G : Nat → kc} {D : kh} {I : Nat → Int32} {F : Nat → Nat → Int32} {f : Nat → Int64} {N : Nat → Int32} {B : Nat → List Int32} {T R : Nat → List (List Int32)} (hI : lwI Λ S m Am ou σ G D I F f N B T R) (h6 : 6 * t + 6 ≤ n) : J Λ X mL_law 601024 7293034 Z (8 * k + 8) (5200 * k + 5200) σ 238 [some (.ref b), some (.ref (S 0)), some (.ref m), some (.ref ou), some (.int (nI (6 * t))), none, none] [] := by
  obtain ⟨h, ⟨A, L, hR⟩, hm, hM, hW, hs, ho, hd⟩ := hI
  refine J.aload_nR dL_law_238 rfl ?_
  refine J.aload_nR dL_law_239 rfl ?_
  refine J.iload dL_law_240 rfl ?_
  refine J.iconst (v := 1) dL_law_242 (by decide) ?_
  refine J.iadd dL_law_243 ?_
  rw [show (nI (6 * t)) + 1 = nI (6 * t + 1) from (nI_ad (6 * t) 1)]
  refine J.ti (j := 6 * t + 1) dL_law_244 hscr rfl (by omega) (by omega) ?_
  refine J.aload_nR dL_law_245 rfl ?_
  refine J.iload dL_law_246 rfl ?_
  refine J.iconst (v := 2) dL_law_248 (by decide) ?_
  refine J.iadd dL_law_249 ?_
  rw [show (nI (6 * t)) + 2 = nI (6 * t + 2) from (nI_ad (6 * t) 2)]
  refine J.ti (j := 6 * t + 2) dL_law_250 hscr rfl (by omega) (by omega) ?_
  refine J.callV0 [.int (xs (6 * t + 1)), .int (xs (6 * t + 2))] dL_law_251 mdX11_again imX11_again seX11_again kc_12 (h.at (k := 0) rfl hR.2.2.1) lk_L_66 rfl rfl rfl rfl (q_again hS hR hW (xs (6 * t + 1)) (xs (6 * t + 2)) σ h) ?_
  rintro _ σ1 ⟨G1, D1, ⟨rfl, A1, L1, hR1⟩, h1, hfr⟩
  have hm1 := lw_m hsep hd hfr.w hm
  have ho1 := lw_o hsep hd hfr ho
  have hd1 := lw_d hd (hfr.w (ou := ou)) hm ho
  refine J.aload_nR dL_law_254 rfl ?_
  refine J.aload_nR dL_law_255 rfl ?_
  refine J.iload dL_law_256 rfl ?_
  refine J.iconst (v := 1) dL_law_258 (by decide) ?_
  refine J.iadd dL_law_259 ?_
  rw [show (nI (6 * t)) + 1 = nI (6 * t + 1) from (nI_ad (6 * t) 1)]
  refine J.ti (j := 6 * t + 1) dL_law_260 hscr rfl (by omega) (by omega) ?_
  refine J.aload_nR dL_law_261 rfl ?_
  refine J.iload dL_law_262 rfl ?_
  refine J.iconst (v := 2) dL_law_264 (by decide) ?_
  refine J.iadd dL_law_265 ?_
  rw [show (nI (6 * t)) + 2 = nI (6 * t + 2) from (nI_ad (6 * t) 2)]
  refine J.ti (j := 6 * t + 2) dL_law_266 hscr rfl (by omega) (by omega) ?_
  refine J.callV0 [.int (xs (6 * t + 1)), .int (xs (6 * t + 2))] dL_law_267 mdX12_again imX12_again seX12_again kc_13 hm1.1 lk_L_69 rfl rfl rfl rfl (p_again hA hM hW (xs (6 * t + 1)) (xs (6 * t + 2)) σ1 hm1) ?_
  rintro _ σ2 ⟨I1, F1, ⟨rfl, e0, hM1⟩, hm2, hmf⟩
  have h2 := lw_c hsep hd1 hmf h1
  have ho2 := lw_mo hsep hmf ho1
  refine J.icmp_eq (tgt := 1092) dL_law_270 (by decide) (fun c_270 => ?_) (fun c_270 => absurd rfl c_270)
  refine J.less (bc' := 8 * k) (bs' := 5200 * k) (by omega) (by omega) ?_
  exact hc _ _ _ _ _ _ _ _ _ _ (lw_next (o := (opAgain N B T R (xs (6 * t + 1)) (xs (6 * t + 2)))) h2 ⟨A1, L1, hR1⟩ hm2 hM1 (g_again hW hs (xs (6 * t + 1)) (xs (6 * t + 2))) ho2 hd1)

theorem lc_scope {Λ : kL} {X : kX} {Z : State → Prop} (hok : kOK Λ) (hX : kXo Λ) (hSt : kSt Λ) (hSh : kSh Λ) (hJ : kJd Λ) {b n : Nat} {xs : Nat → Int32} (hscr : va_T .int b n (fun j => .int (xs j)) (kA Λ) (kS Λ) (kS Λ).heap) (hn : n ≤ 3072) {S : Nat → Nat} {m : Nat} {Am : Nat → Nat} {ou : Nat} (hS : cInj S) (hA : mInj Am) (hsep : sepS S m Am ou) {k t : Nat} (hc : ∀ (σ' : kh) (G' : Nat → kc) (D' : kh) (I' : Nat → Int32) (F' : Nat → Nat → Int32) (f' : Nat → Int64) (N' : Nat → Int32) (B' : Nat → List Int32) (T' R' : Nat → List (List Int32)), lwI Λ S m Am ou σ' G' D' I' F' f' N' B' T' R' → J Λ X mL_law 601024 7293034 Z (8 * k) (5200 * k) σ' 1092 [some (.ref b), some (.ref (S 0)), some (.ref m), some (.ref ou), some (.int (nI (6 * t))), none, none] []) {σ : kh} {G : Nat → kc} {D : kh} {I : Nat → Int32} {F : Nat → Nat → Int32} {f : Nat → Int64} {N : Nat → Int32} {B : Nat → List Int32} {T R : Nat → List (List Int32)} (hI : lwI Λ S m Am ou σ G D I F f N B T R) (h6 : 6 * t + 6 ≤ n) : J Λ X mL_law 601024 7293034 Z (8 * k + 8) (5200 * k + 5200) σ 275 [some (.ref b), some (.ref (S 0)), some (.ref m), some (.ref ou), some (.int (nI (6 * t))), none, none] [] := by
  obtain ⟨h, ⟨A, L, hR⟩, hm, hM, hW, hs, ho, hd⟩ := hI
  refine J.aload_nR dL_law_275 rfl ?_
  refine J.aload_nR dL_law_276 rfl ?_
  refine J.less (bc' := 8 * k + 4) (bs' := 5200 * k + 60) (by omega) (by omega) ?_
  refine J.callW [.ref (S 0), .ref ou] dL_law_277 mdw_scope ssL_scope (tb4 (i := 205) rfl) rfl rfl rfl rfl (w_scope hok h hR.2.2.1 ho hsep.2.2.1 hd.2.2 (q_scope hS hX hR hW hJ )) ?_
  rintro _ σ1 ⟨G1, D1, f1, rfl, h1, hfr, ho1, ⟨A1, L1, hR1⟩, hf1⟩
  have hm1 := lw_m hsep hd hfr hm
  have hd1 := lw_d hd hfr hm ho
  refine J.istore (L' := [some (.ref b), some (.ref (S 0)), some (.ref m), some (.ref ou), some (.int (nI (6 * t))), some (.int ((opScope N B T R).2.1)), none]) dL_law_280 (by decide) rfl rfl ?_
  refine J.aload_nR dL_law_282 rfl ?_
  refine J.callV0 [] dL_law_283 mdX12_scope imX12_scope seX12_scope kc_13 hm1.1 lk_L_75 rfl rfl rfl rfl (p_scope hA hM hW  σ1 hm1) ?_
  rintro _ σ2 ⟨I1, F1, ⟨rfl, e0, hM1⟩, hm2, hmf⟩
  have h2 := lw_c hsep hd1 hmf h1
  have ho2 := lw_mo hsep hmf ho1
  refine J.istore (L' := [some (.ref b), some (.ref (S 0)), some (.ref m), some (.ref ou), some (.int (nI (6 * t))), some (.int ((opScope N B T R).2.1)), some (.int ((opScope N B T R).1))]) dL_law_286 (by decide) rfl rfl ?_
  refine J.aload_nR dL_law_288 rfl ?_
  refine J.callV0 [] dL_law_289 mdX12_thrown imX12_thrown seX12_thrown kc_13 hm2.1 lk_L_76 rfl rfl rfl rfl (m_thrown hA σ2 hm2) ?_
  rintro _ σ3 ⟨I3, F3, ⟨rfl, rfl, rfl⟩, hm3, hmf3⟩
  have h3 := lw_c hsep hd1 hmf3 h2
  have ho3 := lw_mo hsep hmf3 ho2
  refine J.iload dL_law_292 rfl ?_
  refine J.icmp_eq (tgt := 299) dL_law_294 (by decide) (fun c_294 => ?_) (fun c_294 => absurd e0 c_294)
  refine J.iload dL_law_299 rfl ?_
  refine J.if_ne (tgt := 316) dL_law_301 (by decide) (fun c_301 => ?_) (fun c_301 => ?_)
  · skip
    refine J.goto (tgt := 1092) dL_law_316 (by decide) ?_
    refine J.drop (i := 5) (L' := [some (.ref b), some (.ref (S 0)), some (.ref m), some (.ref ou), some (.int (nI (6 * t))), none, some (.int ((opScope N B T R).1))]) rfl ?_
    refine J.drop (i := 6) (L' := [some (.ref b), some (.ref (S 0)), some (.ref m), some (.ref ou), some (.int (nI (6 * t))), none, none]) rfl ?_
    exact hc _ _ _ _ _ _ _ _ _ _ (lw_next (o := (opScope N B T R)) h3 ⟨A1, L1, hR1⟩ hm3 hM1 (g_scope hW hs) ho3 hd1)
  · skip
    refine J.aload_nR dL_law_304 rfl ?_
    refine J.iconst (v := 0) dL_law_305 (by decide) ?_
    refine J.laload (j := 0) dL_law_306 ho3 rfl (by decide) (by decide) ?_
    refine J.iload dL_law_307 rfl ?_
    refine J.i2l dL_law_309 ?_
    refine J.lcmp dL_law_310 ?_
    refine J.if_eq (tgt := 316) dL_law_311 (by decide) (fun c_311 => ?_) (fun c_311 => absurd (by rw [hf1 c_301]; exact lg_cmp_self _) c_311)
    refine J.goto (tgt := 1092) dL_law_316 (by decide) ?_
    refine J.drop (i := 5) (L' := [some (.ref b), some (.ref (S 0)), some (.ref m), some (.ref ou), some (.int (nI (6 * t))), none, some (.int ((opScope N B T R).1))]) rfl ?_
    refine J.drop (i := 6) (L' := [some (.ref b), some (.ref (S 0)), some (.ref m), some (.ref ou), some (.int (nI (6 * t))), none, none]) rfl ?_
    exact hc _ _ _ _ _ _ _ _ _ _ (lw_next (o := (opScope N B T R)) h3 ⟨A1, L1, hR1⟩ hm3 hM1 (g_scope hW hs) ho3 hd1)

theorem lc_client {Λ : kL} {X : kX} {Z : State → Prop} (hok : kOK Λ) (hX : kXo Λ) (hSt : kSt Λ) (hSh : kSh Λ) (hJ : kJd Λ) {b n : Nat} {xs : Nat → Int32} (hscr : va_T .int b n (fun j => .int (xs j)) (kA Λ) (kS Λ) (kS Λ).heap) (hn : n ≤ 3072) {S : Nat → Nat} {m : Nat} {Am : Nat → Nat} {ou : Nat} (hS : cInj S) (hA : mInj Am) (hsep : sepS S m Am ou) {k t : Nat} (hc : ∀ (σ' : kh) (G' : Nat → kc) (D' : kh) (I' : Nat → Int32) (F' : Nat → Nat → Int32) (f' : Nat → Int64) (N' : Nat → Int32) (B' : Nat → List Int32) (T' R' : Nat → List (List Int32)), lwI Λ S m Am ou σ' G' D' I' F' f' N' B' T' R' → J Λ X mL_law 601024 7293034 Z (8 * k) (5200 * k) σ' 1092 [some (.ref b), some (.ref (S 0)), some (.ref m), some (.ref ou), some (.int (nI (6 * t))), none, none] []) {σ : kh} {G : Nat → kc} {D : kh} {I : Nat → Int32} {F : Nat → Nat → Int32} {f : Nat → Int64} {N : Nat → Int32} {B : Nat → List Int32} {T R : Nat → List (List Int32)} (hI : lwI Λ S m Am ou σ G D I F f N B T R) (h6 : 6 * t + 6 ≤ n) : J Λ X mL_law 601024 7293034 Z (8 * k + 8) (5200 * k + 5200) σ 319 [some (.ref b), some (.ref (S 0)), some (.ref m), some (.ref ou), some (.int (nI (6 * t))), none, none] [] := by
  obtain ⟨h, ⟨A, L, hR⟩, hm, hM, hW, hs, ho, hd⟩ := hI
  by_cases hb_1 : xs (6 * t + 1) = 0
  · skip
    by_cases hb_3 : xs (6 * t + 3) = 0
    · skip
      refine J.aload_nR dL_law_319 rfl ?_
      refine J.aload_nR dL_law_320 rfl ?_
      refine J.iload dL_law_321 rfl ?_
      refine J.iconst (v := 1) dL_law_323 (by decide) ?_
      refine J.iadd dL_law_324 ?_
      rw [show (nI (6 * t)) + 1 = nI (6 * t + 1) from (nI_ad (6 * t) 1)]
      refine J.ti (j := 6 * t + 1) dL_law_325 hscr rfl (by omega) (by omega) ?_
      refine J.if_eq (tgt := 333) dL_law_326 (by decide) (fun c_326 => ?_) (fun c_326 => absurd hb_1 c_326)
      refine J.iconst (v := 0) dL_law_333 (by decide) ?_
      refine J.aload_nR dL_law_334 rfl ?_
      refine J.iload dL_law_335 rfl ?_
      refine J.iconst (v := 2) dL_law_337 (by decide) ?_
      refine J.iadd dL_law_338 ?_
      rw [show (nI (6 * t)) + 2 = nI (6 * t + 2) from (nI_ad (6 * t) 2)]
      refine J.ti (j := 6 * t + 2) dL_law_339 hscr rfl (by omega) (by omega) ?_
      refine J.aload_nR dL_law_340 rfl ?_
      refine J.iload dL_law_341 rfl ?_
      refine J.iconst (v := 3) dL_law_343 (by decide) ?_
      refine J.iadd dL_law_344 ?_
      rw [show (nI (6 * t)) + 3 = nI (6 * t + 3) from (nI_ad (6 * t) 3)]
      refine J.ti (j := 6 * t + 3) dL_law_345 hscr rfl (by omega) (by omega) ?_
      refine J.if_eq (tgt := 353) dL_law_346 (by decide) (fun c_346 => ?_) (fun c_346 => absurd hb_3 c_346)
      refine J.iconst (v := 0) dL_law_353 (by decide) ?_
      refine J.aload_nR dL_law_354 rfl ?_
      refine J.less (bc' := 8 * k + 8) (bs' := 5200 * k + 2060) (by omega) (by omega) ?_
      refine J.callW [.ref (S 0), .int 0, .int (xs (6 * t + 2)), .int 0, .ref ou] dL_law_355 mdw_client ssL_client (tb5 (i := 68) rfl) rfl rfl rfl rfl (w_client hok h hR.2.2.1 ho hsep.2.2.1 hd.2.2 (q_client hS hX hR hW hJ false (xs (6 * t + 2)) false)) ?_
      rintro _ σ1 ⟨G1, D1, f1, rfl, h1, hfr, ho1, ⟨A1, L1, hR1⟩, hf1⟩
      have hm1 := lw_m hsep hd hfr hm
      have hd1 := lw_d hd hfr hm ho
      refine J.istore (L' := [some (.ref b), some (.ref (S 0)), some (.ref m), some (.ref ou), some (.int (nI (6 * t))), some (.int ((opClient N B T R false (xs (6 * t + 2)) false).2.1)), none]) dL_law_358 (by decide) rfl rfl ?_
      refine J.aload_nR dL_law_360 rfl ?_
      refine J.aload_nR dL_law_361 rfl ?_
      refine J.iload dL_law_362 rfl ?_
      refine J.iconst (v := 1) dL_law_364 (by decide) ?_
      refine J.iadd dL_law_365 ?_
      rw [show (nI (6 * t)) + 1 = nI (6 * t + 1) from (nI_ad (6 * t) 1)]
      refine J.ti (j := 6 * t + 1) dL_law_366 hscr rfl (by omega) (by omega) ?_
      refine J.if_eq (tgt := 374) dL_law_367 (by decide) (fun c_367 => ?_) (fun c_367 => absurd hb_1 c_367)
      refine J.iconst (v := 0) dL_law_374 (by decide) ?_
      refine J.aload_nR dL_law_375 rfl ?_
      refine J.iload dL_law_376 rfl ?_
      refine J.iconst (v := 2) dL_law_378 (by decide) ?_
      refine J.iadd dL_law_379 ?_
      rw [show (nI (6 * t)) + 2 = nI (6 * t + 2) from (nI_ad (6 * t) 2)]
      refine J.ti (j := 6 * t + 2) dL_law_380 hscr rfl (by omega) (by omega) ?_
      refine J.aload_nR dL_law_381 rfl ?_
      refine J.iload dL_law_382 rfl ?_
      refine J.iconst (v := 3) dL_law_384 (by decide) ?_
      refine J.iadd dL_law_385 ?_
      rw [show (nI (6 * t)) + 3 = nI (6 * t + 3) from (nI_ad (6 * t) 3)]
      refine J.ti (j := 6 * t + 3) dL_law_386 hscr rfl (by omega) (by omega) ?_
      refine J.if_eq (tgt := 394) dL_law_387 (by decide) (fun c_387 => ?_) (fun c_387 => absurd hb_3 c_387)
      refine J.iconst (v := 0) dL_law_394 (by decide) ?_
      refine J.callV0 [.int 0, .int (xs (6 * t + 2)), .int 0] dL_law_395 mdX12_client imX12_client seX12_client kc_13 hm1.1 lk_L_82 rfl rfl rfl rfl (p_client hA hM hW false (xs (6 * t + 2)) false σ1 hm1) ?_
      rintro _ σ2 ⟨I1, F1, ⟨rfl, e0, hM1⟩, hm2, hmf⟩
      have h2 := lw_c hsep hd1 hmf h1
      have ho2 := lw_mo hsep hmf ho1
      refine J.istore (L' := [some (.ref b), some (.ref (S 0)), some (.ref m), some (.ref ou), some (.int (nI (6 * t))), some (.int ((opClient N B T R false (xs (6 * t + 2)) false).2.1)), some (.int ((opClient N B T R false (xs (6 * t + 2)) false).1))]) dL_law_398 (by decide) rfl rfl ?_
      refine J.aload_nR dL_law_400 rfl ?_
      refine J.callV0 [] dL_law_401 mdX12_thrown imX12_thrown seX12_thrown kc_13 hm2.1 lk_L_76 rfl rfl rfl rfl (m_thrown hA σ2 hm2) ?_
      rintro _ σ3 ⟨I3, F3, ⟨rfl, rfl, rfl⟩, hm3, hmf3⟩
      have h3 := lw_c hsep hd1 hmf3 h2
      have ho3 := lw_mo hsep hmf3 ho2
      refine J.iload dL_law_404 rfl ?_
      refine J.icmp_eq (tgt := 411) dL_law_406 (by decide) (fun c_406 => ?_) (fun c_406 => absurd e0 c_406)
      refine J.iload dL_law_411 rfl ?_
      refine J.if_ne (tgt := 428) dL_law_413 (by decide) (fun c_413 => ?_) (fun c_413 => ?_)
      · skip
        refine J.goto (tgt := 1092) dL_law_428 (by decide) ?_
        refine J.drop (i := 5) (L' := [some (.ref b), some (.ref (S 0)), some (.ref m), some (.ref ou), some (.int (nI (6 * t))), none, some (.int ((opClient N B T R false (xs (6 * t + 2)) false).1))]) rfl ?_
        refine J.drop (i := 6) (L' := [some (.ref b), some (.ref (S 0)), some (.ref m), some (.ref ou), some (.int (nI (6 * t))), none, none]) rfl ?_
        exact hc _ _ _ _ _ _ _ _ _ _ (lw_next (o := (opClient N B T R false (xs (6 * t + 2)) false)) h3 ⟨A1, L1, hR1⟩ hm3 hM1 (g_client hW hs false (xs (6 * t + 2)) false) ho3 hd1)
      · skip
        refine J.aload_nR dL_law_416 rfl ?_
        refine J.iconst (v := 0) dL_law_417 (by decide) ?_
        refine J.laload (j := 0) dL_law_418 ho3 rfl (by decide) (by decide) ?_
        refine J.iload dL_law_419 rfl ?_
        refine J.i2l dL_law_421 ?_
        refine J.lcmp dL_law_422 ?_
        refine J.if_eq (tgt := 428) dL_law_423 (by decide) (fun c_423 => ?_) (fun c_423 => absurd (by rw [hf1 c_413]; exact lg_cmp_self _) c_423)
        refine J.goto (tgt := 1092) dL_law_428 (by decide) ?_
        refine J.drop (i := 5) (L' := [some (.ref b), some (.ref (S 0)), some (.ref m), some (.ref ou), some (.int (nI (6 * t))), none, some (.int ((opClient N B T R false (xs (6 * t + 2)) false).1))]) rfl ?_
        refine J.drop (i := 6) (L' := [some (.ref b), some (.ref (S 0)), some (.ref m), some (.ref ou), some (.int (nI (6 * t))), none, none]) rfl ?_
        exact hc _ _ _ _ _ _ _ _ _ _ (lw_next (o := (opClient N B T R false (xs (6 * t + 2)) false)) h3 ⟨A1, L1, hR1⟩ hm3 hM1 (g_client hW hs false (xs (6 * t + 2)) false) ho3 hd1)
    · skip
      refine J.aload_nR dL_law_319 rfl ?_
      refine J.aload_nR dL_law_320 rfl ?_
      refine J.iload dL_law_321 rfl ?_
      refine J.iconst (v := 1) dL_law_323 (by decide) ?_
      refine J.iadd dL_law_324 ?_
      rw [show (nI (6 * t)) + 1 = nI (6 * t + 1) from (nI_ad (6 * t) 1)]
      refine J.ti (j := 6 * t + 1) dL_law_325 hscr rfl (by omega) (by omega) ?_
      refine J.if_eq (tgt := 333) dL_law_326 (by decide) (fun c_326 => ?_) (fun c_326 => absurd hb_1 c_326)
      refine J.iconst (v := 0) dL_law_333 (by decide) ?_
      refine J.aload_nR dL_law_334 rfl ?_
      refine J.iload dL_law_335 rfl ?_
      refine J.iconst (v := 2) dL_law_337 (by decide) ?_
      refine J.iadd dL_law_338 ?_
      rw [show (nI (6 * t)) + 2 = nI (6 * t + 2) from (nI_ad (6 * t) 2)]
      refine J.ti (j := 6 * t + 2) dL_law_339 hscr rfl (by omega) (by omega) ?_
      refine J.aload_nR dL_law_340 rfl ?_
      refine J.iload dL_law_341 rfl ?_
      refine J.iconst (v := 3) dL_law_343 (by decide) ?_
      refine J.iadd dL_law_344 ?_
      rw [show (nI (6 * t)) + 3 = nI (6 * t + 3) from (nI_ad (6 * t) 3)]
      refine J.ti (j := 6 * t + 3) dL_law_345 hscr rfl (by omega) (by omega) ?_
      refine J.if_eq (tgt := 353) dL_law_346 (by decide) (fun c_346 => absurd c_346 hb_3) (fun c_346 => ?_)
      refine J.iconst (v := 1) dL_law_349 (by decide) ?_
      refine J.goto (tgt := 354) dL_law_350 (by decide) ?_
      refine J.aload_nR dL_law_354 rfl ?_
      refine J.less (bc' := 8 * k + 8) (bs' := 5200 * k + 2060) (by omega) (by omega) ?_
      refine J.callW [.ref (S 0), .int 0, .int (xs (6 * t + 2)), .int 1, .ref ou] dL_law_355 mdw_client ssL_client (tb5 (i := 68) rfl) rfl rfl rfl rfl (w_client hok h hR.2.2.1 ho hsep.2.2.1 hd.2.2 (q_client hS hX hR hW hJ false (xs (6 * t + 2)) true)) ?_
      rintro _ σ1 ⟨G1, D1, f1, rfl, h1, hfr, ho1, ⟨A1, L1, hR1⟩, hf1⟩
      have hm1 := lw_m hsep hd hfr hm
      have hd1 := lw_d hd hfr hm ho
      refine J.istore (L' := [some (.ref b), some (.ref (S 0)), some (.ref m), some (.ref ou), some (.int (nI (6 * t))), some (.int ((opClient N B T R false (xs (6 * t + 2)) true).2.1)), none]) dL_law_358 (by decide) rfl rfl ?_
      refine J.aload_nR dL_law_360 rfl ?_
      refine J.aload_nR dL_law_361 rfl ?_
      refine J.iload dL_law_362 rfl ?_
      refine J.iconst (v := 1) dL_law_364 (by decide) ?_
      refine J.iadd dL_law_365 ?_
      rw [show (nI (6 * t)) + 1 = nI (6 * t + 1) from (nI_ad (6 * t) 1)]
      refine J.ti (j := 6 * t + 1) dL_law_366 hscr rfl (by omega) (by omega) ?_
      refine J.if_eq (tgt := 374) dL_law_367 (by decide) (fun c_367 => ?_) (fun c_367 => absurd hb_1 c_367)
      refine J.iconst (v := 0) dL_law_374 (by decide) ?_
      refine J.aload_nR dL_law_375 rfl ?_
      refine J.iload dL_law_376 rfl ?_
      refine J.iconst (v := 2) dL_law_378 (by decide) ?_
      refine J.iadd dL_law_379 ?_
      rw [show (nI (6 * t)) + 2 = nI (6 * t + 2) from (nI_ad (6 * t) 2)]
      refine J.ti (j := 6 * t + 2) dL_law_380 hscr rfl (by omega) (by omega) ?_
      refine J.aload_nR dL_law_381 rfl ?_
      refine J.iload dL_law_382 rfl ?_
      refine J.iconst (v := 3) dL_law_384 (by decide) ?_
      refine J.iadd dL_law_385 ?_
      rw [show (nI (6 * t)) + 3 = nI (6 * t + 3) from (nI_ad (6 * t) 3)]
      refine J.ti (j := 6 * t + 3) dL_law_386 hscr rfl (by omega) (by omega) ?_
      refine J.if_eq (tgt := 394) dL_law_387 (by decide) (fun c_387 => absurd c_387 hb_3) (fun c_387 => ?_)
      refine J.iconst (v := 1) dL_law_390 (by decide) ?_
      refine J.goto (tgt := 395) dL_law_391 (by decide) ?_
      refine J.callV0 [.int 0, .int (xs (6 * t + 2)), .int 1] dL_law_395 mdX12_client imX12_client seX12_client kc_13 hm1.1 lk_L_82 rfl rfl rfl rfl (p_client hA hM hW false (xs (6 * t + 2)) true σ1 hm1) ?_
      rintro _ σ2 ⟨I1, F1, ⟨rfl, e0, hM1⟩, hm2, hmf⟩
      have h2 := lw_c hsep hd1 hmf h1
      have ho2 := lw_mo hsep hmf ho1
      refine J.istore (L' := [some (.ref b), some (.ref (S 0)), some (.ref m), some (.ref ou), some (.int (nI (6 * t))), some (.int ((opClient N B T R false (xs (6 * t + 2)) true).2.1)), some (.int ((opClient N B T R false (xs (6 * t + 2)) true).1))]) dL_law_398 (by decide) rfl rfl ?_
      refine J.aload_nR dL_law_400 rfl ?_
      refine J.callV0 [] dL_law_401 mdX12_thrown imX12_thrown seX12_thrown kc_13 hm2.1 lk_L_76 rfl rfl rfl rfl (m_thrown hA σ2 hm2) ?_
      rintro _ σ3 ⟨I3, F3, ⟨rfl, rfl, rfl⟩, hm3, hmf3⟩
      have h3 := lw_c hsep hd1 hmf3 h2
      have ho3 := lw_mo hsep hmf3 ho2
      refine J.iload dL_law_404 rfl ?_
      refine J.icmp_eq (tgt := 411) dL_law_406 (by decide) (fun c_406 => ?_) (fun c_406 => absurd e0 c_406)
      refine J.iload dL_law_411 rfl ?_
      refine J.if_ne (tgt := 428) dL_law_413 (by decide) (fun c_413 => ?_) (fun c_413 => ?_)
      · skip
        refine J.goto (tgt := 1092) dL_law_428 (by decide) ?_
        refine J.drop (i := 5) (L' := [some (.ref b), some (.ref (S 0)), some (.ref m), some (.ref ou), some (.int (nI (6 * t))), none, some (.int ((opClient N B T R false (xs (6 * t + 2)) true).1))]) rfl ?_
        refine J.drop (i := 6) (L' := [some (.ref b), some (.ref (S 0)), some (.ref m), some (.ref ou), some (.int (nI (6 * t))), none, none]) rfl ?_
        exact hc _ _ _ _ _ _ _ _ _ _ (lw_next (o := (opClient N B T R false (xs (6 * t + 2)) true)) h3 ⟨A1, L1, hR1⟩ hm3 hM1 (g_client hW hs false (xs (6 * t + 2)) true) ho3 hd1)
      · skip
        refine J.aload_nR dL_law_416 rfl ?_
        refine J.iconst (v := 0) dL_law_417 (by decide) ?_
        refine J.laload (j := 0) dL_law_418 ho3 rfl (by decide) (by decide) ?_
        refine J.iload dL_law_419 rfl ?_
        refine J.i2l dL_law_421 ?_
        refine J.lcmp dL_law_422 ?_
        refine J.if_eq (tgt := 428) dL_law_423 (by decide) (fun c_423 => ?_) (fun c_423 => absurd (by rw [hf1 c_413]; exact lg_cmp_self _) c_423)
        refine J.goto (tgt := 1092) dL_law_428 (by decide) ?_
        refine J.drop (i := 5) (L' := [some (.ref b), some (.ref (S 0)), some (.ref m), some (.ref ou), some (.int (nI (6 * t))), none, some (.int ((opClient N B T R false (xs (6 * t + 2)) true).1))]) rfl ?_
        refine J.drop (i := 6) (L' := [some (.ref b), some (.ref (S 0)), some (.ref m), some (.ref ou), some (.int (nI (6 * t))), none, none]) rfl ?_
        exact hc _ _ _ _ _ _ _ _ _ _ (lw_next (o := (opClient N B T R false (xs (6 * t + 2)) true)) h3 ⟨A1, L1, hR1⟩ hm3 hM1 (g_client hW hs false (xs (6 * t + 2)) true) ho3 hd1)
  · skip
    by_cases hb_3 : xs (6 * t + 3) = 0
    · skip
      refine J.aload_nR dL_law_319 rfl ?_
      refine J.aload_nR dL_law_320 rfl ?_
      refine J.iload dL_law_321 rfl ?_
      refine J.iconst (v := 1) dL_law_323 (by decide) ?_
      refine J.iadd dL_law_324 ?_
      rw [show (nI (6 * t)) + 1 = nI (6 * t + 1) from (nI_ad (6 * t) 1)]
      refine J.ti (j := 6 * t + 1) dL_law_325 hscr rfl (by omega) (by omega) ?_
      refine J.if_eq (tgt := 333) dL_law_326 (by decide) (fun c_326 => absurd c_326 hb_1) (fun c_326 => ?_)
      refine J.iconst (v := 1) dL_law_329 (by decide) ?_
      refine J.goto (tgt := 334) dL_law_330 (by decide) ?_
      refine J.aload_nR dL_law_334 rfl ?_
      refine J.iload dL_law_335 rfl ?_
      refine J.iconst (v := 2) dL_law_337 (by decide) ?_
      refine J.iadd dL_law_338 ?_
      rw [show (nI (6 * t)) + 2 = nI (6 * t + 2) from (nI_ad (6 * t) 2)]
      refine J.ti (j := 6 * t + 2) dL_law_339 hscr rfl (by omega) (by omega) ?_
      refine J.aload_nR dL_law_340 rfl ?_
      refine J.iload dL_law_341 rfl ?_
      refine J.iconst (v := 3) dL_law_343 (by decide) ?_
      refine J.iadd dL_law_344 ?_
      rw [show (nI (6 * t)) + 3 = nI (6 * t + 3) from (nI_ad (6 * t) 3)]
      refine J.ti (j := 6 * t + 3) dL_law_345 hscr rfl (by omega) (by omega) ?_
      refine J.if_eq (tgt := 353) dL_law_346 (by decide) (fun c_346 => ?_) (fun c_346 => absurd hb_3 c_346)
      refine J.iconst (v := 0) dL_law_353 (by decide) ?_
      refine J.aload_nR dL_law_354 rfl ?_
      refine J.less (bc' := 8 * k + 8) (bs' := 5200 * k + 2060) (by omega) (by omega) ?_
      refine J.callW [.ref (S 0), .int 1, .int (xs (6 * t + 2)), .int 0, .ref ou] dL_law_355 mdw_client ssL_client (tb5 (i := 68) rfl) rfl rfl rfl rfl (w_client hok h hR.2.2.1 ho hsep.2.2.1 hd.2.2 (q_client hS hX hR hW hJ true (xs (6 * t + 2)) false)) ?_
      rintro _ σ1 ⟨G1, D1, f1, rfl, h1, hfr, ho1, ⟨A1, L1, hR1⟩, hf1⟩
      have hm1 := lw_m hsep hd hfr hm
      have hd1 := lw_d hd hfr hm ho
      refine J.istore (L' := [some (.ref b), some (.ref (S 0)), some (.ref m), some (.ref ou), some (.int (nI (6 * t))), some (.int ((opClient N B T R true (xs (6 * t + 2)) false).2.1)), none]) dL_law_358 (by decide) rfl rfl ?_
      refine J.aload_nR dL_law_360 rfl ?_
      refine J.aload_nR dL_law_361 rfl ?_
      refine J.iload dL_law_362 rfl ?_
      refine J.iconst (v := 1) dL_law_364 (by decide) ?_
      refine J.iadd dL_law_365 ?_
      rw [show (nI (6 * t)) + 1 = nI (6 * t + 1) from (nI_ad (6 * t) 1)]
      refine J.ti (j := 6 * t + 1) dL_law_366 hscr rfl (by omega) (by omega) ?_
      refine J.if_eq (tgt := 374) dL_law_367 (by decide) (fun c_367 => absurd c_367 hb_1) (fun c_367 => ?_)
      refine J.iconst (v := 1) dL_law_370 (by decide) ?_
      refine J.goto (tgt := 375) dL_law_371 (by decide) ?_
      refine J.aload_nR dL_law_375 rfl ?_
      refine J.iload dL_law_376 rfl ?_
      refine J.iconst (v := 2) dL_law_378 (by decide) ?_
      refine J.iadd dL_law_379 ?_
      rw [show (nI (6 * t)) + 2 = nI (6 * t + 2) from (nI_ad (6 * t) 2)]
      refine J.ti (j := 6 * t + 2) dL_law_380 hscr rfl (by omega) (by omega) ?_
      refine J.aload_nR dL_law_381 rfl ?_
      refine J.iload dL_law_382 rfl ?_
      refine J.iconst (v := 3) dL_law_384 (by decide) ?_
      refine J.iadd dL_law_385 ?_
      rw [show (nI (6 * t)) + 3 = nI (6 * t + 3) from (nI_ad (6 * t) 3)]
      refine J.ti (j := 6 * t + 3) dL_law_386 hscr rfl (by omega) (by omega) ?_
      refine J.if_eq (tgt := 394) dL_law_387 (by decide) (fun c_387 => ?_) (fun c_387 => absurd hb_3 c_387)
      refine J.iconst (v := 0) dL_law_394 (by decide) ?_
      refine J.callV0 [.int 1, .int (xs (6 * t + 2)), .int 0] dL_law_395 mdX12_client imX12_client seX12_client kc_13 hm1.1 lk_L_82 rfl rfl rfl rfl (p_client hA hM hW true (xs (6 * t + 2)) false σ1 hm1) ?_
      rintro _ σ2 ⟨I1, F1, ⟨rfl, e0, hM1⟩, hm2, hmf⟩
      have h2 := lw_c hsep hd1 hmf h1
      have ho2 := lw_mo hsep hmf ho1
      refine J.istore (L' := [some (.ref b), some (.ref (S 0)), some (.ref m), some (.ref ou), some (.int (nI (6 * t))), some (.int ((opClient N B T R true (xs (6 * t + 2)) false).2.1)), some (.int ((opClient N B T R true (xs (6 * t + 2)) false).1))]) dL_law_398 (by decide) rfl rfl ?_
      refine J.aload_nR dL_law_400 rfl ?_
      refine J.callV0 [] dL_law_401 mdX12_thrown imX12_thrown seX12_thrown kc_13 hm2.1 lk_L_76 rfl rfl rfl rfl (m_thrown hA σ2 hm2) ?_
      rintro _ σ3 ⟨I3, F3, ⟨rfl, rfl, rfl⟩, hm3, hmf3⟩
      have h3 := lw_c hsep hd1 hmf3 h2
      have ho3 := lw_mo hsep hmf3 ho2
      refine J.iload dL_law_404 rfl ?_
      refine J.icmp_eq (tgt := 411) dL_law_406 (by decide) (fun c_406 => ?_) (fun c_406 => absurd e0 c_406)
      refine J.iload dL_law_411 rfl ?_
      refine J.if_ne (tgt := 428) dL_law_413 (by decide) (fun c_413 => ?_) (fun c_413 => ?_)
      · skip
        refine J.goto (tgt := 1092) dL_law_428 (by decide) ?_
        refine J.drop (i := 5) (L' := [some (.ref b), some (.ref (S 0)), some (.ref m), some (.ref ou), some (.int (nI (6 * t))), none, some (.int ((opClient N B T R true (xs (6 * t + 2)) false).1))]) rfl ?_
        refine J.drop (i := 6) (L' := [some (.ref b), some (.ref (S 0)), some (.ref m), some (.ref ou), some (.int (nI (6 * t))), none, none]) rfl ?_
        exact hc _ _ _ _ _ _ _ _ _ _ (lw_next (o := (opClient N B T R true (xs (6 * t + 2)) false)) h3 ⟨A1, L1, hR1⟩ hm3 hM1 (g_client hW hs true (xs (6 * t + 2)) false) ho3 hd1)
      · skip
        refine J.aload_nR dL_law_416 rfl ?_
        refine J.iconst (v := 0) dL_law_417 (by decide) ?_
        refine J.laload (j := 0) dL_law_418 ho3 rfl (by decide) (by decide) ?_
        refine J.iload dL_law_419 rfl ?_
        refine J.i2l dL_law_421 ?_
        refine J.lcmp dL_law_422 ?_
        refine J.if_eq (tgt := 428) dL_law_423 (by decide) (fun c_423 => ?_) (fun c_423 => absurd (by rw [hf1 c_413]; exact lg_cmp_self _) c_423)
        refine J.goto (tgt := 1092) dL_law_428 (by decide) ?_
        refine J.drop (i := 5) (L' := [some (.ref b), some (.ref (S 0)), some (.ref m), some (.ref ou), some (.int (nI (6 * t))), none, some (.int ((opClient N B T R true (xs (6 * t + 2)) false).1))]) rfl ?_
        refine J.drop (i := 6) (L' := [some (.ref b), some (.ref (S 0)), some (.ref m), some (.ref ou), some (.int (nI (6 * t))), none, none]) rfl ?_
        exact hc _ _ _ _ _ _ _ _ _ _ (lw_next (o := (opClient N B T R true (xs (6 * t + 2)) false)) h3 ⟨A1, L1, hR1⟩ hm3 hM1 (g_client hW hs true (xs (6 * t + 2)) false) ho3 hd1)
    · skip
      refine J.aload_nR dL_law_319 rfl ?_
      refine J.aload_nR dL_law_320 rfl ?_
      refine J.iload dL_law_321 rfl ?_
      refine J.iconst (v := 1) dL_law_323 (by decide) ?_
      refine J.iadd dL_law_324 ?_
      rw [show (nI (6 * t)) + 1 = nI (6 * t + 1) from (nI_ad (6 * t) 1)]
      refine J.ti (j := 6 * t + 1) dL_law_325 hscr rfl (by omega) (by omega) ?_
      refine J.if_eq (tgt := 333) dL_law_326 (by decide) (fun c_326 => absurd c_326 hb_1) (fun c_326 => ?_)
      refine J.iconst (v := 1) dL_law_329 (by decide) ?_
      refine J.goto (tgt := 334) dL_law_330 (by decide) ?_
      refine J.aload_nR dL_law_334 rfl ?_
      refine J.iload dL_law_335 rfl ?_
      refine J.iconst (v := 2) dL_law_337 (by decide) ?_
      refine J.iadd dL_law_338 ?_
      rw [show (nI (6 * t)) + 2 = nI (6 * t + 2) from (nI_ad (6 * t) 2)]
      refine J.ti (j := 6 * t + 2) dL_law_339 hscr rfl (by omega) (by omega) ?_
      refine J.aload_nR dL_law_340 rfl ?_
      refine J.iload dL_law_341 rfl ?_
      refine J.iconst (v := 3) dL_law_343 (by decide) ?_
      refine J.iadd dL_law_344 ?_
      rw [show (nI (6 * t)) + 3 = nI (6 * t + 3) from (nI_ad (6 * t) 3)]
      refine J.ti (j := 6 * t + 3) dL_law_345 hscr rfl (by omega) (by omega) ?_
      refine J.if_eq (tgt := 353) dL_law_346 (by decide) (fun c_346 => absurd c_346 hb_3) (fun c_346 => ?_)
      refine J.iconst (v := 1) dL_law_349 (by decide) ?_
      refine J.goto (tgt := 354) dL_law_350 (by decide) ?_
      refine J.aload_nR dL_law_354 rfl ?_
      refine J.less (bc' := 8 * k + 8) (bs' := 5200 * k + 2060) (by omega) (by omega) ?_
      refine J.callW [.ref (S 0), .int 1, .int (xs (6 * t + 2)), .int 1, .ref ou] dL_law_355 mdw_client ssL_client (tb5 (i := 68) rfl) rfl rfl rfl rfl (w_client hok h hR.2.2.1 ho hsep.2.2.1 hd.2.2 (q_client hS hX hR hW hJ true (xs (6 * t + 2)) true)) ?_
      rintro _ σ1 ⟨G1, D1, f1, rfl, h1, hfr, ho1, ⟨A1, L1, hR1⟩, hf1⟩
      have hm1 := lw_m hsep hd hfr hm
      have hd1 := lw_d hd hfr hm ho
      refine J.istore (L' := [some (.ref b), some (.ref (S 0)), some (.ref m), some (.ref ou), some (.int (nI (6 * t))), some (.int ((opClient N B T R true (xs (6 * t + 2)) true).2.1)), none]) dL_law_358 (by decide) rfl rfl ?_
      refine J.aload_nR dL_law_360 rfl ?_
      refine J.aload_nR dL_law_361 rfl ?_
      refine J.iload dL_law_362 rfl ?_
      refine J.iconst (v := 1) dL_law_364 (by decide) ?_
      refine J.iadd dL_law_365 ?_
      rw [show (nI (6 * t)) + 1 = nI (6 * t + 1) from (nI_ad (6 * t) 1)]
      refine J.ti (j := 6 * t + 1) dL_law_366 hscr rfl (by omega) (by omega) ?_
      refine J.if_eq (tgt := 374) dL_law_367 (by decide) (fun c_367 => absurd c_367 hb_1) (fun c_367 => ?_)
      refine J.iconst (v := 1) dL_law_370 (by decide) ?_
      refine J.goto (tgt := 375) dL_law_371 (by decide) ?_
      refine J.aload_nR dL_law_375 rfl ?_
      refine J.iload dL_law_376 rfl ?_
      refine J.iconst (v := 2) dL_law_378 (by decide) ?_
      refine J.iadd dL_law_379 ?_
      rw [show (nI (6 * t)) + 2 = nI (6 * t + 2) from (nI_ad (6 * t) 2)]
      refine J.ti (j := 6 * t + 2) dL_law_380 hscr rfl (by omega) (by omega) ?_
      refine J.aload_nR dL_law_381 rfl ?_
      refine J.iload dL_law_382 rfl ?_
      refine J.iconst (v := 3) dL_law_384 (by decide) ?_
      refine J.iadd dL_law_385 ?_
      rw [show (nI (6 * t)) + 3 = nI (6 * t + 3) from (nI_ad (6 * t) 3)]
      refine J.ti (j := 6 * t + 3) dL_law_386 hscr rfl (by omega) (by omega) ?_
      refine J.if_eq (tgt := 394) dL_law_387 (by decide) (fun c_387 => absurd c_387 hb_3) (fun c_387 => ?_)
      refine J.iconst (v := 1) dL_law_390 (by decide) ?_
      refine J.goto (tgt := 395) dL_law_391 (by decide) ?_
      refine J.callV0 [.int 1, .int (xs (6 * t + 2)), .int 1] dL_law_395 mdX12_client imX12_client seX12_client kc_13 hm1.1 lk_L_82 rfl rfl rfl rfl (p_client hA hM hW true (xs (6 * t + 2)) true σ1 hm1) ?_
      rintro _ σ2 ⟨I1, F1, ⟨rfl, e0, hM1⟩, hm2, hmf⟩
      have h2 := lw_c hsep hd1 hmf h1
      have ho2 := lw_mo hsep hmf ho1
      refine J.istore (L' := [some (.ref b), some (.ref (S 0)), some (.ref m), some (.ref ou), some (.int (nI (6 * t))), some (.int ((opClient N B T R true (xs (6 * t + 2)) true).2.1)), some (.int ((opClient N B T R true (xs (6 * t + 2)) true).1))]) dL_law_398 (by decide) rfl rfl ?_
      refine J.aload_nR dL_law_400 rfl ?_
      refine J.callV0 [] dL_law_401 mdX12_thrown imX12_thrown seX12_thrown kc_13 hm2.1 lk_L_76 rfl rfl rfl rfl (m_thrown hA σ2 hm2) ?_
      rintro _ σ3 ⟨I3, F3, ⟨rfl, rfl, rfl⟩, hm3, hmf3⟩
      have h3 := lw_c hsep hd1 hmf3 h2
      have ho3 := lw_mo hsep hmf3 ho2
      refine J.iload dL_law_404 rfl ?_
      refine J.icmp_eq (tgt := 411) dL_law_406 (by decide) (fun c_406 => ?_) (fun c_406 => absurd e0 c_406)
      refine J.iload dL_law_411 rfl ?_
      refine J.if_ne (tgt := 428) dL_law_413 (by decide) (fun c_413 => ?_) (fun c_413 => ?_)
      · skip
        refine J.goto (tgt := 1092) dL_law_428 (by decide) ?_
        refine J.drop (i := 5) (L' := [some (.ref b), some (.ref (S 0)), some (.ref m), some (.ref ou), some (.int (nI (6 * t))), none, some (.int ((opClient N B T R true (xs (6 * t + 2)) true).1))]) rfl ?_
        refine J.drop (i := 6) (L' := [some (.ref b), some (.ref (S 0)), some (.ref m), some (.ref ou), some (.int (nI (6 * t))), none, none]) rfl ?_
        exact hc _ _ _ _ _ _ _ _ _ _ (lw_next (o := (opClient N B T R true (xs (6 * t + 2)) true)) h3 ⟨A1, L1, hR1⟩ hm3 hM1 (g_client hW hs true (xs (6 * t + 2)) true) ho3 hd1)
      · skip
        refine J.aload_nR dL_law_416 rfl ?_
        refine J.iconst (v := 0) dL_law_417 (by decide) ?_
        refine J.laload (j := 0) dL_law_418 ho3 rfl (by decide) (by decide) ?_
        refine J.iload dL_law_419 rfl ?_
        refine J.i2l dL_law_421 ?_
        refine J.lcmp dL_law_422 ?_
        refine J.if_eq (tgt := 428) dL_law_423 (by decide) (fun c_423 => ?_) (fun c_423 => absurd (by rw [hf1 c_413]; exact lg_cmp_self _) c_423)
        refine J.goto (tgt := 1092) dL_law_428 (by decide) ?_
        refine J.drop (i := 5) (L' := [some (.ref b), some (.ref (S 0)), some (.ref m), some (.ref ou), some (.int (nI (6 * t))), none, some (.int ((opClient N B T R true (xs (6 * t + 2)) true).1))]) rfl ?_
        refine J.drop (i := 6) (L' := [some (.ref b), some (.ref (S 0)), some (.ref m), some (.ref ou), some (.int (nI (6 * t))), none, none]) rfl ?_
        exact hc _ _ _ _ _ _ _ _ _ _ (lw_next (o := (opClient N B T R true (xs (6 * t + 2)) true)) h3 ⟨A1, L1, hR1⟩ hm3 hM1 (g_client hW hs true (xs (6 * t + 2)) true) ho3 hd1)

theorem lc_redirect {Λ : kL} {X : kX} {Z : State → Prop} (hok : kOK Λ) (hX : kXo Λ) (hSt : kSt Λ) (hSh : kSh Λ) (hJ : kJd Λ) {b n : Nat} {xs : Nat → Int32} (hscr : va_T .int b n (fun j => .int (xs j)) (kA Λ) (kS Λ) (kS Λ).heap) (hn : n ≤ 3072) {S : Nat → Nat} {m : Nat} {Am : Nat → Nat} {ou : Nat} (hS : cInj S) (hA : mInj Am) (hsep : sepS S m Am ou) {k t : Nat} (hc : ∀ (σ' : kh) (G' : Nat → kc) (D' : kh) (I' : Nat → Int32) (F' : Nat → Nat → Int32) (f' : Nat → Int64) (N' : Nat → Int32) (B' : Nat → List Int32) (T' R' : Nat → List (List Int32)), lwI Λ S m Am ou σ' G' D' I' F' f' N' B' T' R' → J Λ X mL_law 601024 7293034 Z (8 * k) (5200 * k) σ' 1092 [some (.ref b), some (.ref (S 0)), some (.ref m), some (.ref ou), some (.int (nI (6 * t))), none, none] []) {σ : kh} {G : Nat → kc} {D : kh} {I : Nat → Int32} {F : Nat → Nat → Int32} {f : Nat → Int64} {N : Nat → Int32} {B : Nat → List Int32} {T R : Nat → List (List Int32)} (hI : lwI Λ S m Am ou σ G D I F f N B T R) (h6 : 6 * t + 6 ≤ n) : J Λ X mL_law 601024 7293034 Z (8 * k + 8) (5200 * k + 5200) σ 431 [some (.ref b), some (.ref (S 0)), some (.ref m), some (.ref ou), some (.int (nI (6 * t))), none, none] [] := by
  obtain ⟨h, ⟨A, L, hR⟩, hm, hM, hW, hs, ho, hd⟩ := hI
  refine J.aload_nR dL_law_431 rfl ?_
  refine J.aload_nR dL_law_432 rfl ?_
  refine J.iload dL_law_433 rfl ?_
  refine J.iconst (v := 1) dL_law_435 (by decide) ?_
  refine J.iadd dL_law_436 ?_
  rw [show (nI (6 * t)) + 1 = nI (6 * t + 1) from (nI_ad (6 * t) 1)]
  refine J.ti (j := 6 * t + 1) dL_law_437 hscr rfl (by omega) (by omega) ?_
  refine J.aload_nR dL_law_438 rfl ?_
  refine J.less (bc' := 8 * k + 4) (bs' := 5200 * k + 120) (by omega) (by omega) ?_
  refine J.callW [.ref (S 0), .int (xs (6 * t + 1)), .ref ou] dL_law_439 mdw_redirect ssL_redirect (tb5 (i := 117) rfl) rfl rfl rfl rfl (w_redirect hok h hR.2.2.1 ho hsep.2.2.1 hd.2.2 (q_redirect hS hX hR hW hJ (xs (6 * t + 1)))) ?_
  rintro _ σ1 ⟨G1, D1, f1, rfl, h1, hfr, ho1, ⟨A1, L1, hR1⟩, hf1⟩
  have hm1 := lw_m hsep hd hfr hm
  have hd1 := lw_d hd hfr hm ho
  refine J.istore (L' := [some (.ref b), some (.ref (S 0)), some (.ref m), some (.ref ou), some (.int (nI (6 * t))), some (.int ((opRedirect N B T R (xs (6 * t + 1))).2.1)), none]) dL_law_442 (by decide) rfl rfl ?_
  refine J.aload_nR dL_law_444 rfl ?_
  refine J.aload_nR dL_law_445 rfl ?_
  refine J.iload dL_law_446 rfl ?_
  refine J.iconst (v := 1) dL_law_448 (by decide) ?_
  refine J.iadd dL_law_449 ?_
  rw [show (nI (6 * t)) + 1 = nI (6 * t + 1) from (nI_ad (6 * t) 1)]
  refine J.ti (j := 6 * t + 1) dL_law_450 hscr rfl (by omega) (by omega) ?_
  refine J.callV0 [.int (xs (6 * t + 1))] dL_law_451 mdX12_redirect imX12_redirect seX12_redirect kc_13 hm1.1 lk_L_86 rfl rfl rfl rfl (p_redirect hA hM hW (xs (6 * t + 1)) σ1 hm1) ?_
  rintro _ σ2 ⟨I1, F1, ⟨rfl, e0, hM1⟩, hm2, hmf⟩
  have h2 := lw_c hsep hd1 hmf h1
  have ho2 := lw_mo hsep hmf ho1
  refine J.istore (L' := [some (.ref b), some (.ref (S 0)), some (.ref m), some (.ref ou), some (.int (nI (6 * t))), some (.int ((opRedirect N B T R (xs (6 * t + 1))).2.1)), some (.int ((opRedirect N B T R (xs (6 * t + 1))).1))]) dL_law_454 (by decide) rfl rfl ?_
  refine J.aload_nR dL_law_456 rfl ?_
  refine J.callV0 [] dL_law_457 mdX12_thrown imX12_thrown seX12_thrown kc_13 hm2.1 lk_L_76 rfl rfl rfl rfl (m_thrown hA σ2 hm2) ?_
  rintro _ σ3 ⟨I3, F3, ⟨rfl, rfl, rfl⟩, hm3, hmf3⟩
  have h3 := lw_c hsep hd1 hmf3 h2
  have ho3 := lw_mo hsep hmf3 ho2
  refine J.iload dL_law_460 rfl ?_
  refine J.icmp_eq (tgt := 467) dL_law_462 (by decide) (fun c_462 => ?_) (fun c_462 => absurd e0 c_462)
  refine J.iload dL_law_467 rfl ?_
  refine J.if_ne (tgt := 484) dL_law_469 (by decide) (fun c_469 => ?_) (fun c_469 => ?_)
  · skip
    refine J.goto (tgt := 1092) dL_law_484 (by decide) ?_
    refine J.drop (i := 5) (L' := [some (.ref b), some (.ref (S 0)), some (.ref m), some (.ref ou), some (.int (nI (6 * t))), none, some (.int ((opRedirect N B T R (xs (6 * t + 1))).1))]) rfl ?_
    refine J.drop (i := 6) (L' := [some (.ref b), some (.ref (S 0)), some (.ref m), some (.ref ou), some (.int (nI (6 * t))), none, none]) rfl ?_
    exact hc _ _ _ _ _ _ _ _ _ _ (lw_next (o := (opRedirect N B T R (xs (6 * t + 1)))) h3 ⟨A1, L1, hR1⟩ hm3 hM1 (g_redirect hW hs (xs (6 * t + 1))) ho3 hd1)
  · skip
    refine J.aload_nR dL_law_472 rfl ?_
    refine J.iconst (v := 0) dL_law_473 (by decide) ?_
    refine J.laload (j := 0) dL_law_474 ho3 rfl (by decide) (by decide) ?_
    refine J.iload dL_law_475 rfl ?_
    refine J.i2l dL_law_477 ?_
    refine J.lcmp dL_law_478 ?_
    refine J.if_eq (tgt := 484) dL_law_479 (by decide) (fun c_479 => ?_) (fun c_479 => absurd (by rw [hf1 c_469]; exact lg_cmp_self _) c_479)
    refine J.goto (tgt := 1092) dL_law_484 (by decide) ?_
    refine J.drop (i := 5) (L' := [some (.ref b), some (.ref (S 0)), some (.ref m), some (.ref ou), some (.int (nI (6 * t))), none, some (.int ((opRedirect N B T R (xs (6 * t + 1))).1))]) rfl ?_
    refine J.drop (i := 6) (L' := [some (.ref b), some (.ref (S 0)), some (.ref m), some (.ref ou), some (.int (nI (6 * t))), none, none]) rfl ?_
    exact hc _ _ _ _ _ _ _ _ _ _ (lw_next (o := (opRedirect N B T R (xs (6 * t + 1)))) h3 ⟨A1, L1, hR1⟩ hm3 hM1 (g_redirect hW hs (xs (6 * t + 1))) ho3 hd1)

theorem lc_lives {Λ : kL} {X : kX} {Z : State → Prop} (hok : kOK Λ) (hX : kXo Λ) (hSt : kSt Λ) (hSh : kSh Λ) (hJ : kJd Λ) {b n : Nat} {xs : Nat → Int32} (hscr : va_T .int b n (fun j => .int (xs j)) (kA Λ) (kS Λ) (kS Λ).heap) (hn : n ≤ 3072) {S : Nat → Nat} {m : Nat} {Am : Nat → Nat} {ou : Nat} (hS : cInj S) (hA : mInj Am) (hsep : sepS S m Am ou) {k t : Nat} (hc : ∀ (σ' : kh) (G' : Nat → kc) (D' : kh) (I' : Nat → Int32) (F' : Nat → Nat → Int32) (f' : Nat → Int64) (N' : Nat → Int32) (B' : Nat → List Int32) (T' R' : Nat → List (List Int32)), lwI Λ S m Am ou σ' G' D' I' F' f' N' B' T' R' → J Λ X mL_law 601024 7293034 Z (8 * k) (5200 * k) σ' 1092 [some (.ref b), some (.ref (S 0)), some (.ref m), some (.ref ou), some (.int (nI (6 * t))), none, none] []) {σ : kh} {G : Nat → kc} {D : kh} {I : Nat → Int32} {F : Nat → Nat → Int32} {f : Nat → Int64} {N : Nat → Int32} {B : Nat → List Int32} {T R : Nat → List (List Int32)} (hI : lwI Λ S m Am ou σ G D I F f N B T R) (h6 : 6 * t + 6 ≤ n) : J Λ X mL_law 601024 7293034 Z (8 * k + 8) (5200 * k + 5200) σ 487 [some (.ref b), some (.ref (S 0)), some (.ref m), some (.ref ou), some (.int (nI (6 * t))), none, none] [] := by
  obtain ⟨h, ⟨A, L, hR⟩, hm, hM, hW, hs, ho, hd⟩ := hI
  refine J.aload_nR dL_law_487 rfl ?_
  refine J.aload_nR dL_law_488 rfl ?_
  refine J.iload dL_law_489 rfl ?_
  refine J.iconst (v := 1) dL_law_491 (by decide) ?_
  refine J.iadd dL_law_492 ?_
  rw [show (nI (6 * t)) + 1 = nI (6 * t + 1) from (nI_ad (6 * t) 1)]
  refine J.ti (j := 6 * t + 1) dL_law_493 hscr rfl (by omega) (by omega) ?_
  refine J.aload_nR dL_law_494 rfl ?_
  refine J.iload dL_law_495 rfl ?_
  refine J.iconst (v := 2) dL_law_497 (by decide) ?_
  refine J.iadd dL_law_498 ?_
  rw [show (nI (6 * t)) + 2 = nI (6 * t + 2) from (nI_ad (6 * t) 2)]
  refine J.ti (j := 6 * t + 2) dL_law_499 hscr rfl (by omega) (by omega) ?_
  refine J.aload_nR dL_law_500 rfl ?_
  refine J.iload dL_law_501 rfl ?_
  refine J.iconst (v := 3) dL_law_503 (by decide) ?_
  refine J.iadd dL_law_504 ?_
  rw [show (nI (6 * t)) + 3 = nI (6 * t + 3) from (nI_ad (6 * t) 3)]
  refine J.ti (j := 6 * t + 3) dL_law_505 hscr rfl (by omega) (by omega) ?_
  refine J.less (bc' := 8 * k + 1) (bs' := 5200 * k + 6) (by omega) (by omega) ?_
  refine J.callW [.ref (S 0), .int (xs (6 * t + 1)), .int (xs (6 * t + 2)), .int (xs (6 * t + 3))] dL_law_506 mdw_lives ssL_lives (tb5 (i := 146) rfl) rfl rfl rfl rfl (w_lives hok h hR.2.2.1 (q_lives hS hX hR hW (xs (6 * t + 1)) (xs (6 * t + 2)) (xs (6 * t + 3)))) ?_
  rintro _ σ1 ⟨G1, D1, rfl, h1, hfr, A1, L1, hR1⟩
  have hm1 := lw_m hsep hd hfr.w hm
  have ho1 := lw_o hsep hd hfr ho
  have hd1 := lw_d hd (hfr.w (ou := ou)) hm ho
  refine J.istore (L' := [some (.ref b), some (.ref (S 0)), some (.ref m), some (.ref ou), some (.int (nI (6 * t))), some (.int ((opLives N B T R (xs (6 * t + 1)) (xs (6 * t + 2)) (xs (6 * t + 3))).2.1)), none]) dL_law_509 (by decide) rfl rfl ?_
  refine J.aload_nR dL_law_511 rfl ?_
  refine J.aload_nR dL_law_512 rfl ?_
  refine J.iload dL_law_513 rfl ?_
  refine J.iconst (v := 1) dL_law_515 (by decide) ?_
  refine J.iadd dL_law_516 ?_
  rw [show (nI (6 * t)) + 1 = nI (6 * t + 1) from (nI_ad (6 * t) 1)]
  refine J.ti (j := 6 * t + 1) dL_law_517 hscr rfl (by omega) (by omega) ?_
  refine J.aload_nR dL_law_518 rfl ?_
  refine J.iload dL_law_519 rfl ?_
  refine J.iconst (v := 2) dL_law_521 (by decide) ?_
  refine J.iadd dL_law_522 ?_
  rw [show (nI (6 * t)) + 2 = nI (6 * t + 2) from (nI_ad (6 * t) 2)]
  refine J.ti (j := 6 * t + 2) dL_law_523 hscr rfl (by omega) (by omega) ?_
  refine J.aload_nR dL_law_524 rfl ?_
  refine J.iload dL_law_525 rfl ?_
  refine J.iconst (v := 3) dL_law_527 (by decide) ?_
  refine J.iadd dL_law_528 ?_
  rw [show (nI (6 * t)) + 3 = nI (6 * t + 3) from (nI_ad (6 * t) 3)]
  refine J.ti (j := 6 * t + 3) dL_law_529 hscr rfl (by omega) (by omega) ?_
  refine J.callV0 [.int (xs (6 * t + 1)), .int (xs (6 * t + 2)), .int (xs (6 * t + 3))] dL_law_530 mdX12_lives imX12_lives seX12_lives kc_13 hm1.1 lk_L_90 rfl rfl rfl rfl (p_lives hA hM hW (xs (6 * t + 1)) (xs (6 * t + 2)) (xs (6 * t + 3)) σ1 hm1) ?_
  rintro _ σ2 ⟨I1, F1, ⟨rfl, e0, hM1⟩, hm2, hmf⟩
  have h2 := lw_c hsep hd1 hmf h1
  have ho2 := lw_mo hsep hmf ho1
  refine J.aload_nR dL_law_533 rfl ?_
  refine J.callV0 [] dL_law_534 mdX12_thrown imX12_thrown seX12_thrown kc_13 hm2.1 lk_L_76 rfl rfl rfl rfl (m_thrown hA σ2 hm2) ?_
  rintro _ σ3 ⟨I3, F3, ⟨rfl, rfl, rfl⟩, hm3, hmf3⟩
  have h3 := lw_c hsep hd1 hmf3 h2
  have ho3 := lw_mo hsep hmf3 ho2
  refine J.iload dL_law_537 rfl ?_
  refine J.icmp_eq (tgt := 544) dL_law_539 (by decide) (fun c_539 => ?_) (fun c_539 => absurd e0 c_539)
  refine J.goto (tgt := 1092) dL_law_544 (by decide) ?_
  refine J.drop (i := 5) (L' := [some (.ref b), some (.ref (S 0)), some (.ref m), some (.ref ou), some (.int (nI (6 * t))), none, none]) rfl ?_
  exact hc _ _ _ _ _ _ _ _ _ _ (lw_next (o := (opLives N B T R (xs (6 * t + 1)) (xs (6 * t + 2)) (xs (6 * t + 3)))) h3 ⟨A1, L1, hR1⟩ hm3 hM1 (g_lives hW hs (xs (6 * t + 1)) (xs (6 * t + 2)) (xs (6 * t + 3))) ho3 hd1)

theorem lc_dice {Λ : kL} {X : kX} {Z : State → Prop} (hok : kOK Λ) (hX : kXo Λ) (hSt : kSt Λ) (hSh : kSh Λ) (hJ : kJd Λ) {b n : Nat} {xs : Nat → Int32} (hscr : va_T .int b n (fun j => .int (xs j)) (kA Λ) (kS Λ) (kS Λ).heap) (hn : n ≤ 3072) {S : Nat → Nat} {m : Nat} {Am : Nat → Nat} {ou : Nat} (hS : cInj S) (hA : mInj Am) (hsep : sepS S m Am ou) {k t : Nat} (hc : ∀ (σ' : kh) (G' : Nat → kc) (D' : kh) (I' : Nat → Int32) (F' : Nat → Nat → Int32) (f' : Nat → Int64) (N' : Nat → Int32) (B' : Nat → List Int32) (T' R' : Nat → List (List Int32)), lwI Λ S m Am ou σ' G' D' I' F' f' N' B' T' R' → J Λ X mL_law 601024 7293034 Z (8 * k) (5200 * k) σ' 1092 [some (.ref b), some (.ref (S 0)), some (.ref m), some (.ref ou), some (.int (nI (6 * t))), none, none] []) {σ : kh} {G : Nat → kc} {D : kh} {I : Nat → Int32} {F : Nat → Nat → Int32} {f : Nat → Int64} {N : Nat → Int32} {B : Nat → List Int32} {T R : Nat → List (List Int32)} (hI : lwI Λ S m Am ou σ G D I F f N B T R) (h6 : 6 * t + 6 ≤ n) : J Λ X mL_law 601024 7293034 Z (8 * k + 8) (5200 * k + 5200) σ 547 [some (.ref b), some (.ref (S 0)), some (.ref m), some (.ref ou), some (.int (nI (6 * t))), none, none] [] := by
  obtain ⟨h, ⟨A, L, hR⟩, hm, hM, hW, hs, ho, hd⟩ := hI
  refine J.aload_nR dL_law_547 rfl ?_
  refine J.aload_nR dL_law_548 rfl ?_
  refine J.iload dL_law_549 rfl ?_
  refine J.iconst (v := 1) dL_law_551 (by decide) ?_
  refine J.iadd dL_law_552 ?_
  rw [show (nI (6 * t)) + 1 = nI (6 * t + 1) from (nI_ad (6 * t) 1)]
  refine J.ti (j := 6 * t + 1) dL_law_553 hscr rfl (by omega) (by omega) ?_
  refine J.aload_nR dL_law_554 rfl ?_
  refine J.iload dL_law_555 rfl ?_
  refine J.iconst (v := 2) dL_law_557 (by decide) ?_
  refine J.iadd dL_law_558 ?_
  rw [show (nI (6 * t)) + 2 = nI (6 * t + 2) from (nI_ad (6 * t) 2)]
  refine J.ti (j := 6 * t + 2) dL_law_559 hscr rfl (by omega) (by omega) ?_
  refine J.aload_nR dL_law_560 rfl ?_
  refine J.iload dL_law_561 rfl ?_
  refine J.iconst (v := 3) dL_law_563 (by decide) ?_
  refine J.iadd dL_law_564 ?_
  rw [show (nI (6 * t)) + 3 = nI (6 * t + 3) from (nI_ad (6 * t) 3)]
  refine J.ti (j := 6 * t + 3) dL_law_565 hscr rfl (by omega) (by omega) ?_
  refine J.aload_nR dL_law_566 rfl ?_
  refine J.iload dL_law_567 rfl ?_
  refine J.iconst (v := 4) dL_law_569 (by decide) ?_
  refine J.iadd dL_law_570 ?_
  rw [show (nI (6 * t)) + 4 = nI (6 * t + 4) from (nI_ad (6 * t) 4)]
  refine J.ti (j := 6 * t + 4) dL_law_571 hscr rfl (by omega) (by omega) ?_
  refine J.less (bc' := 8 * k + 5) (bs' := 5200 * k + 200) (by omega) (by omega) ?_
  refine J.callV [.int (xs (6 * t + 1)), .int (xs (6 * t + 2)), .int (xs (6 * t + 3)), .int (xs (6 * t + 4))] dL_law_572 mdX11_dice imX11_dice seX11_dice kc_12 (h.at (k := 0) rfl hR.2.2.1) lk_L_91 rfl rfl rfl rfl (q_dice hS hR hW hSt hJ (xs (6 * t + 1)) (xs (6 * t + 2)) (xs (6 * t + 3)) (xs (6 * t + 4)) σ h) ?_
  rintro _ σ1 ⟨G1, D1, ⟨rfl, A1, L1, hR1⟩, h1, hfr⟩
  have hm1 := lw_m hsep hd hfr.w hm
  have ho1 := lw_o hsep hd hfr ho
  have hd1 := lw_d hd (hfr.w (ou := ou)) hm ho
  refine J.aload_nR dL_law_575 rfl ?_
  refine J.aload_nR dL_law_576 rfl ?_
  refine J.iload dL_law_577 rfl ?_
  refine J.iconst (v := 1) dL_law_579 (by decide) ?_
  refine J.iadd dL_law_580 ?_
  rw [show (nI (6 * t)) + 1 = nI (6 * t + 1) from (nI_ad (6 * t) 1)]
  refine J.ti (j := 6 * t + 1) dL_law_581 hscr rfl (by omega) (by omega) ?_
  refine J.aload_nR dL_law_582 rfl ?_
  refine J.iload dL_law_583 rfl ?_
  refine J.iconst (v := 2) dL_law_585 (by decide) ?_
  refine J.iadd dL_law_586 ?_
  rw [show (nI (6 * t)) + 2 = nI (6 * t + 2) from (nI_ad (6 * t) 2)]
  refine J.ti (j := 6 * t + 2) dL_law_587 hscr rfl (by omega) (by omega) ?_
  refine J.aload_nR dL_law_588 rfl ?_
  refine J.iload dL_law_589 rfl ?_
  refine J.iconst (v := 3) dL_law_591 (by decide) ?_
  refine J.iadd dL_law_592 ?_
  rw [show (nI (6 * t)) + 3 = nI (6 * t + 3) from (nI_ad (6 * t) 3)]
  refine J.ti (j := 6 * t + 3) dL_law_593 hscr rfl (by omega) (by omega) ?_
  refine J.aload_nR dL_law_594 rfl ?_
  refine J.iload dL_law_595 rfl ?_
  refine J.iconst (v := 4) dL_law_597 (by decide) ?_
  refine J.iadd dL_law_598 ?_
  rw [show (nI (6 * t)) + 4 = nI (6 * t + 4) from (nI_ad (6 * t) 4)]
  refine J.ti (j := 6 * t + 4) dL_law_599 hscr rfl (by omega) (by omega) ?_
  refine J.callV0 [.int (xs (6 * t + 1)), .int (xs (6 * t + 2)), .int (xs (6 * t + 3)), .int (xs (6 * t + 4))] dL_law_600 mdX12_dice imX12_dice seX12_dice kc_13 hm1.1 lk_L_95 rfl rfl rfl rfl (p_dice hA hM hW (xs (6 * t + 1)) (xs (6 * t + 2)) (xs (6 * t + 3)) (xs (6 * t + 4)) σ1 hm1) ?_
  rintro _ σ2 ⟨I1, F1, ⟨rfl, e0, hM1⟩, hm2, hmf⟩
  have h2 := lw_c hsep hd1 hmf h1
  have ho2 := lw_mo hsep hmf ho1
  refine J.icmp_eq (tgt := 1092) dL_law_603 (by decide) (fun c_603 => ?_) (fun c_603 => absurd rfl c_603)
  exact hc _ _ _ _ _ _ _ _ _ _ (lw_next (o := (opDice N B T R (xs (6 * t + 1)) (xs (6 * t + 2)) (xs (6 * t + 3)) (xs (6 * t + 4)))) h2 ⟨A1, L1, hR1⟩ hm2 hM1 (g_dice hW hs (xs (6 * t + 1)) (xs (6 * t + 2)) (xs (6 * t + 3)) (xs (6 * t + 4))) ho2 hd1)

theorem lc_tick {Λ : kL} {X : kX} {Z : State → Prop} (hok : kOK Λ) (hX : kXo Λ) (hSt : kSt Λ) (hSh : kSh Λ) (hJ : kJd Λ) {b n : Nat} {xs : Nat → Int32} (hscr : va_T .int b n (fun j => .int (xs j)) (kA Λ) (kS Λ) (kS Λ).heap) (hn : n ≤ 3072) {S : Nat → Nat} {m : Nat} {Am : Nat → Nat} {ou : Nat} (hS : cInj S) (hA : mInj Am) (hsep : sepS S m Am ou) {k t : Nat} (hc : ∀ (σ' : kh) (G' : Nat → kc) (D' : kh) (I' : Nat → Int32) (F' : Nat → Nat → Int32) (f' : Nat → Int64) (N' : Nat → Int32) (B' : Nat → List Int32) (T' R' : Nat → List (List Int32)), lwI Λ S m Am ou σ' G' D' I' F' f' N' B' T' R' → J Λ X mL_law 601024 7293034 Z (8 * k) (5200 * k) σ' 1092 [some (.ref b), some (.ref (S 0)), some (.ref m), some (.ref ou), some (.int (nI (6 * t))), none, none] []) {σ : kh} {G : Nat → kc} {D : kh} {I : Nat → Int32} {F : Nat → Nat → Int32} {f : Nat → Int64} {N : Nat → Int32} {B : Nat → List Int32} {T R : Nat → List (List Int32)} (hI : lwI Λ S m Am ou σ G D I F f N B T R) (h6 : 6 * t + 6 ≤ n) : J Λ X mL_law 601024 7293034 Z (8 * k + 8) (5200 * k + 5200) σ 608 [some (.ref b), some (.ref (S 0)), some (.ref m), some (.ref ou), some (.int (nI (6 * t))), none, none] [] := by
  obtain ⟨h, ⟨A, L, hR⟩, hm, hM, hW, hs, ho, hd⟩ := hI
  refine J.aload_nR dL_law_608 rfl ?_
  refine J.aload_nR dL_law_609 rfl ?_
  refine J.iload dL_law_610 rfl ?_
  refine J.iconst (v := 1) dL_law_612 (by decide) ?_
  refine J.iadd dL_law_613 ?_
  rw [show (nI (6 * t)) + 1 = nI (6 * t + 1) from (nI_ad (6 * t) 1)]
  refine J.ti (j := 6 * t + 1) dL_law_614 hscr rfl (by omega) (by omega) ?_
  refine J.aload_nR dL_law_615 rfl ?_
  refine J.less (bc' := 8 * k + 1) (bs' := 5200 * k + 6) (by omega) (by omega) ?_
  refine J.callW [.ref (S 0), .int (xs (6 * t + 1)), .ref ou] dL_law_616 mdw_tick ssL_tick (tb5 (i := 158) rfl) rfl rfl rfl rfl (w_tick hok h hR.2.2.1 ho hsep.2.2.1 hd.2.2 (q_tick hS hX hR hW (xs (6 * t + 1)))) ?_
  rintro _ σ1 ⟨G1, D1, f1, rfl, h1, hfr, ho1, ⟨A1, L1, hR1⟩, hf1⟩
  have hm1 := lw_m hsep hd hfr hm
  have hd1 := lw_d hd hfr hm ho
  refine J.istore (L' := [some (.ref b), some (.ref (S 0)), some (.ref m), some (.ref ou), some (.int (nI (6 * t))), some (.int ((opTick N B T R (xs (6 * t + 1))).2.1)), none]) dL_law_619 (by decide) rfl rfl ?_
  refine J.aload_nR dL_law_621 rfl ?_
  refine J.aload_nR dL_law_622 rfl ?_
  refine J.iload dL_law_623 rfl ?_
  refine J.iconst (v := 1) dL_law_625 (by decide) ?_
  refine J.iadd dL_law_626 ?_
  rw [show (nI (6 * t)) + 1 = nI (6 * t + 1) from (nI_ad (6 * t) 1)]
  refine J.ti (j := 6 * t + 1) dL_law_627 hscr rfl (by omega) (by omega) ?_
  refine J.callV0 [.int (xs (6 * t + 1))] dL_law_628 mdX12_tick imX12_tick seX12_tick kc_13 hm1.1 lk_L_98 rfl rfl rfl rfl (p_tick hA hM hW (xs (6 * t + 1)) σ1 hm1) ?_
  rintro _ σ2 ⟨I1, F1, ⟨rfl, e0, hM1⟩, hm2, hmf⟩
  have h2 := lw_c hsep hd1 hmf h1
  have ho2 := lw_mo hsep hmf ho1
  refine J.istore (L' := [some (.ref b), some (.ref (S 0)), some (.ref m), some (.ref ou), some (.int (nI (6 * t))), some (.int ((opTick N B T R (xs (6 * t + 1))).2.1)), some (.int ((opTick N B T R (xs (6 * t + 1))).1))]) dL_law_631 (by decide) rfl rfl ?_
  refine J.aload_nR dL_law_633 rfl ?_
  refine J.callV0 [] dL_law_634 mdX12_thrown imX12_thrown seX12_thrown kc_13 hm2.1 lk_L_76 rfl rfl rfl rfl (m_thrown hA σ2 hm2) ?_
  rintro _ σ3 ⟨I3, F3, ⟨rfl, rfl, rfl⟩, hm3, hmf3⟩
  have h3 := lw_c hsep hd1 hmf3 h2
  have ho3 := lw_mo hsep hmf3 ho2
  refine J.iload dL_law_637 rfl ?_
  refine J.icmp_eq (tgt := 644) dL_law_639 (by decide) (fun c_639 => ?_) (fun c_639 => absurd e0 c_639)
  refine J.iload dL_law_644 rfl ?_
  refine J.if_ne (tgt := 661) dL_law_646 (by decide) (fun c_646 => ?_) (fun c_646 => ?_)
  · skip
    refine J.goto (tgt := 1092) dL_law_661 (by decide) ?_
    refine J.drop (i := 5) (L' := [some (.ref b), some (.ref (S 0)), some (.ref m), some (.ref ou), some (.int (nI (6 * t))), none, some (.int ((opTick N B T R (xs (6 * t + 1))).1))]) rfl ?_
    refine J.drop (i := 6) (L' := [some (.ref b), some (.ref (S 0)), some (.ref m), some (.ref ou), some (.int (nI (6 * t))), none, none]) rfl ?_
    exact hc _ _ _ _ _ _ _ _ _ _ (lw_next (o := (opTick N B T R (xs (6 * t + 1)))) h3 ⟨A1, L1, hR1⟩ hm3 hM1 (g_tick hW hs (xs (6 * t + 1))) ho3 hd1)
  · skip
    refine J.aload_nR dL_law_649 rfl ?_
    refine J.iconst (v := 0) dL_law_650 (by decide) ?_
    refine J.laload (j := 0) dL_law_651 ho3 rfl (by decide) (by decide) ?_
    refine J.iload dL_law_652 rfl ?_
    refine J.i2l dL_law_654 ?_
    refine J.lcmp dL_law_655 ?_
    refine J.if_eq (tgt := 661) dL_law_656 (by decide) (fun c_656 => ?_) (fun c_656 => absurd (by rw [hf1 c_646]; exact lg_cmp_self _) c_656)
    refine J.goto (tgt := 1092) dL_law_661 (by decide) ?_
    refine J.drop (i := 5) (L' := [some (.ref b), some (.ref (S 0)), some (.ref m), some (.ref ou), some (.int (nI (6 * t))), none, some (.int ((opTick N B T R (xs (6 * t + 1))).1))]) rfl ?_
    refine J.drop (i := 6) (L' := [some (.ref b), some (.ref (S 0)), some (.ref m), some (.ref ou), some (.int (nI (6 * t))), none, none]) rfl ?_
    exact hc _ _ _ _ _ _ _ _ _ _ (lw_next (o := (opTick N B T R (xs (6 * t + 1)))) h3 ⟨A1, L1, hR1⟩ hm3 hM1 (g_tick hW hs (xs (6 * t + 1))) ho3 hd1)

theorem lc_authorize {Λ : kL} {X : kX} {Z : State → Prop} (hok : kOK Λ) (hX : kXo Λ) (hSt : kSt Λ) (hSh : kSh Λ) (hJ : kJd Λ) {b n : Nat} {xs : Nat → Int32} (hscr : va_T .int b n (fun j => .int (xs j)) (kA Λ) (kS Λ) (kS Λ).heap) (hn : n ≤ 3072) {S : Nat → Nat} {m : Nat} {Am : Nat → Nat} {ou : Nat} (hS : cInj S) (hA : mInj Am) (hsep : sepS S m Am ou) {k t : Nat} (hc : ∀ (σ' : kh) (G' : Nat → kc) (D' : kh) (I' : Nat → Int32) (F' : Nat → Nat → Int32) (f' : Nat → Int64) (N' : Nat → Int32) (B' : Nat → List Int32) (T' R' : Nat → List (List Int32)), lwI Λ S m Am ou σ' G' D' I' F' f' N' B' T' R' → J Λ X mL_law 601024 7293034 Z (8 * k) (5200 * k) σ' 1092 [some (.ref b), some (.ref (S 0)), some (.ref m), some (.ref ou), some (.int (nI (6 * t))), none, none] []) {σ : kh} {G : Nat → kc} {D : kh} {I : Nat → Int32} {F : Nat → Nat → Int32} {f : Nat → Int64} {N : Nat → Int32} {B : Nat → List Int32} {T R : Nat → List (List Int32)} (hI : lwI Λ S m Am ou σ G D I F f N B T R) (h6 : 6 * t + 6 ≤ n) : J Λ X mL_law 601024 7293034 Z (8 * k + 8) (5200 * k + 5200) σ 664 [some (.ref b), some (.ref (S 0)), some (.ref m), some (.ref ou), some (.int (nI (6 * t))), none, none] [] := by
  obtain ⟨h, ⟨A, L, hR⟩, hm, hM, hW, hs, ho, hd⟩ := hI
  refine J.aload_nR dL_law_664 rfl ?_
  refine J.less (bc' := 8 * k + 6) (bs' := 5200 * k + 2500) (by omega) (by omega) ?_
  refine J.callV [] dL_law_665 mdX11_authorize imX11_authorize seX11_authorize kc_12 (h.at (k := 0) rfl hR.2.2.1) lk_L_99 rfl rfl rfl rfl (q_authorize hS hR hW hSt hJ  σ h) ?_
  rintro _ σ1 ⟨G1, D1, ⟨rfl, A1, L1, hR1⟩, h1, hfr⟩
  have hm1 := lw_m hsep hd hfr.w hm
  have ho1 := lw_o hsep hd hfr ho
  have hd1 := lw_d hd (hfr.w (ou := ou)) hm ho
  refine J.aload_nR dL_law_668 rfl ?_
  refine J.callV0 [] dL_law_669 mdX12_authorize imX12_authorize seX12_authorize kc_13 hm1.1 lk_L_102 rfl rfl rfl rfl (p_authorize hA hM hW hSt  σ1 hm1) ?_
  rintro _ σ2 ⟨I1, F1, ⟨rfl, e0, hM1⟩, hm2, hmf⟩
  have h2 := lw_c hsep hd1 hmf h1
  have ho2 := lw_mo hsep hmf ho1
  refine J.icmp_eq (tgt := 1092) dL_law_672 (by decide) (fun c_672 => ?_) (fun c_672 => absurd rfl c_672)
  exact hc _ _ _ _ _ _ _ _ _ _ (lw_next (o := (opAuth N B T R)) h2 ⟨A1, L1, hR1⟩ hm2 hM1 (g_auth hW hs) ho2 hd1)

theorem lc_consent {Λ : kL} {X : kX} {Z : State → Prop} (hok : kOK Λ) (hX : kXo Λ) (hSt : kSt Λ) (hSh : kSh Λ) (hJ : kJd Λ) {b n : Nat} {xs : Nat → Int32} (hscr : va_T .int b n (fun j => .int (xs j)) (kA Λ) (kS Λ) (kS Λ).heap) (hn : n ≤ 3072) {S : Nat → Nat} {m : Nat} {Am : Nat → Nat} {ou : Nat} (hS : cInj S) (hA : mInj Am) (hsep : sepS S m Am ou) {k t : Nat} (hc : ∀ (σ' : kh) (G' : Nat → kc) (D' : kh) (I' : Nat → Int32) (F' : Nat → Nat → Int32) (f' : Nat → Int64) (N' : Nat → Int32) (B' : Nat → List Int32) (T' R' : Nat → List (List Int32)), lwI Λ S m Am ou σ' G' D' I' F' f' N' B' T' R' → J Λ X mL_law 601024 7293034 Z (8 * k) (5200 * k) σ' 1092 [some (.ref b), some (.ref (S 0)), some (.ref m), some (.ref ou), some (.int (nI (6 * t))), none, none] []) {σ : kh} {G : Nat → kc} {D : kh} {I : Nat → Int32} {F : Nat → Nat → Int32} {f : Nat → Int64} {N : Nat → Int32} {B : Nat → List Int32} {T R : Nat → List (List Int32)} (hI : lwI Λ S m Am ou σ G D I F f N B T R) (h6 : 6 * t + 6 ≤ n) : J Λ X mL_law 601024 7293034 Z (8 * k + 8) (5200 * k + 5200) σ 677 [some (.ref b), some (.ref (S 0)), some (.ref m), some (.ref ou), some (.int (nI (6 * t))), none, none] [] := by
  obtain ⟨h, ⟨A, L, hR⟩, hm, hM, hW, hs, ho, hd⟩ := hI
  by_cases hb_4 : xs (6 * t + 4) = 0
  · skip
    refine J.aload_nR dL_law_677 rfl ?_
    refine J.aload_nR dL_law_678 rfl ?_
    refine J.iload dL_law_679 rfl ?_
    refine J.iconst (v := 1) dL_law_681 (by decide) ?_
    refine J.iadd dL_law_682 ?_
    rw [show (nI (6 * t)) + 1 = nI (6 * t + 1) from (nI_ad (6 * t) 1)]
    refine J.ti (j := 6 * t + 1) dL_law_683 hscr rfl (by omega) (by omega) ?_
    refine J.aload_nR dL_law_684 rfl ?_
    refine J.iload dL_law_685 rfl ?_
    refine J.iconst (v := 2) dL_law_687 (by decide) ?_
    refine J.iadd dL_law_688 ?_
    rw [show (nI (6 * t)) + 2 = nI (6 * t + 2) from (nI_ad (6 * t) 2)]
    refine J.ti (j := 6 * t + 2) dL_law_689 hscr rfl (by omega) (by omega) ?_
    refine J.aload_nR dL_law_690 rfl ?_
    refine J.iload dL_law_691 rfl ?_
    refine J.iconst (v := 3) dL_law_693 (by decide) ?_
    refine J.iadd dL_law_694 ?_
    rw [show (nI (6 * t)) + 3 = nI (6 * t + 3) from (nI_ad (6 * t) 3)]
    refine J.ti (j := 6 * t + 3) dL_law_695 hscr rfl (by omega) (by omega) ?_
    refine J.aload_nR dL_law_696 rfl ?_
    refine J.iload dL_law_697 rfl ?_
    refine J.iconst (v := 4) dL_law_699 (by decide) ?_
    refine J.iadd dL_law_700 ?_
    rw [show (nI (6 * t)) + 4 = nI (6 * t + 4) from (nI_ad (6 * t) 4)]
    refine J.ti (j := 6 * t + 4) dL_law_701 hscr rfl (by omega) (by omega) ?_
    refine J.if_eq (tgt := 709) dL_law_702 (by decide) (fun c_702 => ?_) (fun c_702 => absurd hb_4 c_702)
    refine J.iconst (v := 0) dL_law_709 (by decide) ?_
    refine J.aload_nR dL_law_710 rfl ?_
    refine J.less (bc' := 8 * k + 4) (bs' := 5200 * k + 2300) (by omega) (by omega) ?_
    refine J.callW [.ref (S 0), .int (xs (6 * t + 1)), .int (xs (6 * t + 2)), .int (xs (6 * t + 3)), .int 0, .ref ou] dL_law_711 mdw_consent ssL_consent (tb5 (i := 167) rfl) rfl rfl rfl rfl (w_consent hok h hR.2.2.1 ho hsep.2.2.1 hd.2.2 (q_consent hS hX hR hW hSt hJ (xs (6 * t + 1)) (xs (6 * t + 2)) (xs (6 * t + 3)) false)) ?_
    rintro _ σ1 ⟨G1, D1, f1, rfl, h1, hfr, ho1, ⟨A1, L1, hR1⟩, hf1⟩
    have hm1 := lw_m hsep hd hfr hm
    have hd1 := lw_d hd hfr hm ho
    refine J.istore (L' := [some (.ref b), some (.ref (S 0)), some (.ref m), some (.ref ou), some (.int (nI (6 * t))), some (.int ((opConsent N B T R (xs (6 * t + 1)) (xs (6 * t + 2)) (xs (6 * t + 3)) false).2.1)), none]) dL_law_714 (by decide) rfl rfl ?_
    refine J.aload_nR dL_law_716 rfl ?_
    refine J.aload_nR dL_law_717 rfl ?_
    refine J.iload dL_law_718 rfl ?_
    refine J.iconst (v := 1) dL_law_720 (by decide) ?_
    refine J.iadd dL_law_721 ?_
    rw [show (nI (6 * t)) + 1 = nI (6 * t + 1) from (nI_ad (6 * t) 1)]
    refine J.ti (j := 6 * t + 1) dL_law_722 hscr rfl (by omega) (by omega) ?_
    refine J.aload_nR dL_law_723 rfl ?_
    refine J.iload dL_law_724 rfl ?_
    refine J.iconst (v := 2) dL_law_726 (by decide) ?_
    refine J.iadd dL_law_727 ?_
    rw [show (nI (6 * t)) + 2 = nI (6 * t + 2) from (nI_ad (6 * t) 2)]
    refine J.ti (j := 6 * t + 2) dL_law_728 hscr rfl (by omega) (by omega) ?_
    refine J.aload_nR dL_law_729 rfl ?_
    refine J.iload dL_law_730 rfl ?_
    refine J.iconst (v := 3) dL_law_732 (by decide) ?_
    refine J.iadd dL_law_733 ?_
    rw [show (nI (6 * t)) + 3 = nI (6 * t + 3) from (nI_ad (6 * t) 3)]
    refine J.ti (j := 6 * t + 3) dL_law_734 hscr rfl (by omega) (by omega) ?_
    refine J.aload_nR dL_law_735 rfl ?_
    refine J.iload dL_law_736 rfl ?_
    refine J.iconst (v := 4) dL_law_738 (by decide) ?_
    refine J.iadd dL_law_739 ?_
    rw [show (nI (6 * t)) + 4 = nI (6 * t + 4) from (nI_ad (6 * t) 4)]
    refine J.ti (j := 6 * t + 4) dL_law_740 hscr rfl (by omega) (by omega) ?_
    refine J.if_eq (tgt := 748) dL_law_741 (by decide) (fun c_741 => ?_) (fun c_741 => absurd hb_4 c_741)
    refine J.iconst (v := 0) dL_law_748 (by decide) ?_
    refine J.callV0 [.int (xs (6 * t + 1)), .int (xs (6 * t + 2)), .int (xs (6 * t + 3)), .int 0] dL_law_749 mdX12_consent imX12_consent seX12_consent kc_13 hm1.1 lk_L_106 rfl rfl rfl rfl (p_consent hA hM hW hSt (xs (6 * t + 1)) (xs (6 * t + 2)) (xs (6 * t + 3)) false σ1 hm1) ?_
    rintro _ σ2 ⟨I1, F1, ⟨rfl, e0, hM1⟩, hm2, hmf⟩
    have h2 := lw_c hsep hd1 hmf h1
    have ho2 := lw_mo hsep hmf ho1
    refine J.istore (L' := [some (.ref b), some (.ref (S 0)), some (.ref m), some (.ref ou), some (.int (nI (6 * t))), some (.int ((opConsent N B T R (xs (6 * t + 1)) (xs (6 * t + 2)) (xs (6 * t + 3)) false).2.1)), some (.int ((opConsent N B T R (xs (6 * t + 1)) (xs (6 * t + 2)) (xs (6 * t + 3)) false).1))]) dL_law_752 (by decide) rfl rfl ?_
    refine J.aload_nR dL_law_754 rfl ?_
    refine J.callV0 [] dL_law_755 mdX12_thrown imX12_thrown seX12_thrown kc_13 hm2.1 lk_L_76 rfl rfl rfl rfl (m_thrown hA σ2 hm2) ?_
    rintro _ σ3 ⟨I3, F3, ⟨rfl, rfl, rfl⟩, hm3, hmf3⟩
    have h3 := lw_c hsep hd1 hmf3 h2
    have ho3 := lw_mo hsep hmf3 ho2
    refine J.iload dL_law_758 rfl ?_
    refine J.icmp_eq (tgt := 765) dL_law_760 (by decide) (fun c_760 => ?_) (fun c_760 => absurd e0 c_760)
    refine J.iload dL_law_765 rfl ?_
    refine J.if_ne (tgt := 782) dL_law_767 (by decide) (fun c_767 => ?_) (fun c_767 => ?_)
    · skip
      refine J.goto (tgt := 1092) dL_law_782 (by decide) ?_
      refine J.drop (i := 5) (L' := [some (.ref b), some (.ref (S 0)), some (.ref m), some (.ref ou), some (.int (nI (6 * t))), none, some (.int ((opConsent N B T R (xs (6 * t + 1)) (xs (6 * t + 2)) (xs (6 * t + 3)) false).1))]) rfl ?_
      refine J.drop (i := 6) (L' := [some (.ref b), some (.ref (S 0)), some (.ref m), some (.ref ou), some (.int (nI (6 * t))), none, none]) rfl ?_
      exact hc _ _ _ _ _ _ _ _ _ _ (lw_next (o := (opConsent N B T R (xs (6 * t + 1)) (xs (6 * t + 2)) (xs (6 * t + 3)) false)) h3 ⟨A1, L1, hR1⟩ hm3 hM1 (g_consent hW hs (xs (6 * t + 1)) (xs (6 * t + 2)) (xs (6 * t + 3)) false) ho3 hd1)
    · skip
      refine J.aload_nR dL_law_770 rfl ?_
      refine J.iconst (v := 0) dL_law_771 (by decide) ?_
      refine J.laload (j := 0) dL_law_772 ho3 rfl (by decide) (by decide) ?_
      refine J.iload dL_law_773 rfl ?_
      refine J.i2l dL_law_775 ?_
      refine J.lcmp dL_law_776 ?_
      refine J.if_eq (tgt := 782) dL_law_777 (by decide) (fun c_777 => ?_) (fun c_777 => absurd (by rw [hf1 c_767]; exact lg_cmp_self _) c_777)
      refine J.goto (tgt := 1092) dL_law_782 (by decide) ?_
      refine J.drop (i := 5) (L' := [some (.ref b), some (.ref (S 0)), some (.ref m), some (.ref ou), some (.int (nI (6 * t))), none, some (.int ((opConsent N B T R (xs (6 * t + 1)) (xs (6 * t + 2)) (xs (6 * t + 3)) false).1))]) rfl ?_
      refine J.drop (i := 6) (L' := [some (.ref b), some (.ref (S 0)), some (.ref m), some (.ref ou), some (.int (nI (6 * t))), none, none]) rfl ?_
      exact hc _ _ _ _ _ _ _ _ _ _ (lw_next (o := (opConsent N B T R (xs (6 * t + 1)) (xs (6 * t + 2)) (xs (6 * t + 3)) false)) h3 ⟨A1, L1, hR1⟩ hm3 hM1 (g_consent hW hs (xs (6 * t + 1)) (xs (6 * t + 2)) (xs (6 * t + 3)) false) ho3 hd1)
  · skip
    refine J.aload_nR dL_law_677 rfl ?_
    refine J.aload_nR dL_law_678 rfl ?_
    refine J.iload dL_law_679 rfl ?_
    refine J.iconst (v := 1) dL_law_681 (by decide) ?_
    refine J.iadd dL_law_682 ?_
    rw [show (nI (6 * t)) + 1 = nI (6 * t + 1) from (nI_ad (6 * t) 1)]
    refine J.ti (j := 6 * t + 1) dL_law_683 hscr rfl (by omega) (by omega) ?_
    refine J.aload_nR dL_law_684 rfl ?_
    refine J.iload dL_law_685 rfl ?_
    refine J.iconst (v := 2) dL_law_687 (by decide) ?_
    refine J.iadd dL_law_688 ?_
    rw [show (nI (6 * t)) + 2 = nI (6 * t + 2) from (nI_ad (6 * t) 2)]
    refine J.ti (j := 6 * t + 2) dL_law_689 hscr rfl (by omega) (by omega) ?_
    refine J.aload_nR dL_law_690 rfl ?_
    refine J.iload dL_law_691 rfl ?_
    refine J.iconst (v := 3) dL_law_693 (by decide) ?_
    refine J.iadd dL_law_694 ?_
    rw [show (nI (6 * t)) + 3 = nI (6 * t + 3) from (nI_ad (6 * t) 3)]
    refine J.ti (j := 6 * t + 3) dL_law_695 hscr rfl (by omega) (by omega) ?_
    refine J.aload_nR dL_law_696 rfl ?_
    refine J.iload dL_law_697 rfl ?_
    refine J.iconst (v := 4) dL_law_699 (by decide) ?_
    refine J.iadd dL_law_700 ?_
    rw [show (nI (6 * t)) + 4 = nI (6 * t + 4) from (nI_ad (6 * t) 4)]
    refine J.ti (j := 6 * t + 4) dL_law_701 hscr rfl (by omega) (by omega) ?_
    refine J.if_eq (tgt := 709) dL_law_702 (by decide) (fun c_702 => absurd c_702 hb_4) (fun c_702 => ?_)
    refine J.iconst (v := 1) dL_law_705 (by decide) ?_
    refine J.goto (tgt := 710) dL_law_706 (by decide) ?_
    refine J.aload_nR dL_law_710 rfl ?_
    refine J.less (bc' := 8 * k + 4) (bs' := 5200 * k + 2300) (by omega) (by omega) ?_
    refine J.callW [.ref (S 0), .int (xs (6 * t + 1)), .int (xs (6 * t + 2)), .int (xs (6 * t + 3)), .int 1, .ref ou] dL_law_711 mdw_consent ssL_consent (tb5 (i := 167) rfl) rfl rfl rfl rfl (w_consent hok h hR.2.2.1 ho hsep.2.2.1 hd.2.2 (q_consent hS hX hR hW hSt hJ (xs (6 * t + 1)) (xs (6 * t + 2)) (xs (6 * t + 3)) true)) ?_
    rintro _ σ1 ⟨G1, D1, f1, rfl, h1, hfr, ho1, ⟨A1, L1, hR1⟩, hf1⟩
    have hm1 := lw_m hsep hd hfr hm
    have hd1 := lw_d hd hfr hm ho
    refine J.istore (L' := [some (.ref b), some (.ref (S 0)), some (.ref m), some (.ref ou), some (.int (nI (6 * t))), some (.int ((opConsent N B T R (xs (6 * t + 1)) (xs (6 * t + 2)) (xs (6 * t + 3)) true).2.1)), none]) dL_law_714 (by decide) rfl rfl ?_
    refine J.aload_nR dL_law_716 rfl ?_
    refine J.aload_nR dL_law_717 rfl ?_
    refine J.iload dL_law_718 rfl ?_
    refine J.iconst (v := 1) dL_law_720 (by decide) ?_
    refine J.iadd dL_law_721 ?_
    rw [show (nI (6 * t)) + 1 = nI (6 * t + 1) from (nI_ad (6 * t) 1)]
    refine J.ti (j := 6 * t + 1) dL_law_722 hscr rfl (by omega) (by omega) ?_
    refine J.aload_nR dL_law_723 rfl ?_
    refine J.iload dL_law_724 rfl ?_
    refine J.iconst (v := 2) dL_law_726 (by decide) ?_
    refine J.iadd dL_law_727 ?_
    rw [show (nI (6 * t)) + 2 = nI (6 * t + 2) from (nI_ad (6 * t) 2)]
    refine J.ti (j := 6 * t + 2) dL_law_728 hscr rfl (by omega) (by omega) ?_
    refine J.aload_nR dL_law_729 rfl ?_
    refine J.iload dL_law_730 rfl ?_
    refine J.iconst (v := 3) dL_law_732 (by decide) ?_
    refine J.iadd dL_law_733 ?_
    rw [show (nI (6 * t)) + 3 = nI (6 * t + 3) from (nI_ad (6 * t) 3)]
    refine J.ti (j := 6 * t + 3) dL_law_734 hscr rfl (by omega) (by omega) ?_
    refine J.aload_nR dL_law_735 rfl ?_
    refine J.iload dL_law_736 rfl ?_
    refine J.iconst (v := 4) dL_law_738 (by decide) ?_
    refine J.iadd dL_law_739 ?_
    rw [show (nI (6 * t)) + 4 = nI (6 * t + 4) from (nI_ad (6 * t) 4)]
    refine J.ti (j := 6 * t + 4) dL_law_740 hscr rfl (by omega) (by omega) ?_
    refine J.if_eq (tgt := 748) dL_law_741 (by decide) (fun c_741 => absurd c_741 hb_4) (fun c_741 => ?_)
    refine J.iconst (v := 1) dL_law_744 (by decide) ?_
    refine J.goto (tgt := 749) dL_law_745 (by decide) ?_
    refine J.callV0 [.int (xs (6 * t + 1)), .int (xs (6 * t + 2)), .int (xs (6 * t + 3)), .int 1] dL_law_749 mdX12_consent imX12_consent seX12_consent kc_13 hm1.1 lk_L_106 rfl rfl rfl rfl (p_consent hA hM hW hSt (xs (6 * t + 1)) (xs (6 * t + 2)) (xs (6 * t + 3)) true σ1 hm1) ?_
    rintro _ σ2 ⟨I1, F1, ⟨rfl, e0, hM1⟩, hm2, hmf⟩
    have h2 := lw_c hsep hd1 hmf h1
    have ho2 := lw_mo hsep hmf ho1
    refine J.istore (L' := [some (.ref b), some (.ref (S 0)), some (.ref m), some (.ref ou), some (.int (nI (6 * t))), some (.int ((opConsent N B T R (xs (6 * t + 1)) (xs (6 * t + 2)) (xs (6 * t + 3)) true).2.1)), some (.int ((opConsent N B T R (xs (6 * t + 1)) (xs (6 * t + 2)) (xs (6 * t + 3)) true).1))]) dL_law_752 (by decide) rfl rfl ?_
    refine J.aload_nR dL_law_754 rfl ?_
    refine J.callV0 [] dL_law_755 mdX12_thrown imX12_thrown seX12_thrown kc_13 hm2.1 lk_L_76 rfl rfl rfl rfl (m_thrown hA σ2 hm2) ?_
    rintro _ σ3 ⟨I3, F3, ⟨rfl, rfl, rfl⟩, hm3, hmf3⟩
    have h3 := lw_c hsep hd1 hmf3 h2
    have ho3 := lw_mo hsep hmf3 ho2
    refine J.iload dL_law_758 rfl ?_
    refine J.icmp_eq (tgt := 765) dL_law_760 (by decide) (fun c_760 => ?_) (fun c_760 => absurd e0 c_760)
    refine J.iload dL_law_765 rfl ?_
    refine J.if_ne (tgt := 782) dL_law_767 (by decide) (fun c_767 => ?_) (fun c_767 => ?_)
    · skip
      refine J.goto (tgt := 1092) dL_law_782 (by decide) ?_
      refine J.drop (i := 5) (L' := [some (.ref b), some (.ref (S 0)), some (.ref m), some (.ref ou), some (.int (nI (6 * t))), none, some (.int ((opConsent N B T R (xs (6 * t + 1)) (xs (6 * t + 2)) (xs (6 * t + 3)) true).1))]) rfl ?_
      refine J.drop (i := 6) (L' := [some (.ref b), some (.ref (S 0)), some (.ref m), some (.ref ou), some (.int (nI (6 * t))), none, none]) rfl ?_
      exact hc _ _ _ _ _ _ _ _ _ _ (lw_next (o := (opConsent N B T R (xs (6 * t + 1)) (xs (6 * t + 2)) (xs (6 * t + 3)) true)) h3 ⟨A1, L1, hR1⟩ hm3 hM1 (g_consent hW hs (xs (6 * t + 1)) (xs (6 * t + 2)) (xs (6 * t + 3)) true) ho3 hd1)
    · skip
      refine J.aload_nR dL_law_770 rfl ?_
      refine J.iconst (v := 0) dL_law_771 (by decide) ?_
      refine J.laload (j := 0) dL_law_772 ho3 rfl (by decide) (by decide) ?_
      refine J.iload dL_law_773 rfl ?_
      refine J.i2l dL_law_775 ?_
      refine J.lcmp dL_law_776 ?_
      refine J.if_eq (tgt := 782) dL_law_777 (by decide) (fun c_777 => ?_) (fun c_777 => absurd (by rw [hf1 c_767]; exact lg_cmp_self _) c_777)
      refine J.goto (tgt := 1092) dL_law_782 (by decide) ?_
      refine J.drop (i := 5) (L' := [some (.ref b), some (.ref (S 0)), some (.ref m), some (.ref ou), some (.int (nI (6 * t))), none, some (.int ((opConsent N B T R (xs (6 * t + 1)) (xs (6 * t + 2)) (xs (6 * t + 3)) true).1))]) rfl ?_
      refine J.drop (i := 6) (L' := [some (.ref b), some (.ref (S 0)), some (.ref m), some (.ref ou), some (.int (nI (6 * t))), none, none]) rfl ?_
      exact hc _ _ _ _ _ _ _ _ _ _ (lw_next (o := (opConsent N B T R (xs (6 * t + 1)) (xs (6 * t + 2)) (xs (6 * t + 3)) true)) h3 ⟨A1, L1, hR1⟩ hm3 hM1 (g_consent hW hs (xs (6 * t + 1)) (xs (6 * t + 2)) (xs (6 * t + 3)) true) ho3 hd1)

theorem lc_token {Λ : kL} {X : kX} {Z : State → Prop} (hok : kOK Λ) (hX : kXo Λ) (hSt : kSt Λ) (hSh : kSh Λ) (hJ : kJd Λ) {b n : Nat} {xs : Nat → Int32} (hscr : va_T .int b n (fun j => .int (xs j)) (kA Λ) (kS Λ) (kS Λ).heap) (hn : n ≤ 3072) {S : Nat → Nat} {m : Nat} {Am : Nat → Nat} {ou : Nat} (hS : cInj S) (hA : mInj Am) (hsep : sepS S m Am ou) {k t : Nat} (hc : ∀ (σ' : kh) (G' : Nat → kc) (D' : kh) (I' : Nat → Int32) (F' : Nat → Nat → Int32) (f' : Nat → Int64) (N' : Nat → Int32) (B' : Nat → List Int32) (T' R' : Nat → List (List Int32)), lwI Λ S m Am ou σ' G' D' I' F' f' N' B' T' R' → J Λ X mL_law 601024 7293034 Z (8 * k) (5200 * k) σ' 1092 [some (.ref b), some (.ref (S 0)), some (.ref m), some (.ref ou), some (.int (nI (6 * t))), none, none] []) {σ : kh} {G : Nat → kc} {D : kh} {I : Nat → Int32} {F : Nat → Nat → Int32} {f : Nat → Int64} {N : Nat → Int32} {B : Nat → List Int32} {T R : Nat → List (List Int32)} (hI : lwI Λ S m Am ou σ G D I F f N B T R) (h6 : 6 * t + 6 ≤ n) : J Λ X mL_law 601024 7293034 Z (8 * k + 8) (5200 * k + 5200) σ 785 [some (.ref b), some (.ref (S 0)), some (.ref m), some (.ref ou), some (.int (nI (6 * t))), none, none] [] := by
  obtain ⟨h, ⟨A, L, hR⟩, hm, hM, hW, hs, ho, hd⟩ := hI
  refine J.aload_nR dL_law_785 rfl ?_
  refine J.less (bc' := 8 * k + 8) (bs' := 5200 * k + 5200) (by omega) (by omega) ?_
  refine J.callV [] dL_law_786 mdX11_token imX11_token seX11_token kc_12 (h.at (k := 0) rfl hR.2.2.1) lk_L_107 rfl rfl rfl rfl (q_token hS hR hW hSt hSh hJ hs.2.2  σ h) ?_
  rintro _ σ1 ⟨G1, D1, ⟨rfl, A1, L1, hR1⟩, h1, hfr⟩
  have hm1 := lw_m hsep hd hfr.w hm
  have ho1 := lw_o hsep hd hfr ho
  have hd1 := lw_d hd (hfr.w (ou := ou)) hm ho
  refine J.aload_nR dL_law_789 rfl ?_
  refine J.callV0 [] dL_law_790 mdX12_token imX12_token seX12_token kc_13 hm1.1 lk_L_110 rfl rfl rfl rfl (p_token hA hM hW hSt hSh  σ1 hm1) ?_
  rintro _ σ2 ⟨I1, F1, ⟨rfl, e0, hM1⟩, hm2, hmf⟩
  have h2 := lw_c hsep hd1 hmf h1
  have ho2 := lw_mo hsep hmf ho1
  refine J.icmp_eq (tgt := 1092) dL_law_793 (by decide) (fun c_793 => ?_) (fun c_793 => absurd rfl c_793)
  exact hc _ _ _ _ _ _ _ _ _ _ (lw_next (o := (opTok N B T R)) h2 ⟨A1, L1, hR1⟩ hm2 hM1 (g_token hW hs) ho2 hd1)

theorem lc_revoke {Λ : kL} {X : kX} {Z : State → Prop} (hok : kOK Λ) (hX : kXo Λ) (hSt : kSt Λ) (hSh : kSh Λ) (hJ : kJd Λ) {b n : Nat} {xs : Nat → Int32} (hscr : va_T .int b n (fun j => .int (xs j)) (kA Λ) (kS Λ) (kS Λ).heap) (hn : n ≤ 3072) {S : Nat → Nat} {m : Nat} {Am : Nat → Nat} {ou : Nat} (hS : cInj S) (hA : mInj Am) (hsep : sepS S m Am ou) {k t : Nat} (hc : ∀ (σ' : kh) (G' : Nat → kc) (D' : kh) (I' : Nat → Int32) (F' : Nat → Nat → Int32) (f' : Nat → Int64) (N' : Nat → Int32) (B' : Nat → List Int32) (T' R' : Nat → List (List Int32)), lwI Λ S m Am ou σ' G' D' I' F' f' N' B' T' R' → J Λ X mL_law 601024 7293034 Z (8 * k) (5200 * k) σ' 1092 [some (.ref b), some (.ref (S 0)), some (.ref m), some (.ref ou), some (.int (nI (6 * t))), none, none] []) {σ : kh} {G : Nat → kc} {D : kh} {I : Nat → Int32} {F : Nat → Nat → Int32} {f : Nat → Int64} {N : Nat → Int32} {B : Nat → List Int32} {T R : Nat → List (List Int32)} (hI : lwI Λ S m Am ou σ G D I F f N B T R) (h6 : 6 * t + 6 ≤ n) : J Λ X mL_law 601024 7293034 Z (8 * k + 8) (5200 * k + 5200) σ 798 [some (.ref b), some (.ref (S 0)), some (.ref m), some (.ref ou), some (.int (nI (6 * t))), none, none] [] := by
  obtain ⟨h, ⟨A, L, hR⟩, hm, hM, hW, hs, ho, hd⟩ := hI
  refine J.aload_nR dL_law_798 rfl ?_
  refine J.callV0 [] dL_law_799 mdX11_revoke imX11_revoke seX11_revoke kc_12 (h.at (k := 0) rfl hR.2.2.1) lk_L_111 rfl rfl rfl rfl (q_revoke hS hR hW hSt  σ h) ?_
  rintro _ σ1 ⟨G1, D1, ⟨rfl, A1, L1, hR1⟩, h1, hfr⟩
  have hm1 := lw_m hsep hd hfr.w hm
  have ho1 := lw_o hsep hd hfr ho
  have hd1 := lw_d hd (hfr.w (ou := ou)) hm ho
  refine J.aload_nR dL_law_802 rfl ?_
  refine J.callV0 [] dL_law_803 mdX12_revoke imX12_revoke seX12_revoke kc_13 hm1.1 lk_L_114 rfl rfl rfl rfl (p_revoke hA hM hW hSt  σ1 hm1) ?_
  rintro _ σ2 ⟨I1, F1, ⟨rfl, e0, hM1⟩, hm2, hmf⟩
  have h2 := lw_c hsep hd1 hmf h1
  have ho2 := lw_mo hsep hmf ho1
  refine J.icmp_eq (tgt := 1092) dL_law_806 (by decide) (fun c_806 => ?_) (fun c_806 => absurd rfl c_806)
  refine J.less (bc' := 8 * k) (bs' := 5200 * k) (by omega) (by omega) ?_
  exact hc _ _ _ _ _ _ _ _ _ _ (lw_next (o := (opRev N B T R)) h2 ⟨A1, L1, hR1⟩ hm2 hM1 (g_revoke hW hs) ho2 hd1)

theorem lc_check {Λ : kL} {X : kX} {Z : State → Prop} (hok : kOK Λ) (hX : kXo Λ) (hSt : kSt Λ) (hSh : kSh Λ) (hJ : kJd Λ) {b n : Nat} {xs : Nat → Int32} (hscr : va_T .int b n (fun j => .int (xs j)) (kA Λ) (kS Λ) (kS Λ).heap) (hn : n ≤ 3072) {S : Nat → Nat} {m : Nat} {Am : Nat → Nat} {ou : Nat} (hS : cInj S) (hA : mInj Am) (hsep : sepS S m Am ou) {k t : Nat} (hc : ∀ (σ' : kh) (G' : Nat → kc) (D' : kh) (I' : Nat → Int32) (F' : Nat → Nat → Int32) (f' : Nat → Int64) (N' : Nat → Int32) (B' : Nat → List Int32) (T' R' : Nat → List (List Int32)), lwI Λ S m Am ou σ' G' D' I' F' f' N' B' T' R' → J Λ X mL_law 601024 7293034 Z (8 * k) (5200 * k) σ' 1092 [some (.ref b), some (.ref (S 0)), some (.ref m), some (.ref ou), some (.int (nI (6 * t))), none, none] []) {σ : kh} {G : Nat → kc} {D : kh} {I : Nat → Int32} {F : Nat → Nat → Int32} {f : Nat → Int64} {N : Nat → Int32} {B : Nat → List Int32} {T R : Nat → List (List Int32)} (hI : lwI Λ S m Am ou σ G D I F f N B T R) (h6 : 6 * t + 6 ≤ n) : J Λ X mL_law 601024 7293034 Z (8 * k + 8) (5200 * k + 5200) σ 811 [some (.ref b), some (.ref (S 0)), some (.ref m), some (.ref ou), some (.int (nI (6 * t))), none, none] [] := by
  obtain ⟨h, ⟨A, L, hR⟩, hm, hM, hW, hs, ho, hd⟩ := hI
  refine J.aload_nR dL_law_811 rfl ?_
  refine J.aload_nR dL_law_812 rfl ?_
  refine J.iload dL_law_813 rfl ?_
  refine J.iconst (v := 1) dL_law_815 (by decide) ?_
  refine J.iadd dL_law_816 ?_
  rw [show (nI (6 * t)) + 1 = nI (6 * t + 1) from (nI_ad (6 * t) 1)]
  refine J.ti (j := 6 * t + 1) dL_law_817 hscr rfl (by omega) (by omega) ?_
  refine J.aload_nR dL_law_818 rfl ?_
  refine J.less (bc' := 8 * k + 1) (bs' := 5200 * k + 6) (by omega) (by omega) ?_
  refine J.callW [.ref (S 0), .int (xs (6 * t + 1)), .ref ou] dL_law_819 mdw_check ssL_check (tb6 (i := 0) rfl) rfl rfl rfl rfl (w_check hok h hR.2.2.1 ho hsep.2.2.1 hd.2.2 (q_check hS hX hR hW (xs (6 * t + 1)))) ?_
  rintro _ σ1 ⟨G1, D1, f1, rfl, h1, hfr, ho1, ⟨A1, L1, hR1⟩, hf1⟩
  have hm1 := lw_m hsep hd hfr hm
  have hd1 := lw_d hd hfr hm ho
  refine J.istore (L' := [some (.ref b), some (.ref (S 0)), some (.ref m), some (.ref ou), some (.int (nI (6 * t))), some (.int ((opChk N B T R (xs (6 * t + 1))).2.1)), none]) dL_law_822 (by decide) rfl rfl ?_
  refine J.aload_nR dL_law_824 rfl ?_
  refine J.aload_nR dL_law_825 rfl ?_
  refine J.iload dL_law_826 rfl ?_
  refine J.iconst (v := 1) dL_law_828 (by decide) ?_
  refine J.iadd dL_law_829 ?_
  rw [show (nI (6 * t)) + 1 = nI (6 * t + 1) from (nI_ad (6 * t) 1)]
  refine J.ti (j := 6 * t + 1) dL_law_830 hscr rfl (by omega) (by omega) ?_
  refine J.callV0 [.int (xs (6 * t + 1))] dL_law_831 mdX12_check imX12_check seX12_check kc_13 hm1.1 lk_L_117 rfl rfl rfl rfl (p_check hA hM hW (xs (6 * t + 1)) σ1 hm1) ?_
  rintro _ σ2 ⟨I1, F1, ⟨rfl, e0, hM1⟩, hm2, hmf⟩
  have h2 := lw_c hsep hd1 hmf h1
  have ho2 := lw_mo hsep hmf ho1
  refine J.istore (L' := [some (.ref b), some (.ref (S 0)), some (.ref m), some (.ref ou), some (.int (nI (6 * t))), some (.int ((opChk N B T R (xs (6 * t + 1))).2.1)), some (.int ((opChk N B T R (xs (6 * t + 1))).1))]) dL_law_834 (by decide) rfl rfl ?_
  refine J.aload_nR dL_law_836 rfl ?_
  refine J.callV0 [] dL_law_837 mdX12_thrown imX12_thrown seX12_thrown kc_13 hm2.1 lk_L_76 rfl rfl rfl rfl (m_thrown hA σ2 hm2) ?_
  rintro _ σ3 ⟨I3, F3, ⟨rfl, rfl, rfl⟩, hm3, hmf3⟩
  have h3 := lw_c hsep hd1 hmf3 h2
  have ho3 := lw_mo hsep hmf3 ho2
  refine J.iload dL_law_840 rfl ?_
  refine J.icmp_eq (tgt := 847) dL_law_842 (by decide) (fun c_842 => ?_) (fun c_842 => absurd e0 c_842)
  refine J.iload dL_law_847 rfl ?_
  refine J.if_ne (tgt := 864) dL_law_849 (by decide) (fun c_849 => ?_) (fun c_849 => ?_)
  · skip
    refine J.goto (tgt := 1092) dL_law_864 (by decide) ?_
    refine J.drop (i := 5) (L' := [some (.ref b), some (.ref (S 0)), some (.ref m), some (.ref ou), some (.int (nI (6 * t))), none, some (.int ((opChk N B T R (xs (6 * t + 1))).1))]) rfl ?_
    refine J.drop (i := 6) (L' := [some (.ref b), some (.ref (S 0)), some (.ref m), some (.ref ou), some (.int (nI (6 * t))), none, none]) rfl ?_
    exact hc _ _ _ _ _ _ _ _ _ _ (lw_next (o := (opChk N B T R (xs (6 * t + 1)))) h3 ⟨A1, L1, hR1⟩ hm3 hM1 (g_chk hW hs (xs (6 * t + 1))) ho3 hd1)
  · skip
    refine J.aload_nR dL_law_852 rfl ?_
    refine J.iconst (v := 0) dL_law_853 (by decide) ?_
    refine J.laload (j := 0) dL_law_854 ho3 rfl (by decide) (by decide) ?_
    refine J.iload dL_law_855 rfl ?_
    refine J.i2l dL_law_857 ?_
    refine J.lcmp dL_law_858 ?_
    refine J.if_eq (tgt := 864) dL_law_859 (by decide) (fun c_859 => ?_) (fun c_859 => absurd (by rw [hf1 c_849]; exact lg_cmp_self _) c_859)
    refine J.goto (tgt := 1092) dL_law_864 (by decide) ?_
    refine J.drop (i := 5) (L' := [some (.ref b), some (.ref (S 0)), some (.ref m), some (.ref ou), some (.int (nI (6 * t))), none, some (.int ((opChk N B T R (xs (6 * t + 1))).1))]) rfl ?_
    refine J.drop (i := 6) (L' := [some (.ref b), some (.ref (S 0)), some (.ref m), some (.ref ou), some (.int (nI (6 * t))), none, none]) rfl ?_
    exact hc _ _ _ _ _ _ _ _ _ _ (lw_next (o := (opChk N B T R (xs (6 * t + 1)))) h3 ⟨A1, L1, hR1⟩ hm3 hM1 (g_chk hW hs (xs (6 * t + 1))) ho3 hd1)

theorem lc_status {Λ : kL} {X : kX} {Z : State → Prop} (hok : kOK Λ) (hX : kXo Λ) (hSt : kSt Λ) (hSh : kSh Λ) (hJ : kJd Λ) {b n : Nat} {xs : Nat → Int32} (hscr : va_T .int b n (fun j => .int (xs j)) (kA Λ) (kS Λ) (kS Λ).heap) (hn : n ≤ 3072) {S : Nat → Nat} {m : Nat} {Am : Nat → Nat} {ou : Nat} (hS : cInj S) (hA : mInj Am) (hsep : sepS S m Am ou) {k t : Nat} (hc : ∀ (σ' : kh) (G' : Nat → kc) (D' : kh) (I' : Nat → Int32) (F' : Nat → Nat → Int32) (f' : Nat → Int64) (N' : Nat → Int32) (B' : Nat → List Int32) (T' R' : Nat → List (List Int32)), lwI Λ S m Am ou σ' G' D' I' F' f' N' B' T' R' → J Λ X mL_law 601024 7293034 Z (8 * k) (5200 * k) σ' 1092 [some (.ref b), some (.ref (S 0)), some (.ref m), some (.ref ou), some (.int (nI (6 * t))), none, none] []) {σ : kh} {G : Nat → kc} {D : kh} {I : Nat → Int32} {F : Nat → Nat → Int32} {f : Nat → Int64} {N : Nat → Int32} {B : Nat → List Int32} {T R : Nat → List (List Int32)} (hI : lwI Λ S m Am ou σ G D I F f N B T R) (h6 : 6 * t + 6 ≤ n) : J Λ X mL_law 601024 7293034 Z (8 * k + 8) (5200 * k + 5200) σ 867 [some (.ref b), some (.ref (S 0)), some (.ref m), some (.ref ou), some (.int (nI (6 * t))), none, none] [] := by
  obtain ⟨h, ⟨A, L, hR⟩, hm, hM, hW, hs, ho, hd⟩ := hI
  refine J.aload_nR dL_law_867 rfl ?_
  refine J.callV0 [] dL_law_868 mdX11_status imX11_status seX11_status kc_12 (h.at (k := 0) rfl hR.2.2.1) lk_L_118 rfl rfl rfl rfl (q_status hS hR hW  σ h) ?_
  rintro _ σ1 ⟨G1, D1, ⟨rfl, A1, L1, hR1⟩, h1, hfr⟩
  have hm1 := lw_m hsep hd hfr.w hm
  have ho1 := lw_o hsep hd hfr ho
  have hd1 := lw_d hd (hfr.w (ou := ou)) hm ho
  refine J.aload_nR dL_law_871 rfl ?_
  refine J.callV0 [] dL_law_872 mdX12_status imX12_status seX12_status kc_13 hm1.1 lk_L_121 rfl rfl rfl rfl (p_status hA hM  σ1 hm1) ?_
  rintro _ σ2 ⟨I1, F1, ⟨rfl, e0, hM1⟩, hm2, hmf⟩
  have h2 := lw_c hsep hd1 hmf h1
  have ho2 := lw_mo hsep hmf ho1
  refine J.icmp_eq (tgt := 1092) dL_law_875 (by decide) (fun c_875 => ?_) (fun c_875 => absurd rfl c_875)
  refine J.less (bc' := 8 * k) (bs' := 5200 * k) (by omega) (by omega) ?_
  exact hc _ _ _ _ _ _ _ _ _ _ (lw_next (o := ((N 5), 0, N, B, T, R)) h2 ⟨A1, L1, hR1⟩ hm2 hM1 (wg_of hW hs) ho2 hd1)

theorem lc_error {Λ : kL} {X : kX} {Z : State → Prop} (hok : kOK Λ) (hX : kXo Λ) (hSt : kSt Λ) (hSh : kSh Λ) (hJ : kJd Λ) {b n : Nat} {xs : Nat → Int32} (hscr : va_T .int b n (fun j => .int (xs j)) (kA Λ) (kS Λ) (kS Λ).heap) (hn : n ≤ 3072) {S : Nat → Nat} {m : Nat} {Am : Nat → Nat} {ou : Nat} (hS : cInj S) (hA : mInj Am) (hsep : sepS S m Am ou) {k t : Nat} (hc : ∀ (σ' : kh) (G' : Nat → kc) (D' : kh) (I' : Nat → Int32) (F' : Nat → Nat → Int32) (f' : Nat → Int64) (N' : Nat → Int32) (B' : Nat → List Int32) (T' R' : Nat → List (List Int32)), lwI Λ S m Am ou σ' G' D' I' F' f' N' B' T' R' → J Λ X mL_law 601024 7293034 Z (8 * k) (5200 * k) σ' 1092 [some (.ref b), some (.ref (S 0)), some (.ref m), some (.ref ou), some (.int (nI (6 * t))), none, none] []) {σ : kh} {G : Nat → kc} {D : kh} {I : Nat → Int32} {F : Nat → Nat → Int32} {f : Nat → Int64} {N : Nat → Int32} {B : Nat → List Int32} {T R : Nat → List (List Int32)} (hI : lwI Λ S m Am ou σ G D I F f N B T R) (h6 : 6 * t + 6 ≤ n) : J Λ X mL_law 601024 7293034 Z (8 * k + 8) (5200 * k + 5200) σ 880 [some (.ref b), some (.ref (S 0)), some (.ref m), some (.ref ou), some (.int (nI (6 * t))), none, none] [] := by
  obtain ⟨h, ⟨A, L, hR⟩, hm, hM, hW, hs, ho, hd⟩ := hI
  refine J.aload_nR dL_law_880 rfl ?_
  refine J.callV0 [] dL_law_881 mdX11_error imX11_error seX11_error kc_12 (h.at (k := 0) rfl hR.2.2.1) lk_L_122 rfl rfl rfl rfl (q_error hS hR hW  σ h) ?_
  rintro _ σ1 ⟨G1, D1, ⟨rfl, A1, L1, hR1⟩, h1, hfr⟩
  have hm1 := lw_m hsep hd hfr.w hm
  have ho1 := lw_o hsep hd hfr ho
  have hd1 := lw_d hd (hfr.w (ou := ou)) hm ho
  refine J.aload_nR dL_law_884 rfl ?_
  refine J.callV0 [] dL_law_885 mdX12_error imX12_error seX12_error kc_13 hm1.1 lk_L_125 rfl rfl rfl rfl (p_error hA hM  σ1 hm1) ?_
  rintro _ σ2 ⟨I1, F1, ⟨rfl, e0, hM1⟩, hm2, hmf⟩
  have h2 := lw_c hsep hd1 hmf h1
  have ho2 := lw_mo hsep hmf ho1
  refine J.icmp_eq (tgt := 1092) dL_law_888 (by decide) (fun c_888 => ?_) (fun c_888 => absurd rfl c_888)
  refine J.less (bc' := 8 * k) (bs' := 5200 * k) (by omega) (by omega) ?_
  exact hc _ _ _ _ _ _ _ _ _ _ (lw_next (o := ((N 6), 0, N, B, T, R)) h2 ⟨A1, L1, hR1⟩ hm2 hM1 (wg_of hW hs) ho2 hd1)

theorem lc_out {Λ : kL} {X : kX} {Z : State → Prop} (hok : kOK Λ) (hX : kXo Λ) (hSt : kSt Λ) (hSh : kSh Λ) (hJ : kJd Λ) {b n : Nat} {xs : Nat → Int32} (hscr : va_T .int b n (fun j => .int (xs j)) (kA Λ) (kS Λ) (kS Λ).heap) (hn : n ≤ 3072) {S : Nat → Nat} {m : Nat} {Am : Nat → Nat} {ou : Nat} (hS : cInj S) (hA : mInj Am) (hsep : sepS S m Am ou) {k t : Nat} (hc : ∀ (σ' : kh) (G' : Nat → kc) (D' : kh) (I' : Nat → Int32) (F' : Nat → Nat → Int32) (f' : Nat → Int64) (N' : Nat → Int32) (B' : Nat → List Int32) (T' R' : Nat → List (List Int32)), lwI Λ S m Am ou σ' G' D' I' F' f' N' B' T' R' → J Λ X mL_law 601024 7293034 Z (8 * k) (5200 * k) σ' 1092 [some (.ref b), some (.ref (S 0)), some (.ref m), some (.ref ou), some (.int (nI (6 * t))), none, none] []) {σ : kh} {G : Nat → kc} {D : kh} {I : Nat → Int32} {F : Nat → Nat → Int32} {f : Nat → Int64} {N : Nat → Int32} {B : Nat → List Int32} {T R : Nat → List (List Int32)} (hI : lwI Λ S m Am ou σ G D I F f N B T R) (h6 : 6 * t + 6 ≤ n) : J Λ X mL_law 601024 7293034 Z (8 * k + 8) (5200 * k + 5200) σ 893 [some (.ref b), some (.ref (S 0)), some (.ref m), some (.ref ou), some (.int (nI (6 * t))), none, none] [] := by
  obtain ⟨h, ⟨A, L, hR⟩, hm, hM, hW, hs, ho, hd⟩ := hI
  refine J.aload_nR dL_law_893 rfl ?_
  refine J.aload_nR dL_law_894 rfl ?_
  refine J.iload dL_law_895 rfl ?_
  refine J.iconst (v := 1) dL_law_897 (by decide) ?_
  refine J.iadd dL_law_898 ?_
  rw [show (nI (6 * t)) + 1 = nI (6 * t + 1) from (nI_ad (6 * t) 1)]
  refine J.ti (j := 6 * t + 1) dL_law_899 hscr rfl (by omega) (by omega) ?_
  refine J.callV0 [.int (xs (6 * t + 1))] dL_law_900 mdX11_out imX11_out seX11_out kc_12 (h.at (k := 0) rfl hR.2.2.1) lk_L_126 rfl rfl rfl rfl (q_out hS hR hW (xs (6 * t + 1)) σ h) ?_
  rintro _ σ1 ⟨G1, D1, ⟨rfl, A1, L1, hR1⟩, h1, hfr⟩
  have hm1 := lw_m hsep hd hfr.w hm
  have ho1 := lw_o hsep hd hfr ho
  have hd1 := lw_d hd (hfr.w (ou := ou)) hm ho
  refine J.aload_nR dL_law_903 rfl ?_
  refine J.aload_nR dL_law_904 rfl ?_
  refine J.iload dL_law_905 rfl ?_
  refine J.iconst (v := 1) dL_law_907 (by decide) ?_
  refine J.iadd dL_law_908 ?_
  rw [show (nI (6 * t)) + 1 = nI (6 * t + 1) from (nI_ad (6 * t) 1)]
  refine J.ti (j := 6 * t + 1) dL_law_909 hscr rfl (by omega) (by omega) ?_
  refine J.callV0 [.int (xs (6 * t + 1))] dL_law_910 mdX12_out imX12_out seX12_out kc_13 hm1.1 lk_L_129 rfl rfl rfl rfl (p_out hA hM hW (xs (6 * t + 1)) σ1 hm1) ?_
  rintro _ σ2 ⟨I1, F1, ⟨rfl, e0, hM1⟩, hm2, hmf⟩
  have h2 := lw_c hsep hd1 hmf h1
  have ho2 := lw_mo hsep hmf ho1
  refine J.icmp_eq (tgt := 1092) dL_law_913 (by decide) (fun c_913 => ?_) (fun c_913 => absurd rfl c_913)
  refine J.less (bc' := 8 * k) (bs' := 5200 * k) (by omega) (by omega) ?_
  exact hc _ _ _ _ _ _ _ _ _ _ (lw_next (o := (opOut N B T R (xs (6 * t + 1)))) h2 ⟨A1, L1, hR1⟩ hm2 hM1 (g_out hW hs (xs (6 * t + 1))) ho2 hd1)

theorem lc_outs {Λ : kL} {X : kX} {Z : State → Prop} (hok : kOK Λ) (hX : kXo Λ) (hSt : kSt Λ) (hSh : kSh Λ) (hJ : kJd Λ) {b n : Nat} {xs : Nat → Int32} (hscr : va_T .int b n (fun j => .int (xs j)) (kA Λ) (kS Λ) (kS Λ).heap) (hn : n ≤ 3072) {S : Nat → Nat} {m : Nat} {Am : Nat → Nat} {ou : Nat} (hS : cInj S) (hA : mInj Am) (hsep : sepS S m Am ou) {k t : Nat} (hc : ∀ (σ' : kh) (G' : Nat → kc) (D' : kh) (I' : Nat → Int32) (F' : Nat → Nat → Int32) (f' : Nat → Int64) (N' : Nat → Int32) (B' : Nat → List Int32) (T' R' : Nat → List (List Int32)), lwI Λ S m Am ou σ' G' D' I' F' f' N' B' T' R' → J Λ X mL_law 601024 7293034 Z (8 * k) (5200 * k) σ' 1092 [some (.ref b), some (.ref (S 0)), some (.ref m), some (.ref ou), some (.int (nI (6 * t))), none, none] []) {σ : kh} {G : Nat → kc} {D : kh} {I : Nat → Int32} {F : Nat → Nat → Int32} {f : Nat → Int64} {N : Nat → Int32} {B : Nat → List Int32} {T R : Nat → List (List Int32)} (hI : lwI Λ S m Am ou σ G D I F f N B T R) (h6 : 6 * t + 6 ≤ n) : J Λ X mL_law 601024 7293034 Z (8 * k + 8) (5200 * k + 5200) σ 918 [some (.ref b), some (.ref (S 0)), some (.ref m), some (.ref ou), some (.int (nI (6 * t))), none, none] [] := by
  obtain ⟨h, ⟨A, L, hR⟩, hm, hM, hW, hs, ho, hd⟩ := hI
  refine J.aload_nR dL_law_918 rfl ?_
  refine J.callV0 [] dL_law_919 mdX11_outs imX11_outs seX11_outs kc_12 (h.at (k := 0) rfl hR.2.2.1) lk_L_130 rfl rfl rfl rfl (q_outs hS hR hW  σ h) ?_
  rintro _ σ1 ⟨G1, D1, ⟨rfl, A1, L1, hR1⟩, h1, hfr⟩
  have hm1 := lw_m hsep hd hfr.w hm
  have ho1 := lw_o hsep hd hfr ho
  have hd1 := lw_d hd (hfr.w (ou := ou)) hm ho
  refine J.aload_nR dL_law_922 rfl ?_
  refine J.callV0 [] dL_law_923 mdX12_outs imX12_outs seX12_outs kc_13 hm1.1 lk_L_133 rfl rfl rfl rfl (p_outs hA hM  σ1 hm1) ?_
  rintro _ σ2 ⟨I1, F1, ⟨rfl, e0, hM1⟩, hm2, hmf⟩
  have h2 := lw_c hsep hd1 hmf h1
  have ho2 := lw_mo hsep hmf ho1
  refine J.icmp_eq (tgt := 1092) dL_law_926 (by decide) (fun c_926 => ?_) (fun c_926 => absurd rfl c_926)
  refine J.less (bc' := 8 * k) (bs' := 5200 * k) (by omega) (by omega) ?_
  exact hc _ _ _ _ _ _ _ _ _ _ (lw_next (o := ((nI (B 1).length), 0, N, B, T, R)) h2 ⟨A1, L1, hR1⟩ hm2 hM1 (wg_of hW hs) ho2 hd1)

theorem lc_code {Λ : kL} {X : kX} {Z : State → Prop} (hok : kOK Λ) (hX : kXo Λ) (hSt : kSt Λ) (hSh : kSh Λ) (hJ : kJd Λ) {b n : Nat} {xs : Nat → Int32} (hscr : va_T .int b n (fun j => .int (xs j)) (kA Λ) (kS Λ) (kS Λ).heap) (hn : n ≤ 3072) {S : Nat → Nat} {m : Nat} {Am : Nat → Nat} {ou : Nat} (hS : cInj S) (hA : mInj Am) (hsep : sepS S m Am ou) {k t : Nat} (hc : ∀ (σ' : kh) (G' : Nat → kc) (D' : kh) (I' : Nat → Int32) (F' : Nat → Nat → Int32) (f' : Nat → Int64) (N' : Nat → Int32) (B' : Nat → List Int32) (T' R' : Nat → List (List Int32)), lwI Λ S m Am ou σ' G' D' I' F' f' N' B' T' R' → J Λ X mL_law 601024 7293034 Z (8 * k) (5200 * k) σ' 1092 [some (.ref b), some (.ref (S 0)), some (.ref m), some (.ref ou), some (.int (nI (6 * t))), none, none] []) {σ : kh} {G : Nat → kc} {D : kh} {I : Nat → Int32} {F : Nat → Nat → Int32} {f : Nat → Int64} {N : Nat → Int32} {B : Nat → List Int32} {T R : Nat → List (List Int32)} (hI : lwI Λ S m Am ou σ G D I F f N B T R) (h6 : 6 * t + 6 ≤ n) : J Λ X mL_law 601024 7293034 Z (8 * k + 8) (5200 * k + 5200) σ 931 [some (.ref b), some (.ref (S 0)), some (.ref m), some (.ref ou), some (.int (nI (6 * t))), none, none] [] := by
  obtain ⟨h, ⟨A, L, hR⟩, hm, hM, hW, hs, ho, hd⟩ := hI
  refine J.aload_nR dL_law_931 rfl ?_
  refine J.aload_nR dL_law_932 rfl ?_
  refine J.iload dL_law_933 rfl ?_
  refine J.iconst (v := 1) dL_law_935 (by decide) ?_
  refine J.iadd dL_law_936 ?_
  rw [show (nI (6 * t)) + 1 = nI (6 * t + 1) from (nI_ad (6 * t) 1)]
  refine J.ti (j := 6 * t + 1) dL_law_937 hscr rfl (by omega) (by omega) ?_
  refine J.aload_nR dL_law_938 rfl ?_
  refine J.iload dL_law_939 rfl ?_
  refine J.iconst (v := 2) dL_law_941 (by decide) ?_
  refine J.iadd dL_law_942 ?_
  rw [show (nI (6 * t)) + 2 = nI (6 * t + 2) from (nI_ad (6 * t) 2)]
  refine J.ti (j := 6 * t + 2) dL_law_943 hscr rfl (by omega) (by omega) ?_
  refine J.aload_nR dL_law_944 rfl ?_
  refine J.less (bc' := 8 * k + 1) (bs' := 5200 * k + 6) (by omega) (by omega) ?_
  refine J.callW [.ref (S 0), .int (xs (6 * t + 1)), .int (xs (6 * t + 2)), .ref ou] dL_law_945 mdw_code ssL_code (tb6 (i := 12) rfl) rfl rfl rfl rfl (w_code hok h hR.2.2.1 ho hsep.2.2.1 hd.2.2 (q_code hS hX hR hW (xs (6 * t + 1)) (xs (6 * t + 2)))) ?_
  rintro _ σ1 ⟨G1, D1, f1, rfl, h1, hfr, ho1, ⟨A1, L1, hR1⟩, hf1⟩
  have hm1 := lw_m hsep hd hfr hm
  have hd1 := lw_d hd hfr hm ho
  refine J.istore (L' := [some (.ref b), some (.ref (S 0)), some (.ref m), some (.ref ou), some (.int (nI (6 * t))), some (.int ((opCode N B T R (xs (6 * t + 1)) (xs (6 * t + 2))).2.1)), none]) dL_law_948 (by decide) rfl rfl ?_
  refine J.aload_nR dL_law_950 rfl ?_
  refine J.aload_nR dL_law_951 rfl ?_
  refine J.iload dL_law_952 rfl ?_
  refine J.iconst (v := 1) dL_law_954 (by decide) ?_
  refine J.iadd dL_law_955 ?_
  rw [show (nI (6 * t)) + 1 = nI (6 * t + 1) from (nI_ad (6 * t) 1)]
  refine J.ti (j := 6 * t + 1) dL_law_956 hscr rfl (by omega) (by omega) ?_
  refine J.aload_nR dL_law_957 rfl ?_
  refine J.iload dL_law_958 rfl ?_
  refine J.iconst (v := 2) dL_law_960 (by decide) ?_
  refine J.iadd dL_law_961 ?_
  rw [show (nI (6 * t)) + 2 = nI (6 * t + 2) from (nI_ad (6 * t) 2)]
  refine J.ti (j := 6 * t + 2) dL_law_962 hscr rfl (by omega) (by omega) ?_
  refine J.callV0 [.int (xs (6 * t + 1)), .int (xs (6 * t + 2))] dL_law_963 mdX12_code imX12_code seX12_code kc_13 hm1.1 lk_L_137 rfl rfl rfl rfl (p_code hA hM hW (xs (6 * t + 1)) (xs (6 * t + 2)) σ1 hm1) ?_
  rintro _ σ2 ⟨I1, F1, ⟨rfl, e0, hM1⟩, hm2, hmf⟩
  have h2 := lw_c hsep hd1 hmf h1
  have ho2 := lw_mo hsep hmf ho1
  refine J.istore (L' := [some (.ref b), some (.ref (S 0)), some (.ref m), some (.ref ou), some (.int (nI (6 * t))), some (.int ((opCode N B T R (xs (6 * t + 1)) (xs (6 * t + 2))).2.1)), some (.int ((opCode N B T R (xs (6 * t + 1)) (xs (6 * t + 2))).1))]) dL_law_966 (by decide) rfl rfl ?_
  refine J.aload_nR dL_law_968 rfl ?_
  refine J.callV0 [] dL_law_969 mdX12_thrown imX12_thrown seX12_thrown kc_13 hm2.1 lk_L_76 rfl rfl rfl rfl (m_thrown hA σ2 hm2) ?_
  rintro _ σ3 ⟨I3, F3, ⟨rfl, rfl, rfl⟩, hm3, hmf3⟩
  have h3 := lw_c hsep hd1 hmf3 h2
  have ho3 := lw_mo hsep hmf3 ho2
  refine J.iload dL_law_972 rfl ?_
  refine J.icmp_eq (tgt := 979) dL_law_974 (by decide) (fun c_974 => ?_) (fun c_974 => absurd e0 c_974)
  refine J.iload dL_law_979 rfl ?_
  refine J.if_ne (tgt := 996) dL_law_981 (by decide) (fun c_981 => ?_) (fun c_981 => ?_)
  · skip
    refine J.goto (tgt := 1092) dL_law_996 (by decide) ?_
    refine J.drop (i := 5) (L' := [some (.ref b), some (.ref (S 0)), some (.ref m), some (.ref ou), some (.int (nI (6 * t))), none, some (.int ((opCode N B T R (xs (6 * t + 1)) (xs (6 * t + 2))).1))]) rfl ?_
    refine J.drop (i := 6) (L' := [some (.ref b), some (.ref (S 0)), some (.ref m), some (.ref ou), some (.int (nI (6 * t))), none, none]) rfl ?_
    exact hc _ _ _ _ _ _ _ _ _ _ (lw_next (o := (opCode N B T R (xs (6 * t + 1)) (xs (6 * t + 2)))) h3 ⟨A1, L1, hR1⟩ hm3 hM1 (g_code hW hs (xs (6 * t + 1)) (xs (6 * t + 2))) ho3 hd1)
  · skip
    refine J.aload_nR dL_law_984 rfl ?_
    refine J.iconst (v := 0) dL_law_985 (by decide) ?_
    refine J.laload (j := 0) dL_law_986 ho3 rfl (by decide) (by decide) ?_
    refine J.iload dL_law_987 rfl ?_
    refine J.i2l dL_law_989 ?_
    refine J.lcmp dL_law_990 ?_
    refine J.if_eq (tgt := 996) dL_law_991 (by decide) (fun c_991 => ?_) (fun c_991 => absurd (by rw [hf1 c_981]; exact lg_cmp_self _) c_991)
    refine J.goto (tgt := 1092) dL_law_996 (by decide) ?_
    refine J.drop (i := 5) (L' := [some (.ref b), some (.ref (S 0)), some (.ref m), some (.ref ou), some (.int (nI (6 * t))), none, some (.int ((opCode N B T R (xs (6 * t + 1)) (xs (6 * t + 2))).1))]) rfl ?_
    refine J.drop (i := 6) (L' := [some (.ref b), some (.ref (S 0)), some (.ref m), some (.ref ou), some (.int (nI (6 * t))), none, none]) rfl ?_
    exact hc _ _ _ _ _ _ _ _ _ _ (lw_next (o := (opCode N B T R (xs (6 * t + 1)) (xs (6 * t + 2)))) h3 ⟨A1, L1, hR1⟩ hm3 hM1 (g_code hW hs (xs (6 * t + 1)) (xs (6 * t + 2))) ho3 hd1)

theorem lc_family {Λ : kL} {X : kX} {Z : State → Prop} (hok : kOK Λ) (hX : kXo Λ) (hSt : kSt Λ) (hSh : kSh Λ) (hJ : kJd Λ) {b n : Nat} {xs : Nat → Int32} (hscr : va_T .int b n (fun j => .int (xs j)) (kA Λ) (kS Λ) (kS Λ).heap) (hn : n ≤ 3072) {S : Nat → Nat} {m : Nat} {Am : Nat → Nat} {ou : Nat} (hS : cInj S) (hA : mInj Am) (hsep : sepS S m Am ou) {k t : Nat} (hc : ∀ (σ' : kh) (G' : Nat → kc) (D' : kh) (I' : Nat → Int32) (F' : Nat → Nat → Int32) (f' : Nat → Int64) (N' : Nat → Int32) (B' : Nat → List Int32) (T' R' : Nat → List (List Int32)), lwI Λ S m Am ou σ' G' D' I' F' f' N' B' T' R' → J Λ X mL_law 601024 7293034 Z (8 * k) (5200 * k) σ' 1092 [some (.ref b), some (.ref (S 0)), some (.ref m), some (.ref ou), some (.int (nI (6 * t))), none, none] []) {σ : kh} {G : Nat → kc} {D : kh} {I : Nat → Int32} {F : Nat → Nat → Int32} {f : Nat → Int64} {N : Nat → Int32} {B : Nat → List Int32} {T R : Nat → List (List Int32)} (hI : lwI Λ S m Am ou σ G D I F f N B T R) (h6 : 6 * t + 6 ≤ n) : J Λ X mL_law 601024 7293034 Z (8 * k + 8) (5200 * k + 5200) σ 999 [some (.ref b), some (.ref (S 0)), some (.ref m), some (.ref ou), some (.int (nI (6 * t))), none, none] [] := by
  obtain ⟨h, ⟨A, L, hR⟩, hm, hM, hW, hs, ho, hd⟩ := hI
  refine J.aload_nR dL_law_999 rfl ?_
  refine J.aload_nR dL_law_1000 rfl ?_
  refine J.iload dL_law_1001 rfl ?_
  refine J.iconst (v := 1) dL_law_1003 (by decide) ?_
  refine J.iadd dL_law_1004 ?_
  rw [show (nI (6 * t)) + 1 = nI (6 * t + 1) from (nI_ad (6 * t) 1)]
  refine J.ti (j := 6 * t + 1) dL_law_1005 hscr rfl (by omega) (by omega) ?_
  refine J.aload_nR dL_law_1006 rfl ?_
  refine J.iload dL_law_1007 rfl ?_
  refine J.iconst (v := 2) dL_law_1009 (by decide) ?_
  refine J.iadd dL_law_1010 ?_
  rw [show (nI (6 * t)) + 2 = nI (6 * t + 2) from (nI_ad (6 * t) 2)]
  refine J.ti (j := 6 * t + 2) dL_law_1011 hscr rfl (by omega) (by omega) ?_
  refine J.aload_nR dL_law_1012 rfl ?_
  refine J.less (bc' := 8 * k + 1) (bs' := 5200 * k + 6) (by omega) (by omega) ?_
  refine J.callW [.ref (S 0), .int (xs (6 * t + 1)), .int (xs (6 * t + 2)), .ref ou] dL_law_1013 mdw_family ssL_family (tb6 (i := 25) rfl) rfl rfl rfl rfl (w_family hok h hR.2.2.1 ho hsep.2.2.1 hd.2.2 (q_family hS hX hR hW (xs (6 * t + 1)) (xs (6 * t + 2)))) ?_
  rintro _ σ1 ⟨G1, D1, f1, rfl, h1, hfr, ho1, ⟨A1, L1, hR1⟩, hf1⟩
  have hm1 := lw_m hsep hd hfr hm
  have hd1 := lw_d hd hfr hm ho
  refine J.istore (L' := [some (.ref b), some (.ref (S 0)), some (.ref m), some (.ref ou), some (.int (nI (6 * t))), some (.int ((opFam N B T R (xs (6 * t + 1)) (xs (6 * t + 2))).2.1)), none]) dL_law_1016 (by decide) rfl rfl ?_
  refine J.aload_nR dL_law_1018 rfl ?_
  refine J.aload_nR dL_law_1019 rfl ?_
  refine J.iload dL_law_1020 rfl ?_
  refine J.iconst (v := 1) dL_law_1022 (by decide) ?_
  refine J.iadd dL_law_1023 ?_
  rw [show (nI (6 * t)) + 1 = nI (6 * t + 1) from (nI_ad (6 * t) 1)]
  refine J.ti (j := 6 * t + 1) dL_law_1024 hscr rfl (by omega) (by omega) ?_
  refine J.aload_nR dL_law_1025 rfl ?_
  refine J.iload dL_law_1026 rfl ?_
  refine J.iconst (v := 2) dL_law_1028 (by decide) ?_
  refine J.iadd dL_law_1029 ?_
  rw [show (nI (6 * t)) + 2 = nI (6 * t + 2) from (nI_ad (6 * t) 2)]
  refine J.ti (j := 6 * t + 2) dL_law_1030 hscr rfl (by omega) (by omega) ?_
  refine J.callV0 [.int (xs (6 * t + 1)), .int (xs (6 * t + 2))] dL_law_1031 mdX12_family imX12_family seX12_family kc_13 hm1.1 lk_L_140 rfl rfl rfl rfl (p_family hA hM hW (xs (6 * t + 1)) (xs (6 * t + 2)) σ1 hm1) ?_
  rintro _ σ2 ⟨I1, F1, ⟨rfl, e0, hM1⟩, hm2, hmf⟩
  have h2 := lw_c hsep hd1 hmf h1
  have ho2 := lw_mo hsep hmf ho1
  refine J.istore (L' := [some (.ref b), some (.ref (S 0)), some (.ref m), some (.ref ou), some (.int (nI (6 * t))), some (.int ((opFam N B T R (xs (6 * t + 1)) (xs (6 * t + 2))).2.1)), some (.int ((opFam N B T R (xs (6 * t + 1)) (xs (6 * t + 2))).1))]) dL_law_1034 (by decide) rfl rfl ?_
  refine J.aload_nR dL_law_1036 rfl ?_
  refine J.callV0 [] dL_law_1037 mdX12_thrown imX12_thrown seX12_thrown kc_13 hm2.1 lk_L_76 rfl rfl rfl rfl (m_thrown hA σ2 hm2) ?_
  rintro _ σ3 ⟨I3, F3, ⟨rfl, rfl, rfl⟩, hm3, hmf3⟩
  have h3 := lw_c hsep hd1 hmf3 h2
  have ho3 := lw_mo hsep hmf3 ho2
  refine J.iload dL_law_1040 rfl ?_
  refine J.icmp_eq (tgt := 1047) dL_law_1042 (by decide) (fun c_1042 => ?_) (fun c_1042 => absurd e0 c_1042)
  refine J.iload dL_law_1047 rfl ?_
  refine J.if_ne (tgt := 1064) dL_law_1049 (by decide) (fun c_1049 => ?_) (fun c_1049 => ?_)
  · skip
    refine J.goto (tgt := 1092) dL_law_1064 (by decide) ?_
    refine J.drop (i := 5) (L' := [some (.ref b), some (.ref (S 0)), some (.ref m), some (.ref ou), some (.int (nI (6 * t))), none, some (.int ((opFam N B T R (xs (6 * t + 1)) (xs (6 * t + 2))).1))]) rfl ?_
    refine J.drop (i := 6) (L' := [some (.ref b), some (.ref (S 0)), some (.ref m), some (.ref ou), some (.int (nI (6 * t))), none, none]) rfl ?_
    exact hc _ _ _ _ _ _ _ _ _ _ (lw_next (o := (opFam N B T R (xs (6 * t + 1)) (xs (6 * t + 2)))) h3 ⟨A1, L1, hR1⟩ hm3 hM1 (g_fam hW hs (xs (6 * t + 1)) (xs (6 * t + 2))) ho3 hd1)
  · skip
    refine J.aload_nR dL_law_1052 rfl ?_
    refine J.iconst (v := 0) dL_law_1053 (by decide) ?_
    refine J.laload (j := 0) dL_law_1054 ho3 rfl (by decide) (by decide) ?_
    refine J.iload dL_law_1055 rfl ?_
    refine J.i2l dL_law_1057 ?_
    refine J.lcmp dL_law_1058 ?_
    refine J.if_eq (tgt := 1064) dL_law_1059 (by decide) (fun c_1059 => ?_) (fun c_1059 => absurd (by rw [hf1 c_1049]; exact lg_cmp_self _) c_1059)
    refine J.goto (tgt := 1092) dL_law_1064 (by decide) ?_
    refine J.drop (i := 5) (L' := [some (.ref b), some (.ref (S 0)), some (.ref m), some (.ref ou), some (.int (nI (6 * t))), none, some (.int ((opFam N B T R (xs (6 * t + 1)) (xs (6 * t + 2))).1))]) rfl ?_
    refine J.drop (i := 6) (L' := [some (.ref b), some (.ref (S 0)), some (.ref m), some (.ref ou), some (.int (nI (6 * t))), none, none]) rfl ?_
    exact hc _ _ _ _ _ _ _ _ _ _ (lw_next (o := (opFam N B T R (xs (6 * t + 1)) (xs (6 * t + 2)))) h3 ⟨A1, L1, hR1⟩ hm3 hM1 (g_fam hW hs (xs (6 * t + 1)) (xs (6 * t + 2))) ho3 hd1)

theorem lc_count {Λ : kL} {X : kX} {Z : State → Prop} (hok : kOK Λ) (hX : kXo Λ) (hSt : kSt Λ) (hSh : kSh Λ) (hJ : kJd Λ) {b n : Nat} {xs : Nat → Int32} (hscr : va_T .int b n (fun j => .int (xs j)) (kA Λ) (kS Λ) (kS Λ).heap) (hn : n ≤ 3072) {S : Nat → Nat} {m : Nat} {Am : Nat → Nat} {ou : Nat} (hS : cInj S) (hA : mInj Am) (hsep : sepS S m Am ou) {k t : Nat} (hc : ∀ (σ' : kh) (G' : Nat → kc) (D' : kh) (I' : Nat → Int32) (F' : Nat → Nat → Int32) (f' : Nat → Int64) (N' : Nat → Int32) (B' : Nat → List Int32) (T' R' : Nat → List (List Int32)), lwI Λ S m Am ou σ' G' D' I' F' f' N' B' T' R' → J Λ X mL_law 601024 7293034 Z (8 * k) (5200 * k) σ' 1092 [some (.ref b), some (.ref (S 0)), some (.ref m), some (.ref ou), some (.int (nI (6 * t))), none, none] []) {σ : kh} {G : Nat → kc} {D : kh} {I : Nat → Int32} {F : Nat → Nat → Int32} {f : Nat → Int64} {N : Nat → Int32} {B : Nat → List Int32} {T R : Nat → List (List Int32)} (hI : lwI Λ S m Am ou σ G D I F f N B T R) (h6 : 6 * t + 6 ≤ n) : J Λ X mL_law 601024 7293034 Z (8 * k + 8) (5200 * k + 5200) σ 1067 [some (.ref b), some (.ref (S 0)), some (.ref m), some (.ref ou), some (.int (nI (6 * t))), none, none] [] := by
  obtain ⟨h, ⟨A, L, hR⟩, hm, hM, hW, hs, ho, hd⟩ := hI
  refine J.aload_nR dL_law_1067 rfl ?_
  refine J.aload_nR dL_law_1068 rfl ?_
  refine J.iload dL_law_1069 rfl ?_
  refine J.iconst (v := 1) dL_law_1071 (by decide) ?_
  refine J.iadd dL_law_1072 ?_
  rw [show (nI (6 * t)) + 1 = nI (6 * t + 1) from (nI_ad (6 * t) 1)]
  refine J.ti (j := 6 * t + 1) dL_law_1073 hscr rfl (by omega) (by omega) ?_
  refine J.callV0 [.int (xs (6 * t + 1))] dL_law_1074 mdX11_count imX11_count seX11_count kc_12 (h.at (k := 0) rfl hR.2.2.1) lk_L_141 rfl rfl rfl rfl (q_count hS hR hW (xs (6 * t + 1)) σ h) ?_
  rintro _ σ1 ⟨G1, D1, ⟨rfl, A1, L1, hR1⟩, h1, hfr⟩
  have hm1 := lw_m hsep hd hfr.w hm
  have ho1 := lw_o hsep hd hfr ho
  have hd1 := lw_d hd (hfr.w (ou := ou)) hm ho
  refine J.aload_nR dL_law_1077 rfl ?_
  refine J.aload_nR dL_law_1078 rfl ?_
  refine J.iload dL_law_1079 rfl ?_
  refine J.iconst (v := 1) dL_law_1081 (by decide) ?_
  refine J.iadd dL_law_1082 ?_
  rw [show (nI (6 * t)) + 1 = nI (6 * t + 1) from (nI_ad (6 * t) 1)]
  refine J.ti (j := 6 * t + 1) dL_law_1083 hscr rfl (by omega) (by omega) ?_
  refine J.callV0 [.int (xs (6 * t + 1))] dL_law_1084 mdX12_count imX12_count seX12_count kc_13 hm1.1 lk_L_144 rfl rfl rfl rfl (p_count hA hM hW (xs (6 * t + 1)) σ1 hm1) ?_
  rintro _ σ2 ⟨I1, F1, ⟨rfl, e0, hM1⟩, hm2, hmf⟩
  have h2 := lw_c hsep hd1 hmf h1
  have ho2 := lw_mo hsep hmf ho1
  refine J.icmp_eq (tgt := 1092) dL_law_1087 (by decide) (fun c_1087 => ?_) (fun c_1087 => absurd rfl c_1087)
  refine J.less (bc' := 8 * k) (bs' := 5200 * k) (by omega) (by omega) ?_
  exact hc _ _ _ _ _ _ _ _ _ _ (lw_next (o := (opCnt N B T R (xs (6 * t + 1)))) h2 ⟨A1, L1, hR1⟩ hm2 hM1 (g_cnt hW hs (xs (6 * t + 1))) ho2 hd1)
