/-! the reference: who asks, and for what -/
def fv (g : fvs) (k : Nat) : List Int32 := (g k).getD []
theorem vrl.has {F : Nat → Nat → Int32} {fl : Nat} {g : fvs} (h : vrl F fl g) (hf : fl ≤ 2000) {k : Nat} (hk : k < 13) : decide (0 < F 65 k) = decide (0 < (fv g k).length) := by
  rcases h k hk with ⟨h1, h2⟩ | ⟨v, i, h1, -, h3, h4, -⟩
  · rw [h2, fv, h1]; rfl
  · rw [h3, fv, h1]
    show decide (0 < nI v.length) = decide (0 < v.length)
    by_cases h9 : 0 < v.length
    · rw [decide_eq_true h9, decide_eq_true (Int32.not_le.mp (nI_nle h9 (by omega)))]
    · rw [decide_eq_false h9, decide_eq_false (by rw [show v.length = 0 by omega]; decide)]
theorem vrl.at {F : Nat → Nat → Int32} {fl : Nat} {g : fvs} (h : vrl F fl g) {k : Nat} (hk : k < 13) (h0 : 0 < (fv g k).length) : ∃ i, F 64 k = nI i ∧ F 65 k = nI (fv g k).length ∧ i + (fv g k).length ≤ fl ∧ tl (F 63) i (fv g k).length = fv g k ∧ ∀ x ∈ fv g k, b8 x = x := by
  rcases h k hk with ⟨h1, h2⟩ | ⟨v, i, h1, h2, h3, h4, h5, h6⟩
  · rw [fv, h1] at h0
    exact absurd h0 (Nat.lt_irrefl 0)
  · have e : fv g k = v := by rw [fv, h1]; rfl
    rw [e]
    exact ⟨i, h2, h3, h4, h5, h6⟩
/-- texts in a row of bytes, w places each -/
def mTx (F : Nat → Nat → Int32) (kb ks w : Nat) (T : List (List Int32)) : Prop := ∀ k, k < T.length → F ks k = nI (T.getD k []).length ∧ (T.getD k []).length ≤ w ∧ tl (F kb) (w * k) (T.getD k []).length = T.getD k []
/-- the last place of which p holds -/
def lsti (p : Nat → Bool) : Nat → Int32
  | 0 => -1
  | k + 1 => if p k = true then nI k else lsti p k
theorem lsti_none {p : Nat → Bool} {n : Nat} (h : ∀ k, k < n → p k = false) : lsti p n = -1 := by
  induction n with
  | zero => rfl
  | succ n ih =>
    rw [lsti, h n (by omega), if_neg (by decide)]
    exact ih fun k hk => h k (by omega)
theorem lsti_one {p : Nat → Bool} {n k : Nat} (hk : k < n) (hp : p k = true) (hu : ∀ j, j < n → p j = true → j = k) : lsti p n = nI k := by
  induction n with
  | zero => omega
  | succ n ih =>
    rw [lsti]
    by_cases e : n = k
    · subst e; rw [if_pos hp]
    · rw [if_neg (fun q => e (hu n (by omega) q))]
      exact ih (by omega) fun j hj => hu j (by omega)
theorem lsti_fst {p : Nat → Bool} {n : Nat} (hu : ∀ i j, i < n → j < n → p i = true → p j = true → i = j) : lsti p n = if fsti p n 0 < n then nI (fsti p n 0) else -1 := by
  have hg := fsti_ge (p := p) (k := n) (i := 0)
  by_cases h : fsti p n 0 < n
  · rw [if_pos h]
    have hy := fsti_yes (p := p) (k := n) (i := 0) (by omega)
    exact lsti_one h hy fun j hj hp => hu j _ hj h hp hy
  · rw [if_neg h]
    exact lsti_none fun k hk => fsti_no (p := p) (k := n) (i := 0) (by omega) k (Nat.zero_le _) (by omega)
/-- which of the WORDS, as many as there are if none -/
def fnd (T : List (List Int32)) (v : List Int32) : Nat := fsti (fun k => decide (v = T.getD k [])) T.length 0
def noDup (T : List (List Int32)) : Prop := ∀ i j, i < T.length → j < T.length → T.getD i [] = T.getD j [] → i = j
theorem lsti_fnd {T : List (List Int32)} (h : noDup T) (v : List Int32) : lsti (fun k => decide (v = T.getD k [])) T.length = if fnd T v < T.length then nI (fnd T v) else -1 := lsti_fst fun i j hi hj h1 h2 => h i j hi hj ((of_decide_eq_true h1).symm.trans (of_decide_eq_true h2))
/-- the SCOPES that a text names -/
def scpI (T : List (List Int32)) (f : Nat → Int32) (e p : Nat) (bits : Int32) : Option Int32 :=
  if h : e ≤ p then some bits
  else if atI f 32 p e = p then scpI T f e (p + 1) bits
  else if fnd T (tl f p (atI f 32 p e - p)) < T.length then scpI T f e (atI f 32 p e + 1) (bits ||| (1 <<< (nI (fnd T (tl f p (atI f 32 p e - p))) &&& 31)))
  else none
termination_by e - p
decreasing_by
  · omega
  · have := atI_ge f 32 (p := p) (e := e) (by omega)
    omega
section SCP
variable {T : List (List Int32)} {f : Nat → Int32} {e p : Nat} {bits : Int32}
theorem scpI_end (h : e ≤ p) : scpI T f e p bits = some bits := by rw [scpI, dif_pos h]
theorem scpI_skip (h : p < e) (h1 : atI f 32 p e = p) : scpI T f e p bits = scpI T f e (p + 1) bits := by rw [scpI, dif_neg (by omega), if_pos h1]
theorem scpI_go (h : p < e) (h1 : ¬ atI f 32 p e = p) (h2 : fnd T (tl f p (atI f 32 p e - p)) < T.length) : scpI T f e p bits = scpI T f e (atI f 32 p e + 1) (bits ||| (1 <<< (nI (fnd T (tl f p (atI f 32 p e - p))) &&& 31))) := by rw [scpI, dif_neg (by omega), if_neg h1, if_pos h2]
theorem scpI_no (h : p < e) (h1 : ¬ atI f 32 p e = p) (h2 : ¬ fnd T (tl f p (atI f 32 p e - p)) < T.length) : scpI T f e p bits = none := by rw [scpI, dif_neg (by omega), if_neg h1, if_neg h2]
end SCP
def oI (o : Option Int32) : Int32 := o.getD (-1)

theorem m_clientOf {Λ : kL} {m : Nat} {A : Nat → Nat} {I : Nat → Int32} {F : Nat → Nat → Int32} (hA : mInj A) {T : List (List Int32)} (h20 : I 20 = nI T.length) (hT : T.length ≤ 8) (hid : mTx F 10 11 20 T) {g : fvs} (hv : vrl F 2000 g) : mCt Λ mX12_clientOf m A [.ref m] I F (fun r I' F' => r = some (.int (if 0 < (fv g 1).length then lsti (fun k => decide (fv g 1 = T.getD k [])) T.length else -1)) ∧ I' = I ∧ F' = F) := by
  refine mCt.of hA pn_X12 [some (.ref m), none, none] rfl (Nat.le_of_ble_eq_true rfl) fun X => ?_
  refine M.iconst (v := (-1)) dX12_clientOf_0 (by decide) ?_
  refine M.istore_n (L' := [some (.ref m), some (.int (-1)), none]) dX12_clientOf_1 (by decide) rfl rfl ?_
  refine M.iconst (v := 0) dX12_clientOf_2 (by decide) ?_
  refine M.istore_n (L' := [some (.ref m), some (.int (-1)), some (.int 0)]) dX12_clientOf_3 (by decide) rfl rfl ?_
  have cut_4 : ∀ (k_4 : Nat) (x : Nat) (c : Int32), (x ≤ T.length) → (T.length + 1 ≤ x + k_4) → (c = (if 0 < (fv g 1).length then lsti (fun k => decide (fv g 1 = T.getD k [])) x else -1)) → M Λ X mX12_clientOf m A (fun r I' F' => r = some (.int (if 0 < (fv g 1).length then lsti (fun k => decide (fv g 1 = T.getD k [])) T.length else -1)) ∧ I' = I ∧ F' = F) I F 4 [some (.ref m), some (.int c), some (.int (nI x))] [] := by
    intro k_4
    induction k_4 with
    | zero => intro x c h1 h2 hc; exact absurd h2 (by omega)
    | succ k_4 ih_4 =>
      intro x c h1 h2 hc
      refine M.iload_n dX12_clientOf_4 rfl ?_
      refine M.aload_nR dX12_clientOf_5 rfl ?_
      refine M.geti (v := nI T.length) dX12_clientOf_6 fl_X12_257 rfl rfl h20 ?_
      refine M.icmp_ge (tgt := 64) dX12_clientOf_9 (by decide) (fun c_9 => ?_) (fun c_9 => ?_)
      · skip
        refine M.iload_n dX12_clientOf_64 rfl ?_
        refine M.iret dX12_clientOf_65 rfl ?_
        refine ⟨congrArg (fun z => some (Value.int z)) ?_, rfl, rfl⟩
        first
          | (have e1 := nI_gen c_9 h1 (by omega); subst e1; exact hc)
          | (have h0 := of_decide_eq_false ((bI_eq0 _).mp c_17); rw [hc, if_neg h0, if_neg h0])
      · skip
        have lt_x : x < T.length := nI_ltn c_9 (by omega) (by omega)
        have hx := hid x lt_x
        refine M.aload_nR dX12_clientOf_12 rfl ?_
        refine M.iconst (v := 1) dX12_clientOf_13 (by decide) ?_
        refine M.callV [.int 1] dX12_clientOf_14 mdX12_has imX12_has seX12_has lk_X12_260 rfl rfl rfl rfl (show mCt Λ mX12_has m A [.ref m, .int (nI 1)] I F (fun r I' F' => r = some (.int (bI (decide (0 < (fv g 1).length)))) ∧ I' = I ∧ F' = F) from by have h := m_has (Λ := Λ) (m := m) (I := I) hA (F := F) (k := 1) (by decide); rw [hv.has (by omega) (by decide)] at h; exact h) ?_
        rintro _ I9 F9 ⟨rfl, e9, e8⟩
        have e9 := e9.symm; subst e9; have e8 := e8.symm; subst e8
        refine M.if_eq (tgt := 64) dX12_clientOf_17 (by decide) (fun c_17 => ?_) (fun c_17 => ?_)
        · skip
          refine M.iload_n dX12_clientOf_64 rfl ?_
          refine M.iret dX12_clientOf_65 rfl ?_
          refine ⟨congrArg (fun z => some (Value.int z)) ?_, rfl, rfl⟩
          first
            | (have e1 := nI_gen c_9 h1 (by omega); subst e1; exact hc)
            | (have h0 := of_decide_eq_false ((bI_eq0 _).mp c_17); rw [hc, if_neg h0, if_neg h0])
        · skip
          have h0 := of_decide_eq_true (bt1 c_17)
          obtain ⟨i, a1, a2, a3, a4, a5⟩ := hv.at (k := 1) (by decide) h0
          refine M.aload_nR dX12_clientOf_20 rfl ?_
          refine M.getr dX12_clientOf_21 fl_X12_155 rfl rfl ?_
          refine M.aload_nR dX12_clientOf_24 rfl ?_
          refine M.getr dX12_clientOf_25 fl_X12_158 rfl rfl ?_
          refine M.iconst (v := 1) dX12_clientOf_28 (by decide) ?_
          refine M.iald (k9 := 64) (j := 1) (g := F 64) dX12_clientOf_29 rfl rfl rfl rfl (show 1 < 13 by decide) ?_
          rw [a1]
          refine M.aload_nR dX12_clientOf_30 rfl ?_
          refine M.getr dX12_clientOf_31 fl_X12_161 rfl rfl ?_
          refine M.iconst (v := 1) dX12_clientOf_34 (by decide) ?_
          refine M.iald (k9 := 65) (j := 1) (g := F 65) dX12_clientOf_35 rfl rfl rfl rfl (show 1 < 13 by decide) ?_
          rw [a2]
          refine M.aload_nR dX12_clientOf_36 rfl ?_
          refine M.getr dX12_clientOf_37 fl_X12_23 rfl rfl ?_
          refine M.bipush (v := 20) dX12_clientOf_40 (by decide) ?_
          refine M.iload_n dX12_clientOf_42 rfl ?_
          refine M.imul dX12_clientOf_43 ?_
          rw [show 20 * (nI x) = nI (20 * x) from nI_mulc 20 x]
          refine M.aload_nR dX12_clientOf_44 rfl ?_
          refine M.getr dX12_clientOf_45 fl_X12_26 rfl rfl ?_
          refine M.iload_n dX12_clientOf_48 rfl ?_
          refine M.iald (k9 := 11) (j := x) (g := F 11) dX12_clientOf_49 rfl rfl rfl rfl (show x < 8 by omega) ?_
          rw [hx.1]
          refine M.callS [.ref (A 63), .int (nI i), .int (nI (fv g 1).length), .ref (A 10), .int (nI (20 * x)), .int (nI (T.getD x []).length)] dX12_clientOf_50 mdX12_isLike ssX12_isLike lk_X12_264 rfl rfl rfl rfl (show mCt Λ mX12_isLike m A [.ref (A 63), .int (nI i), .int (nI (fv g 1).length), .ref (A 10), .int (nI (20 * x)), .int (nI (T.getD x []).length)] I F (fun r I' F' => r = some (.int (bI (decide (fv g 1 = T.getD x [])))) ∧ I' = I ∧ F' = F) from by have h := m_isLike (Λ := Λ) (m := m) (I := I) hA (F := F) (k1 := 63) (k2 := 10) rfl rfl rfl rfl (i := i) (n := (fv g 1).length) (j := 20 * x) (p := (T.getD x []).length) (show i + (fv g 1).length ≤ 2000 by omega) (show 20 * x + (T.getD x []).length ≤ 160 by omega); rw [a4, hx.2.2] at h; exact h) ?_
          rintro _ I9 F9 ⟨rfl, e9, e8⟩
          have e9 := e9.symm; subst e9; have e8 := e8.symm; subst e8
          refine M.if_eq (tgt := 58) dX12_clientOf_53 (by decide) (fun c_53 => ?_) (fun c_53 => ?_)
          · skip
            refine M.iinc (v := nI (x + 1)) (L' := [some (.ref m), some (.int c), some (.int (nI (x + 1)))]) dX12_clientOf_58 rfl (nI_1 x) (by decide) rfl rfl ?_
            refine M.goto (tgt := 4) dX12_clientOf_61 (by decide) ?_
            exact ih_4 (x + 1) _ (by omega) (by omega) (by rw [hc, if_pos h0, if_pos h0, lsti, if_neg (by rw [(bI_eq0 _).mp c_53]; decide)])
          · skip
            refine M.iload_n dX12_clientOf_56 rfl ?_
            refine M.istore_n (L' := [some (.ref m), some (.int (nI x)), some (.int (nI x))]) dX12_clientOf_57 (by decide) rfl rfl ?_
            refine M.iinc (v := nI (x + 1)) (L' := [some (.ref m), some (.int (nI x)), some (.int (nI (x + 1)))]) dX12_clientOf_58 rfl (nI_1 x) (by decide) rfl rfl ?_
            refine M.goto (tgt := 4) dX12_clientOf_61 (by decide) ?_
            exact ih_4 (x + 1) _ (by omega) (by omega) (by rw [if_pos h0, lsti, if_pos (bt1 c_53)])
  exact cut_4 (T.length + 1) 0 (-1) (by omega) (by omega) (by by_cases h : 0 < (fv g 1).length; rw [if_pos h]; rfl; rw [if_neg h])

theorem m_scopesOf {Λ : kL} {m : Nat} {A : Nat → Nat} {I : Nat → Int32} {F : Nat → Nat → Int32} (hA : mInj A) {T : List (List Int32)} (h9 : I 9 = nI T.length) (hT : T.length ≤ 8) (hws : mTx F 7 8 12 T) (hnd : noDup T) {i n : Nat} (h64 : F 64 3 = nI i) (h65 : F 65 3 = nI n) (hin : i + n ≤ 2000) : mCt Λ mX12_scopesOf m A [.ref m] I F (fun r I' F' => r = some (.int (oI (scpI T (F 63) (i + n) i 0))) ∧ I' = I ∧ F' = F) := by
  refine mCt.of hA pn_X12 [some (.ref m), none, none, none, none, none, none] rfl (Nat.le_of_ble_eq_true rfl) fun X => ?_
  refine M.iconst (v := 0) dX12_scopesOf_0 (by decide) ?_
  refine M.istore_n (L' := [some (.ref m), some (.int 0), none, none, none, none, none]) dX12_scopesOf_1 (by decide) rfl rfl ?_
  refine M.aload_nR dX12_scopesOf_2 rfl ?_
  refine M.getr dX12_scopesOf_3 fl_X12_158 rfl rfl ?_
  refine M.iconst (v := 3) dX12_scopesOf_6 (by decide) ?_
  refine M.iald (k9 := 64) (j := 3) (g := F 64) dX12_scopesOf_7 rfl rfl rfl rfl (show 3 < 13 by decide) ?_
  rw [h64]
  refine M.istore_n (L' := [some (.ref m), some (.int 0), some (.int (nI i)), none, none, none, none]) dX12_scopesOf_8 (by decide) rfl rfl ?_
  refine M.iload_n dX12_scopesOf_9 rfl ?_
  refine M.aload_nR dX12_scopesOf_10 rfl ?_
  refine M.getr dX12_scopesOf_11 fl_X12_161 rfl rfl ?_
  refine M.iconst (v := 3) dX12_scopesOf_14 (by decide) ?_
  refine M.iald (k9 := 65) (j := 3) (g := F 65) dX12_scopesOf_15 rfl rfl rfl rfl (show 3 < 13 by decide) ?_
  rw [h65]
  refine M.iadd dX12_scopesOf_16 ?_
  rw [show (nI i) + (nI n) = nI (i + n) from nI_add i n]
  refine M.istore_n (L' := [some (.ref m), some (.int 0), some (.int (nI i)), some (.int (nI (i + n))), none, none, none]) dX12_scopesOf_17 (by decide) rfl rfl ?_
  have cut_18 : ∀ (k_18 : Nat) (p : Nat) (bits : Int32), (i ≤ p) → (p ≤ i + n + 1) → (i + n + 2 ≤ p + k_18) → (scpI T (F 63) (i + n) i 0 = scpI T (F 63) (i + n) p bits) → M Λ X mX12_scopesOf m A (fun r I' F' => r = some (.int (oI (scpI T (F 63) (i + n) i 0))) ∧ I' = I ∧ F' = F) I F 18 [some (.ref m), some (.int bits), some (.int (nI p)), some (.int (nI (i + n))), none, none, none] [] := by
    intro k_18
    induction k_18 with
    | zero => intro p bits h1 h1b h2 hsc; exact absurd h2 (by omega)
    | succ k_18 ih_18 =>
      intro p bits h1 h1b h2 hsc
      refine M.iload_n dX12_scopesOf_18 rfl ?_
      refine M.iload_n dX12_scopesOf_19 rfl ?_
      refine M.icmp_ge (tgt := 131) dX12_scopesOf_20 (by decide) (fun c_20 => ?_) (fun c_20 => ?_)
      · skip
        have e1 : i + n ≤ p := (nI_leI (by omega) (by omega)).mp c_20
        refine M.iload_n dX12_scopesOf_131 rfl ?_
        refine M.iret dX12_scopesOf_132 rfl ?_
        exact ⟨by rw [hsc, scpI_end e1]; rfl, rfl, rfl⟩
      · skip
        have e1 : p < i + n := nI_ltn c_20 (by omega) (by omega)
        have hq := atI_ge (F 63) 32 (p := p) (e := i + n) (by omega)
        generalize eq9 : atI (F 63) 32 p (i + n) = q at hq
        refine M.iload_n dX12_scopesOf_23 rfl ?_
        refine M.istore (L' := [some (.ref m), some (.int bits), some (.int (nI p)), some (.int (nI (i + n))), some (.int (nI p)), none, none]) dX12_scopesOf_24 (by decide) rfl rfl ?_
        have cut_26 : ∀ (k_26 : Nat) (x : Nat), (p ≤ x) → (x ≤ q) → (q + 1 ≤ x + k_26) → M Λ X mX12_scopesOf m A (fun r I' F' => r = some (.int (oI (scpI T (F 63) (i + n) i 0))) ∧ I' = I ∧ F' = F) I F 26 [some (.ref m), some (.int bits), some (.int (nI x)), some (.int (nI (i + n))), some (.int (nI p)), none, none] [] := by
          intro k_26
          induction k_26 with
          | zero => intro x h3 h4 h5; exact absurd h5 (by omega)
          | succ k_26 ih_26 =>
            intro x h3 h4 h5
            refine M.iload_n dX12_scopesOf_26 rfl ?_
            refine M.iload_n dX12_scopesOf_27 rfl ?_
            refine M.icmp_ge (tgt := 48) dX12_scopesOf_28 (by decide) (fun c_28 => ?_) (fun c_28 => ?_)
            · skip
              have e2 : i + n ≤ x := (nI_leI (by omega) (by omega)).mp c_28
              have e3 : x = q := by omega
              have e3 := e3.symm; subst e3
              refine M.iload_n dX12_scopesOf_48 rfl ?_
              refine M.iload dX12_scopesOf_49 rfl ?_
              refine M.icmp_le (tgt := 125) dX12_scopesOf_51 (by decide) (fun c_51 => ?_) (fun c_51 => ?_)
              · skip
                have e4 : q ≤ p := (nI_leI (by omega) (by omega)).mp c_51
                refine M.iinc (v := nI (q + 1)) (L' := [some (.ref m), some (.int bits), some (.int (nI (q + 1))), some (.int (nI (i + n))), some (.int (nI p)), none, none]) dX12_scopesOf_125 rfl (nI_1 q) (by decide) rfl rfl ?_
                refine M.goto (tgt := 18) dX12_scopesOf_128 (by decide) ?_
                refine M.drop (i := 4) (L' := [some (.ref m), some (.int bits), some (.int (nI (q + 1))), some (.int (nI (i + n))), none, none, none]) rfl ?_
                exact ih_18 (q + 1) bits (by omega) (by omega) (by omega) (by rw [hsc, scpI_skip (by omega) (by rw [eq9]; omega), show p + 1 = q + 1 by omega])
              · skip
                have e4 : p < q := nI_ltn (fun z => c_51 z) (by omega) (by omega)
                refine M.iconst (v := (-1)) dX12_scopesOf_54 (by decide) ?_
                refine M.istore (L' := [some (.ref m), some (.int bits), some (.int (nI q)), some (.int (nI (i + n))), some (.int (nI p)), some (.int (-1)), none]) dX12_scopesOf_55 (by decide) rfl rfl ?_
                refine M.iconst (v := 0) dX12_scopesOf_57 (by decide) ?_
                refine M.istore (L' := [some (.ref m), some (.int bits), some (.int (nI q)), some (.int (nI (i + n))), some (.int (nI p)), some (.int (-1)), some (.int 0)]) dX12_scopesOf_58 (by decide) rfl rfl ?_
                have cut_60 : ∀ (k_60 : Nat) (z : Nat), (z ≤ T.length) → (T.length + 1 ≤ z + k_60) → M Λ X mX12_scopesOf m A (fun r I' F' => r = some (.int (oI (scpI T (F 63) (i + n) i 0))) ∧ I' = I ∧ F' = F) I F 60 [some (.ref m), some (.int bits), some (.int (nI q)), some (.int (nI (i + n))), some (.int (nI p)), some (.int (lsti (fun k => decide (tl (F 63) p (q - p) = T.getD k [])) z)), some (.int (nI z))] [] := by
                  intro k_60
                  induction k_60 with
                  | zero => intro z h6 h7; exact absurd h7 (by omega)
                  | succ k_60 ih_60 =>
                    intro z h6 h7
                    refine M.iload dX12_scopesOf_60 rfl ?_
                    refine M.aload_nR dX12_scopesOf_62 rfl ?_
                    refine M.geti (v := nI T.length) dX12_scopesOf_63 fl_X12_268 rfl rfl h9 ?_
                    refine M.icmp_ge (tgt := 111) dX12_scopesOf_66 (by decide) (fun c_66 => ?_) (fun c_66 => ?_)
                    · skip
                      have e5 := nI_gen c_66 h6 (by omega); subst e5
                      have hl9 := lsti_fnd hnd (tl (F 63) p (q - p))
                      refine M.iload dX12_scopesOf_111 rfl ?_
                      refine M.if_ge (tgt := 118) dX12_scopesOf_113 (by decide) (fun c_113 => ?_) (fun c_113 => ?_)
                      · skip
                        have hf : fnd T (tl (F 63) p (q - p)) < T.length := by
                          by_cases h9 : fnd T (tl (F 63) p (q - p)) < T.length
                          · exact h9
                          · rw [hl9, if_neg h9] at c_113; exact absurd c_113 (by decide)
                        rw [hl9, if_pos hf]
                        skip
                        refine M.iload_n dX12_scopesOf_118 rfl ?_
                        refine M.iconst (v := 1) dX12_scopesOf_119 (by decide) ?_
                        refine M.iload dX12_scopesOf_120 rfl ?_
                        refine M.ishl dX12_scopesOf_122 ?_
                        refine M.ior dX12_scopesOf_123 ?_
                        refine M.istore_n (L' := [some (.ref m), some (.int (bits ||| (1 <<< ((nI (fnd T (tl (F 63) p (q - p)))) &&& 31)))), some (.int (nI q)), some (.int (nI (i + n))), some (.int (nI p)), some (.int (nI (fnd T (tl (F 63) p (q - p))))), some (.int (nI T.length))]) dX12_scopesOf_124 (by decide) rfl rfl ?_
                        refine M.iinc (v := nI (q + 1)) (L' := [some (.ref m), some (.int (bits ||| (1 <<< ((nI (fnd T (tl (F 63) p (q - p)))) &&& 31)))), some (.int (nI (q + 1))), some (.int (nI (i + n))), some (.int (nI p)), some (.int (nI (fnd T (tl (F 63) p (q - p))))), some (.int (nI T.length))]) dX12_scopesOf_125 rfl (nI_1 q) (by decide) rfl rfl ?_
                        refine M.goto (tgt := 18) dX12_scopesOf_128 (by decide) ?_
                        refine M.drop (i := 4) (L' := [some (.ref m), some (.int (bits ||| (1 <<< ((nI (fnd T (tl (F 63) p (q - p)))) &&& 31)))), some (.int (nI (q + 1))), some (.int (nI (i + n))), none, some (.int (nI (fnd T (tl (F 63) p (q - p))))), some (.int (nI T.length))]) rfl ?_
                        refine M.drop (i := 5) (L' := [some (.ref m), some (.int (bits ||| (1 <<< ((nI (fnd T (tl (F 63) p (q - p)))) &&& 31)))), some (.int (nI (q + 1))), some (.int (nI (i + n))), none, none, some (.int (nI T.length))]) rfl ?_
                        refine M.drop (i := 6) (L' := [some (.ref m), some (.int (bits ||| (1 <<< ((nI (fnd T (tl (F 63) p (q - p)))) &&& 31)))), some (.int (nI (q + 1))), some (.int (nI (i + n))), none, none, none]) rfl ?_
                        exact ih_18 (q + 1) _ (by omega) (by omega) (by omega) (by rw [hsc, scpI_go (by omega) (by rw [eq9]; omega) (by rw [eq9]; exact hf), eq9])
                      · skip
                        have hf : ¬ fnd T (tl (F 63) p (q - p)) < T.length := by
                          intro h9
                          rw [hl9, if_pos h9] at c_113
                          exact c_113 (nI_pos' (by omega))
                        refine M.iconst (v := (-1)) dX12_scopesOf_116 (by decide) ?_
                        refine M.iret dX12_scopesOf_117 rfl ?_
                        exact ⟨by rw [hsc, scpI_no (by omega) (by rw [eq9]; omega) (by rw [eq9]; exact hf)]; rfl, rfl, rfl⟩
                    · skip
                      have e5 : z < T.length := nI_ltn c_66 (by omega) (by omega)
                      have hz := hws z e5
                      refine M.aload_nR dX12_scopesOf_69 rfl ?_
                      refine M.getr dX12_scopesOf_70 fl_X12_155 rfl rfl ?_
                      refine M.iload dX12_scopesOf_73 rfl ?_
                      refine M.iload_n dX12_scopesOf_75 rfl ?_
                      refine M.iload dX12_scopesOf_76 rfl ?_
                      refine M.isub dX12_scopesOf_78 ?_
                      rw [show (nI q) - (nI p) = nI (q - p) from (by have h := nI_subl p (q - p); rwa [show p + (q - p) = q by omega] at h)]
                      refine M.aload_nR dX12_scopesOf_79 rfl ?_
                      refine M.getr dX12_scopesOf_80 fl_X12_16 rfl rfl ?_
                      refine M.bipush (v := 12) dX12_scopesOf_83 (by decide) ?_
                      refine M.iload dX12_scopesOf_85 rfl ?_
                      refine M.imul dX12_scopesOf_87 ?_
                      rw [show 12 * (nI z) = nI (12 * z) from nI_mulc 12 z]
                      refine M.aload_nR dX12_scopesOf_88 rfl ?_
                      refine M.getr dX12_scopesOf_89 fl_X12_19 rfl rfl ?_
                      refine M.iload dX12_scopesOf_92 rfl ?_
                      refine M.iald (k9 := 8) (j := z) (g := F 8) dX12_scopesOf_94 rfl rfl rfl rfl (show z < 8 by omega) ?_
                      rw [hz.1]
                      refine M.callS [.ref (A 63), .int (nI p), .int (nI (q - p)), .ref (A 7), .int (nI (12 * z)), .int (nI (T.getD z []).length)] dX12_scopesOf_95 mdX12_isLike ssX12_isLike lk_X12_264 rfl rfl rfl rfl (show mCt Λ mX12_isLike m A [.ref (A 63), .int (nI p), .int (nI (q - p)), .ref (A 7), .int (nI (12 * z)), .int (nI (T.getD z []).length)] I F (fun r I' F' => r = some (.int (bI (decide (tl (F 63) p (q - p) = T.getD z [])))) ∧ I' = I ∧ F' = F) from by have h := m_isLike (Λ := Λ) (m := m) (I := I) hA (F := F) (k1 := 63) (k2 := 7) rfl rfl rfl rfl (i := p) (n := q - p) (j := 12 * z) (p := (T.getD z []).length) (show p + (q - p) ≤ 2000 by omega) (show 12 * z + (T.getD z []).length ≤ 96 by omega); rw [hz.2.2] at h; exact h) ?_
                      rintro _ I9 F9 ⟨rfl, e9, e8⟩
                      have e9 := e9.symm; subst e9; have e8 := e8.symm; subst e8
                      refine M.if_eq (tgt := 105) dX12_scopesOf_98 (by decide) (fun c_98 => ?_) (fun c_98 => ?_)
                      · skip
                        refine M.iinc (v := nI (z + 1)) (L' := [some (.ref m), some (.int bits), some (.int (nI q)), some (.int (nI (i + n))), some (.int (nI p)), some (.int (lsti (fun k => decide (tl (F 63) p (q - p) = T.getD k [])) z)), some (.int (nI (z + 1)))]) dX12_scopesOf_105 rfl (nI_1 z) (by decide) rfl rfl ?_
                        refine M.goto (tgt := 60) dX12_scopesOf_108 (by decide) ?_
                        have t9 := ih_60 (z + 1) (by omega) (by omega)
                        rw [lsti] at t9
                        rw [if_neg (by rw [(bI_eq0 _).mp c_98]; decide)] at t9
                        exact t9
                      · skip
                        refine M.iload dX12_scopesOf_101 rfl ?_
                        refine M.istore (L' := [some (.ref m), some (.int bits), some (.int (nI q)), some (.int (nI (i + n))), some (.int (nI p)), some (.int (nI z)), some (.int (nI z))]) dX12_scopesOf_103 (by decide) rfl rfl ?_
                        refine M.iinc (v := nI (z + 1)) (L' := [some (.ref m), some (.int bits), some (.int (nI q)), some (.int (nI (i + n))), some (.int (nI p)), some (.int (nI z)), some (.int (nI (z + 1)))]) dX12_scopesOf_105 rfl (nI_1 z) (by decide) rfl rfl ?_
                        refine M.goto (tgt := 60) dX12_scopesOf_108 (by decide) ?_
                        have t9 := ih_60 (z + 1) (by omega) (by omega)
                        rw [lsti] at t9
                        rw [if_pos (bt1 c_98)] at t9
                        exact t9
                exact cut_60 (T.length + 1) 0 (by omega) (by omega)
            · skip
              have e2 : x < i + n := nI_ltn c_28 (by omega) (by omega)
              refine M.aload_nR dX12_scopesOf_31 rfl ?_
              refine M.getr dX12_scopesOf_32 fl_X12_155 rfl rfl ?_
              refine M.iload_n dX12_scopesOf_35 rfl ?_
              refine M.bald (k9 := 63) (j := x) (g := F 63) dX12_scopesOf_36 rfl rfl rfl rfl (show x < 2000 by omega) ?_
              refine M.bipush (v := 32) dX12_scopesOf_37 (by decide) ?_
              refine M.icmp_eq (tgt := 48) dX12_scopesOf_39 (by decide) (fun c_39 => ?_) (fun c_39 => ?_)
              · skip
                have e3 : x = q := by
                  rcases Nat.lt_or_eq_of_le h4 with h9 | h9
                  · exact absurd c_39 (atI_lt (e := i + n) h3 (by rw [eq9]; exact h9))
                  · exact h9
                have e3 := e3.symm; subst e3
                refine M.iload_n dX12_scopesOf_48 rfl ?_
                refine M.iload dX12_scopesOf_49 rfl ?_
                refine M.icmp_le (tgt := 125) dX12_scopesOf_51 (by decide) (fun c_51 => ?_) (fun c_51 => ?_)
                · skip
                  have e4 : q ≤ p := (nI_leI (by omega) (by omega)).mp c_51
                  refine M.iinc (v := nI (q + 1)) (L' := [some (.ref m), some (.int bits), some (.int (nI (q + 1))), some (.int (nI (i + n))), some (.int (nI p)), none, none]) dX12_scopesOf_125 rfl (nI_1 q) (by decide) rfl rfl ?_
                  refine M.goto (tgt := 18) dX12_scopesOf_128 (by decide) ?_
                  refine M.drop (i := 4) (L' := [some (.ref m), some (.int bits), some (.int (nI (q + 1))), some (.int (nI (i + n))), none, none, none]) rfl ?_
                  exact ih_18 (q + 1) bits (by omega) (by omega) (by omega) (by rw [hsc, scpI_skip (by omega) (by rw [eq9]; omega), show p + 1 = q + 1 by omega])
                · skip
                  have e4 : p < q := nI_ltn (fun z => c_51 z) (by omega) (by omega)
                  refine M.iconst (v := (-1)) dX12_scopesOf_54 (by decide) ?_
                  refine M.istore (L' := [some (.ref m), some (.int bits), some (.int (nI q)), some (.int (nI (i + n))), some (.int (nI p)), some (.int (-1)), none]) dX12_scopesOf_55 (by decide) rfl rfl ?_
                  refine M.iconst (v := 0) dX12_scopesOf_57 (by decide) ?_
                  refine M.istore (L' := [some (.ref m), some (.int bits), some (.int (nI q)), some (.int (nI (i + n))), some (.int (nI p)), some (.int (-1)), some (.int 0)]) dX12_scopesOf_58 (by decide) rfl rfl ?_
                  have cut_60 : ∀ (k_60 : Nat) (z : Nat), (z ≤ T.length) → (T.length + 1 ≤ z + k_60) → M Λ X mX12_scopesOf m A (fun r I' F' => r = some (.int (oI (scpI T (F 63) (i + n) i 0))) ∧ I' = I ∧ F' = F) I F 60 [some (.ref m), some (.int bits), some (.int (nI q)), some (.int (nI (i + n))), some (.int (nI p)), some (.int (lsti (fun k => decide (tl (F 63) p (q - p) = T.getD k [])) z)), some (.int (nI z))] [] := by
                    intro k_60
                    induction k_60 with
                    | zero => intro z h6 h7; exact absurd h7 (by omega)
                    | succ k_60 ih_60 =>
                      intro z h6 h7
                      refine M.iload dX12_scopesOf_60 rfl ?_
                      refine M.aload_nR dX12_scopesOf_62 rfl ?_
                      refine M.geti (v := nI T.length) dX12_scopesOf_63 fl_X12_268 rfl rfl h9 ?_
                      refine M.icmp_ge (tgt := 111) dX12_scopesOf_66 (by decide) (fun c_66 => ?_) (fun c_66 => ?_)
                      · skip
                        have e5 := nI_gen c_66 h6 (by omega); subst e5
                        have hl9 := lsti_fnd hnd (tl (F 63) p (q - p))
                        refine M.iload dX12_scopesOf_111 rfl ?_
                        refine M.if_ge (tgt := 118) dX12_scopesOf_113 (by decide) (fun c_113 => ?_) (fun c_113 => ?_)
                        · skip
                          have hf : fnd T (tl (F 63) p (q - p)) < T.length := by
                            by_cases h9 : fnd T (tl (F 63) p (q - p)) < T.length
                            · exact h9
                            · rw [hl9, if_neg h9] at c_113; exact absurd c_113 (by decide)
                          rw [hl9, if_pos hf]
                          skip
                          refine M.iload_n dX12_scopesOf_118 rfl ?_
                          refine M.iconst (v := 1) dX12_scopesOf_119 (by decide) ?_
                          refine M.iload dX12_scopesOf_120 rfl ?_
                          refine M.ishl dX12_scopesOf_122 ?_
                          refine M.ior dX12_scopesOf_123 ?_
                          refine M.istore_n (L' := [some (.ref m), some (.int (bits ||| (1 <<< ((nI (fnd T (tl (F 63) p (q - p)))) &&& 31)))), some (.int (nI q)), some (.int (nI (i + n))), some (.int (nI p)), some (.int (nI (fnd T (tl (F 63) p (q - p))))), some (.int (nI T.length))]) dX12_scopesOf_124 (by decide) rfl rfl ?_
                          refine M.iinc (v := nI (q + 1)) (L' := [some (.ref m), some (.int (bits ||| (1 <<< ((nI (fnd T (tl (F 63) p (q - p)))) &&& 31)))), some (.int (nI (q + 1))), some (.int (nI (i + n))), some (.int (nI p)), some (.int (nI (fnd T (tl (F 63) p (q - p))))), some (.int (nI T.length))]) dX12_scopesOf_125 rfl (nI_1 q) (by decide) rfl rfl ?_
                          refine M.goto (tgt := 18) dX12_scopesOf_128 (by decide) ?_
                          refine M.drop (i := 4) (L' := [some (.ref m), some (.int (bits ||| (1 <<< ((nI (fnd T (tl (F 63) p (q - p)))) &&& 31)))), some (.int (nI (q + 1))), some (.int (nI (i + n))), none, some (.int (nI (fnd T (tl (F 63) p (q - p))))), some (.int (nI T.length))]) rfl ?_
                          refine M.drop (i := 5) (L' := [some (.ref m), some (.int (bits ||| (1 <<< ((nI (fnd T (tl (F 63) p (q - p)))) &&& 31)))), some (.int (nI (q + 1))), some (.int (nI (i + n))), none, none, some (.int (nI T.length))]) rfl ?_
                          refine M.drop (i := 6) (L' := [some (.ref m), some (.int (bits ||| (1 <<< ((nI (fnd T (tl (F 63) p (q - p)))) &&& 31)))), some (.int (nI (q + 1))), some (.int (nI (i + n))), none, none, none]) rfl ?_
                          exact ih_18 (q + 1) _ (by omega) (by omega) (by omega) (by rw [hsc, scpI_go (by omega) (by rw [eq9]; omega) (by rw [eq9]; exact hf), eq9])
                        · skip
                          have hf : ¬ fnd T (tl (F 63) p (q - p)) < T.length := by
                            intro h9
                            rw [hl9, if_pos h9] at c_113
                            exact c_113 (nI_pos' (by omega))
                          refine M.iconst (v := (-1)) dX12_scopesOf_116 (by decide) ?_
                          refine M.iret dX12_scopesOf_117 rfl ?_
                          exact ⟨by rw [hsc, scpI_no (by omega) (by rw [eq9]; omega) (by rw [eq9]; exact hf)]; rfl, rfl, rfl⟩
                      · skip
                        have e5 : z < T.length := nI_ltn c_66 (by omega) (by omega)
                        have hz := hws z e5
                        refine M.aload_nR dX12_scopesOf_69 rfl ?_
                        refine M.getr dX12_scopesOf_70 fl_X12_155 rfl rfl ?_
                        refine M.iload dX12_scopesOf_73 rfl ?_
                        refine M.iload_n dX12_scopesOf_75 rfl ?_
                        refine M.iload dX12_scopesOf_76 rfl ?_
                        refine M.isub dX12_scopesOf_78 ?_
                        rw [show (nI q) - (nI p) = nI (q - p) from (by have h := nI_subl p (q - p); rwa [show p + (q - p) = q by omega] at h)]
                        refine M.aload_nR dX12_scopesOf_79 rfl ?_
                        refine M.getr dX12_scopesOf_80 fl_X12_16 rfl rfl ?_
                        refine M.bipush (v := 12) dX12_scopesOf_83 (by decide) ?_
                        refine M.iload dX12_scopesOf_85 rfl ?_
                        refine M.imul dX12_scopesOf_87 ?_
                        rw [show 12 * (nI z) = nI (12 * z) from nI_mulc 12 z]
                        refine M.aload_nR dX12_scopesOf_88 rfl ?_
                        refine M.getr dX12_scopesOf_89 fl_X12_19 rfl rfl ?_
                        refine M.iload dX12_scopesOf_92 rfl ?_
                        refine M.iald (k9 := 8) (j := z) (g := F 8) dX12_scopesOf_94 rfl rfl rfl rfl (show z < 8 by omega) ?_
                        rw [hz.1]
                        refine M.callS [.ref (A 63), .int (nI p), .int (nI (q - p)), .ref (A 7), .int (nI (12 * z)), .int (nI (T.getD z []).length)] dX12_scopesOf_95 mdX12_isLike ssX12_isLike lk_X12_264 rfl rfl rfl rfl (show mCt Λ mX12_isLike m A [.ref (A 63), .int (nI p), .int (nI (q - p)), .ref (A 7), .int (nI (12 * z)), .int (nI (T.getD z []).length)] I F (fun r I' F' => r = some (.int (bI (decide (tl (F 63) p (q - p) = T.getD z [])))) ∧ I' = I ∧ F' = F) from by have h := m_isLike (Λ := Λ) (m := m) (I := I) hA (F := F) (k1 := 63) (k2 := 7) rfl rfl rfl rfl (i := p) (n := q - p) (j := 12 * z) (p := (T.getD z []).length) (show p + (q - p) ≤ 2000 by omega) (show 12 * z + (T.getD z []).length ≤ 96 by omega); rw [hz.2.2] at h; exact h) ?_
                        rintro _ I9 F9 ⟨rfl, e9, e8⟩
                        have e9 := e9.symm; subst e9; have e8 := e8.symm; subst e8
                        refine M.if_eq (tgt := 105) dX12_scopesOf_98 (by decide) (fun c_98 => ?_) (fun c_98 => ?_)
                        · skip
                          refine M.iinc (v := nI (z + 1)) (L' := [some (.ref m), some (.int bits), some (.int (nI q)), some (.int (nI (i + n))), some (.int (nI p)), some (.int (lsti (fun k => decide (tl (F 63) p (q - p) = T.getD k [])) z)), some (.int (nI (z + 1)))]) dX12_scopesOf_105 rfl (nI_1 z) (by decide) rfl rfl ?_
                          refine M.goto (tgt := 60) dX12_scopesOf_108 (by decide) ?_
                          have t9 := ih_60 (z + 1) (by omega) (by omega)
                          rw [lsti] at t9
                          rw [if_neg (by rw [(bI_eq0 _).mp c_98]; decide)] at t9
                          exact t9
                        · skip
                          refine M.iload dX12_scopesOf_101 rfl ?_
                          refine M.istore (L' := [some (.ref m), some (.int bits), some (.int (nI q)), some (.int (nI (i + n))), some (.int (nI p)), some (.int (nI z)), some (.int (nI z))]) dX12_scopesOf_103 (by decide) rfl rfl ?_
                          refine M.iinc (v := nI (z + 1)) (L' := [some (.ref m), some (.int bits), some (.int (nI q)), some (.int (nI (i + n))), some (.int (nI p)), some (.int (nI z)), some (.int (nI (z + 1)))]) dX12_scopesOf_105 rfl (nI_1 z) (by decide) rfl rfl ?_
                          refine M.goto (tgt := 60) dX12_scopesOf_108 (by decide) ?_
                          have t9 := ih_60 (z + 1) (by omega) (by omega)
                          rw [lsti] at t9
                          rw [if_pos (bt1 c_98)] at t9
                          exact t9
                  exact cut_60 (T.length + 1) 0 (by omega) (by omega)
              · skip
                have e3 : x < q := by
                  rcases Nat.lt_or_eq_of_le h4 with h9 | h9
                  · exact h9
                  · exact absurd (by rw [h9, ← eq9]; exact atI_at (by omega) (by rw [eq9]; omega)) c_39
                refine M.iinc (v := nI (x + 1)) (L' := [some (.ref m), some (.int bits), some (.int (nI (x + 1))), some (.int (nI (i + n))), some (.int (nI p)), none, none]) dX12_scopesOf_42 rfl (nI_1 x) (by decide) rfl rfl ?_
                refine M.goto (tgt := 26) dX12_scopesOf_45 (by decide) ?_
                exact ih_26 (x + 1) (by omega) (by omega) (by omega)
        exact cut_26 (q + 1) p (by omega) (by omega) (by omega)
  exact cut_18 (n + 2) i 0 (by omega) (by omega) (by omega) rfl
