/-! the reference: what is told -/
section LV
variable {Λ : kL} {X : kX} {μ : kMi} {m : Nat} {A : Nat → Nat} {Q : Option Value → (Nat → Int32) → (Nat → Nat → Int32) → Prop} {I : Nat → Int32} {F : Nat → Nat → Int32} {pc : Nat} {L : List (Option Value)} {st : List Value} {k9 j : Nat} {x v : Int32} {g : Nat → Int32}
theorem M.baldv (hd : decode μ.2.1 pc = .ok (.baload, 1)) (hr : mRef k9 = true) (hk : mK k9 = 0) (hg : F k9 = g) (hx : x = nI j) (hj : j < mN k9) (hv : g j = v) (k : M Λ X μ m A Q I F (pc + 1) L (.int v :: st)) : M Λ X μ m A Q I F pc L (.int x :: .ref (A k9) :: st) := by
  subst hv
  exact M.bald hd hr hk hg hx hj k
theorem M.ialdv (hd : decode μ.2.1 pc = .ok (.iaload, 1)) (hr : mRef k9 = true) (hk : mK k9 = 1) (hg : F k9 = g) (hx : x = nI j) (hj : j < mN k9) (hv : g j = v) (k : M Λ X μ m A Q I F (pc + 1) L (.int v :: st)) : M Λ X μ m A Q I F pc L (.int x :: .ref (A k9) :: st) := by
  subst hv
  exact M.iald hd hr hk hg hx hj k
theorem M.zaldv (hd : decode μ.2.1 pc = .ok (.baload, 1)) (hr : mRef k9 = true) (hk : mK k9 = 2) (hg : F k9 = g) (hx : x = nI j) (hj : j < mN k9) (hv : g j = v) (k : M Λ X μ m A Q I F (pc + 1) L (.int v :: st)) : M Λ X μ m A Q I F pc L (.int x :: .ref (A k9) :: st) := by
  subst hv
  exact M.zald hd hr hk hg hx hj k
end LV
theorem tl_shift (f : Nat → Int32) (b x n : Nat) : tl f (b + x) n = tl (fun j => f (b + j)) x n := tl_eq.mpr fun i _ => by rw [Nat.add_assoc]
theorem fsti_shift (p : Nat → Bool) (b : Nat) : ∀ (k i : Nat), fsti p k (b + i) = b + fsti (fun j => p (b + j)) k i := by
  intro k
  induction k with
  | zero => intro i; rfl
  | succ k ih =>
    intro i
    cases h : p (b + i) with
    | true => rw [fsti_t h, fsti_t (p := fun j => p (b + j)) h]
    | false => rw [fsti_f h, fsti_f (p := fun j => p (b + j)) h, Nat.add_assoc, ih]
theorem atI_shift (f : Nat → Int32) (c : Int32) (b p e : Nat) : atI f c (b + p) (b + e) = b + atI (fun j => f (b + j)) c p e := by
  rw [atI, atI, fsti_shift, show b + e - (b + p) = e - p by omega]
theorem scpI_shift (T : List (List Int32)) (f : Nat → Int32) (b e : Nat) (n : Nat) : ∀ (p : Nat) (bits : Int32), e - p ≤ n → scpI T f (b + e) (b + p) bits = scpI T (fun j => f (b + j)) e p bits := by
  induction n with
  | zero => intro p bits h; rw [scpI_end (by omega), scpI_end (by omega)]
  | succ n ih =>
    intro p bits h
    by_cases h0 : e ≤ p
    · rw [scpI_end (by omega), scpI_end h0]
    · have ha := atI_shift f 32 b p e
      have hg := atI_ge (fun j => f (b + j)) 32 (p := p) (e := e) (by omega)
      by_cases h1 : atI (fun j => f (b + j)) 32 p e = p
      · rw [scpI_skip (by omega) (by rw [ha, h1]), scpI_skip (by omega) h1, Nat.add_assoc, ih _ _ (by omega)]
      · have h1' : ¬ atI f 32 (b + p) (b + e) = b + p := by rw [ha]; omega
        have hd : atI f 32 (b + p) (b + e) - (b + p) = atI (fun j => f (b + j)) 32 p e - p := by rw [ha]; omega
        by_cases h2 : fnd T (tl (fun j => f (b + j)) p (atI (fun j => f (b + j)) 32 p e - p)) < T.length
        · rw [scpI_go (by omega) h1' (by rw [hd, tl_shift]; exact h2), scpI_go (by omega) h1 h2, hd, tl_shift, ha, Nat.add_assoc, ih _ _ (by omega)]
        · rw [scpI_no (by omega) h1' (by rw [hd, tl_shift]; exact h2), scpI_no (by omega) h1 h2]
theorem scpI_congr (T : List (List Int32)) {f g : Nat → Int32} (e n : Nat) : ∀ (p : Nat) (bits : Int32), e - p ≤ n → (∀ j, p ≤ j → j < e → f j = g j) → scpI T f e p bits = scpI T g e p bits := by
  induction n with
  | zero => intro p bits h _; rw [scpI_end (by omega), scpI_end (by omega)]
  | succ n ih =>
    intro p bits h hj
    by_cases h0 : e ≤ p
    · rw [scpI_end h0, scpI_end h0]
    · have ha : atI f 32 p e = atI g 32 p e := atI_congr hj
      have hg := atI_ge g 32 (p := p) (e := e) (by omega)
      by_cases h1 : atI g 32 p e = p
      · rw [scpI_skip (by omega) (by rw [ha]; exact h1), scpI_skip (by omega) h1, ih _ _ (by omega) (fun j a b => hj j (by omega) b)]
      · have ht : tl f p (atI g 32 p e - p) = tl g p (atI g 32 p e - p) := tl_eq.mpr fun i hi => hj _ (by omega) (by omega)
        by_cases h2 : fnd T (tl g p (atI g 32 p e - p)) < T.length
        · rw [scpI_go (by omega) (by rw [ha]; exact h1) (by rw [ha, ht]; exact h2), scpI_go (by omega) h1 h2, ha, ht, ih _ _ (by omega) (fun j a b => hj j (by omega) b)]
        · rw [scpI_no (by omega) (by rw [ha]; exact h1) (by rw [ha, ht]; exact h2), scpI_no (by omega) h1 h2]
def gD (l : List Int32) : Nat → Int32 := fun j => l.getD j 0
def scpS (T : List (List Int32)) (v : List Int32) : Option Int32 := scpI T (gD v) v.length 0 0
theorem scpI_tl {T : List (List Int32)} {f : Nat → Int32} {b : Nat} {v : List Int32} (h : tl f b v.length = v) : scpI T f (b + v.length) b 0 = scpS T v := by
  have h1 := scpI_shift T f b v.length v.length 0 0 (by omega)
  rw [Nat.add_zero] at h1
  rw [h1, scpS]
  exact scpI_congr T _ v.length _ _ (by omega) fun j _ hj => tl_bs.mp h j hj
section MV
variable {Λ : kL} {m : Nat} {A : Nat → Nat} {I : Nat → Int32} {F : Nat → Nat → Int32}
theorem m_hasV (hA : mInj A) {g : fvs} (hv : vrl F 2000 g) {k : Nat} (hk : k < 13) : mCt Λ mX12_has m A [.ref m, .int (nI k)] I F (fun r I' F' => r = some (.int (bI (decide (0 < (fv g k).length)))) ∧ I' = I ∧ F' = F) := by
  have h := m_has (Λ := Λ) (m := m) (I := I) hA (F := F) (k := k) hk
  rw [hv.has (by omega) hk] at h
  exact h
theorem m_isValueV (hA : mInj A) {g : fvs} (hv : vrl F 2000 g) {k : Nat} (hk : k < 13) (h0 : 0 < (fv g k).length) {a : Nat} {bs : List Int32} (hs : kStr Λ a bs) (hbs : byt (fun i => bs.getD i 0) 0 bs.length) : mCt Λ mX12_isValue m A [.ref m, .int (nI k), .ref a] I F (fun r I' F' => r = some (.int (bI (decide (fv g k = bs)))) ∧ I' = I ∧ F' = F) := by
  obtain ⟨i, a1, a2, a3, a4, a5⟩ := hv.at hk h0
  have h := m_isValue (Λ := Λ) (m := m) (I := I) hA hk a1 a2 a3 (byt_tl a4 a5) hs hbs
  rw [a4] at h
  exact h
theorem m_likeV (hA : mInj A) {kb j : Nat} (r1 : mRef kb = true) (t1 : mK kb = 0) {v w : List Int32} {i : Nat} (a3 : i + v.length ≤ 2000) (a4 : tl (F 63) i v.length = v) (hj : j + w.length ≤ mN kb) (hw : tl (F kb) j w.length = w) : mCt Λ mX12_isLike m A [.ref (A 63), .int (nI i), .int (nI v.length), .ref (A kb), .int (nI j), .int (nI w.length)] I F (fun r I' F' => r = some (.int (bI (decide (v = w)))) ∧ I' = I ∧ F' = F) := by
  have h := m_isLike (Λ := Λ) (m := m) (I := I) hA (F := F) (k1 := 63) (k2 := kb) rfl rfl r1 t1 (i := i) (n := v.length) (j := j) (p := w.length) (show i + v.length ≤ 2000 from a3) hj
  rw [a4, hw] at h
  exact h
theorem m_scopesOfV (hA : mInj A) {T : List (List Int32)} (h9 : I 9 = nI T.length) (hT : T.length ≤ 8) (hws : mTx F 7 8 12 T) (hnd : noDup T) {g : fvs} (hv : vrl F 2000 g) (h0 : 0 < (fv g 3).length) : mCt Λ mX12_scopesOf m A [.ref m] I F (fun r I' F' => r = some (.int (oI (scpS T (fv g 3)))) ∧ I' = I ∧ F' = F) := by
  obtain ⟨i, a1, a2, a3, a4, a5⟩ := hv.at (k := 3) (by decide) h0
  have h := m_scopesOf (Λ := Λ) (m := m) (I := I) hA h9 hT hws hnd a1 a2 a3
  rw [scpI_tl a4] at h
  exact h
end MV
/-- the REDIRECTS of a CLIENT -/
def mRd (F : Nat → Nat → Int32) (c : Nat) (R : List (List Int32)) : Prop := F 19 c = nI R.length ∧ R.length ≤ 3 ∧ ∀ r, r < R.length → F 18 (3 * c + r) = nI (R.getD r []).length ∧ (R.getD r []).length ≤ 80 ∧ tl (F 17) (80 * (3 * c + r)) (R.getD r []).length = R.getD r []
def fxd (R : List (List Int32)) (v : List Int32) (x : Nat) : Int32 := if fsti (fun k => decide (v = R.getD k [])) (R.length - x) x < R.length then nI (fsti (fun k => decide (v = R.getD k [])) (R.length - x) x) else -1
theorem fxd_out {R : List (List Int32)} {v : List Int32} {x : Nat} (h : R.length ≤ x) : fxd R v x = -1 := by
  rw [fxd, show R.length - x = 0 by omega, if_neg (by show ¬ x < R.length; omega)]
theorem fxd_t {R : List (List Int32)} {v : List Int32} {x : Nat} (h : x < R.length) (e : v = R.getD x []) : fxd R v x = nI x := by
  rw [fxd, show R.length - x = (R.length - (x + 1)) + 1 by omega, fsti_t (p := fun k => decide (v = R.getD k [])) (decide_eq_true e), if_pos h]
theorem fxd_f {R : List (List Int32)} {v : List Int32} {x : Nat} (h : x < R.length) (e : ¬ v = R.getD x []) : fxd R v x = fxd R v (x + 1) := by
  rw [fxd, fxd, show R.length - x = (R.length - (x + 1)) + 1 by omega, fsti_f (p := fun k => decide (v = R.getD k [])) (decide_eq_false e)]
def rdS (R : List (List Int32)) (v : List Int32) : Int32 := if 0 < v.length then fxd R v 0 else if R.length = 1 then 0 else -1
def askS (T : List (List Int32)) (v : List Int32) (a : Int32) : Int32 := if 0 < v.length then (if oI (scpS T v) < 0 ∨ ¬ wthn (oI (scpS T v)) a = true then -1 else oI (scpS T v)) else if a = 0 then -1 else a
def chb (x : Int32) : Bool := aldg x || decide (x = 45) || decide (x = 95)
def clS (T : List (List Int32)) (v : List Int32) : Int32 := if 0 < v.length ∧ fnd T v < T.length then nI (fnd T v) else -1
def whoS (T S : List (List Int32)) (cf : Nat → Bool) (v s : List Int32) : Int32 := if 0 < v.length ∧ fnd T v < T.length then (if (if cf (fnd T v) = true then decide (0 < s.length) && decide (s = S.getD (fnd T v) []) else !decide (0 < s.length)) = true then nI (fnd T v) else -1) else -1
theorem m_clientOfS {Λ : kL} {m : Nat} {A : Nat → Nat} {I : Nat → Int32} {F : Nat → Nat → Int32} (hA : mInj A) {T : List (List Int32)} (h20 : I 20 = nI T.length) (hT : T.length ≤ 8) (hid : mTx F 10 11 20 T) (hnd : noDup T) {g : fvs} (hv : vrl F 2000 g) : mCt Λ mX12_clientOf m A [.ref m] I F (fun r I' F' => r = some (.int (clS T (fv g 1))) ∧ I' = I ∧ F' = F) := by
  have h := m_clientOf (Λ := Λ) (m := m) (I := I) hA h20 hT hid hv
  rw [lsti_fnd hnd] at h
  have e : (if 0 < (fv g 1).length then (if fnd T (fv g 1) < T.length then nI (fnd T (fv g 1)) else -1) else -1) = clS T (fv g 1) := by
    rw [clS]
    by_cases h1 : 0 < (fv g 1).length
    · by_cases h2 : fnd T (fv g 1) < T.length
      · rw [if_pos h1, if_pos h2, if_pos ⟨h1, h2⟩]
      · rw [if_pos h1, if_neg h2, if_neg (fun q => h2 q.2)]
    · rw [if_neg h1, if_neg (fun q => h1 q.1)]
  rw [e] at h
  exact h
theorem clS_neg {T : List (List Int32)} {v : List Int32} (h : clS T v < 0) (hT : T.length ≤ 8) : ¬ (0 < v.length ∧ fnd T v < T.length) := by
  intro q
  rw [clS, if_pos q] at h
  exact nI_pos (by omega) h
theorem clS_pos {T : List (List Int32)} {v : List Int32} (h : ¬ clS T v < 0) : 0 < v.length ∧ fnd T v < T.length := by
  by_cases q : 0 < v.length ∧ fnd T v < T.length
  · exact q
  · rw [clS, if_neg q] at h
    exact absurd (by decide) h
theorem all_len {v : List Int32} {f : Nat → Int32} {i : Nat} {p : Int32 → Bool} (h : tl f i v.length = v) : v.all p = alln (fun y => p (f (i + y))) v.length := by
  have h2 := tl_alln (f := f) (i := i) (n := v.length) (p := p)
  rwa [h] at h2
theorem gD_tl (v : List Int32) : tl (gD v) 0 v.length = v := tl_bs.mpr fun i _ => by rw [Nat.zero_add]; rfl
theorem allg (v : List Int32) (p : Int32 → Bool) : v.all p = alln (fun y => p (gD v y)) v.length := by
  have h := all_len (p := p) (gD_tl v)
  rw [h]
  congr 1
  funext y
  rw [Nat.zero_add]
theorem alln_mono {p : Nat → Bool} {x n : Nat} (h : alln p x = false) (hx : x ≤ n) : alln p n = false := by
  cases h2 : alln p n with
  | false => rfl
  | true => rw [alln_iff.mpr fun j hj => alln_iff.mp h2 j (by omega)] at h; cases h

theorem m_redirectOf {Λ : kL} {m : Nat} {A : Nat → Nat} {I : Nat → Int32} {F : Nat → Nat → Int32} (hA : mInj A) {c : Nat} (hc : c < 8) {R : List (List Int32)} (hR : mRd F c R) {g : fvs} (hv : vrl F 2000 g) : mCt Λ mX12_redirectOf m A [.ref m, .int (nI c)] I F (fun r I' F' => r = some (.int (rdS R (fv g 2))) ∧ I' = I ∧ F' = F) := by
  refine mCt.of hA pn_X12 [some (.ref m), some (.int (nI c)), none, none] rfl (Nat.le_of_ble_eq_true rfl) fun X => ?_
  have hR3 := hR.2.1
  refine M.aload_nR dX12_redirectOf_0 rfl ?_
  refine M.iconst (v := 2) dX12_redirectOf_1 (by decide) ?_
  refine M.callV [.int 2] dX12_redirectOf_2 mdX12_has imX12_has seX12_has lk_X12_260 rfl rfl rfl rfl (m_hasV hA hv (k := 2) (by decide)) ?_
  rintro _ I9 F9 ⟨rfl, e9, e8⟩
  have e9 := e9.symm; subst e9; have e8 := e8.symm; subst e8
  refine M.if_ne (tgt := 24) dX12_redirectOf_5 (by decide) (fun c_5 => ?_) (fun c_5 => ?_)
  · skip
    have h0 := of_decide_eq_true (bt1 c_5)
    obtain ⟨i, a1, a2, a3, a4, a5⟩ := hv.at (k := 2) (by decide) h0
    refine M.iconst (v := (-1)) dX12_redirectOf_24 (by decide) ?_
    refine M.istore_n (L' := [some (.ref m), some (.int (nI c)), some (.int (-1)), none]) dX12_redirectOf_25 (by decide) rfl rfl ?_
    refine M.iconst (v := 2) dX12_redirectOf_26 (by decide) ?_
    refine M.istore_n (L' := [some (.ref m), some (.int (nI c)), some (.int (-1)), some (.int 2)]) dX12_redirectOf_27 (by decide) rfl rfl ?_
    have cut_28 : ∀ (k_28 : Nat) (x : Nat) (c2 : Int32), (x ≤ 3) → (x + 1 ≤ k_28) → (c2 = fxd R (fv g 2) x) → M Λ X mX12_redirectOf m A (fun r I' F' => r = some (.int (rdS R (fv g 2))) ∧ I' = I ∧ F' = F) I F 28 [some (.ref m), some (.int (nI c)), some (.int c2), some (.int (nI x - 1))] [] := by
      intro k_28
      induction k_28 with
      | zero => intro x c2 h1 h2 hc2; exact absurd h2 (by omega)
      | succ k_28 ih_28 =>
        intro x c2 h1 h2 hc2
        rcases x with _ | x
        · skip
          refine M.iload_n dX12_redirectOf_28 rfl ?_
          refine M.if_lt (tgt := 94) dX12_redirectOf_29 (by decide) (fun c_29 => ?_) (fun c_29 => absurd (by decide) c_29)
          refine M.iload_n dX12_redirectOf_94 rfl ?_
          refine M.iret dX12_redirectOf_95 rfl ?_
          refine ⟨congrArg (fun z => some (Value.int z)) ?_, rfl, rfl⟩
          rw [rdS, if_pos h0]
          exact hc2
        · rw [nI_pred]
          refine M.iload_n dX12_redirectOf_28 rfl ?_
          refine M.if_lt (tgt := 94) dX12_redirectOf_29 (by decide) (fun c_29 => absurd c_29 (nI_pos (by omega))) (fun c_29 => ?_)
          refine M.iload_n dX12_redirectOf_32 rfl ?_
          refine M.aload_nR dX12_redirectOf_33 rfl ?_
          refine M.getr dX12_redirectOf_34 fl_X12_51 rfl rfl ?_
          refine M.iload_n dX12_redirectOf_37 rfl ?_
          refine M.ialdv (k9 := 19) (j := c) (g := F 19) (v := nI R.length) dX12_redirectOf_38 rfl rfl rfl rfl (show c < 8 by omega) hR.1 ?_
          refine M.icmp_ge (tgt := 88) dX12_redirectOf_39 (by decide) (fun c_39 => ?_) (fun c_39 => ?_)
          · skip
            have e5 : R.length ≤ x := (nI_leI (by omega) (by omega)).mp c_39
            have hcase : c2 = fxd R (fv g 2) x := by rw [hc2, fxd_out (by omega), fxd_out e5]
            refine M.iinc (v := nI x - 1) (L' := [some (.ref m), some (.int (nI c)), some (.int c2), some (.int (nI x - 1))]) dX12_redirectOf_88 rfl (by rw [Int32.sub_eq_add_neg]; rfl) (by decide) rfl rfl ?_
            refine M.goto (tgt := 28) dX12_redirectOf_91 (by decide) ?_
            exact ih_28 x _ (by omega) (by omega) hcase
          · skip
            have e5 : x < R.length := nI_ltn c_39 (by omega) (by omega)
            have hx := hR.2.2 x e5
            refine M.aload_nR dX12_redirectOf_42 rfl ?_
            refine M.getr dX12_redirectOf_43 fl_X12_155 rfl rfl ?_
            refine M.aload_nR dX12_redirectOf_46 rfl ?_
            refine M.getr dX12_redirectOf_47 fl_X12_158 rfl rfl ?_
            refine M.iconst (v := 2) dX12_redirectOf_50 (by decide) ?_
            refine M.ialdv (k9 := 64) (j := 2) (g := F 64) (v := nI i) dX12_redirectOf_51 rfl rfl rfl rfl (show 2 < 13 by omega) a1 ?_
            refine M.aload_nR dX12_redirectOf_52 rfl ?_
            refine M.getr dX12_redirectOf_53 fl_X12_161 rfl rfl ?_
            refine M.iconst (v := 2) dX12_redirectOf_56 (by decide) ?_
            refine M.ialdv (k9 := 65) (j := 2) (g := F 65) (v := nI (fv g 2).length) dX12_redirectOf_57 rfl rfl rfl rfl (show 2 < 13 by omega) a2 ?_
            refine M.aload_nR dX12_redirectOf_58 rfl ?_
            refine M.getr dX12_redirectOf_59 fl_X12_45 rfl rfl ?_
            refine M.bipush (v := 80) dX12_redirectOf_62 (by decide) ?_
            refine M.iconst (v := 3) dX12_redirectOf_64 (by decide) ?_
            refine M.iload_n dX12_redirectOf_65 rfl ?_
            refine M.imul dX12_redirectOf_66 ?_
            rw [show 3 * (nI c) = nI (3 * c) from nI_mulc 3 c]
            refine M.iload_n dX12_redirectOf_67 rfl ?_
            refine M.iadd dX12_redirectOf_68 ?_
            rw [show (nI (3 * c)) + (nI x) = nI (3 * c + x) from nI_add (3 * c) x]
            refine M.imul dX12_redirectOf_69 ?_
            rw [show 80 * (nI (3 * c + x)) = nI (80 * (3 * c + x)) from nI_mulc 80 (3 * c + x)]
            refine M.aload_nR dX12_redirectOf_70 rfl ?_
            refine M.getr dX12_redirectOf_71 fl_X12_48 rfl rfl ?_
            refine M.iconst (v := 3) dX12_redirectOf_74 (by decide) ?_
            refine M.iload_n dX12_redirectOf_75 rfl ?_
            refine M.imul dX12_redirectOf_76 ?_
            rw [show 3 * (nI c) = nI (3 * c) from nI_mulc 3 c]
            refine M.iload_n dX12_redirectOf_77 rfl ?_
            refine M.iadd dX12_redirectOf_78 ?_
            rw [show (nI (3 * c)) + (nI x) = nI (3 * c + x) from nI_add (3 * c) x]
            refine M.ialdv (k9 := 18) (j := 3 * c + x) (g := F 18) (v := nI (R.getD x []).length) dX12_redirectOf_79 rfl rfl rfl rfl (show 3 * c + x < 24 by omega) hx.1 ?_
            refine M.callS [.ref (A 63), .int (nI i), .int (nI (fv g 2).length), .ref (A 17), .int (nI (80 * (3 * c + x))), .int (nI (R.getD x []).length)] dX12_redirectOf_80 mdX12_isLike ssX12_isLike lk_X12_264 rfl rfl rfl rfl (m_likeV hA (kb := 17) rfl rfl (v := fv g 2) (w := R.getD x []) a3 a4 (show 80 * (3 * c + x) + (R.getD x []).length ≤ 1920 by omega) hx.2.2) ?_
            rintro _ I9 F9 ⟨rfl, e9, e8⟩
            have e9 := e9.symm; subst e9; have e8 := e8.symm; subst e8
            refine M.if_eq (tgt := 88) dX12_redirectOf_83 (by decide) (fun c_83 => ?_) (fun c_83 => ?_)
            · skip
              have hcase : c2 = fxd R (fv g 2) x := by rw [hc2, fxd_f e5 (of_decide_eq_false ((bI_eq0 _).mp c_83))]
              refine M.iinc (v := nI x - 1) (L' := [some (.ref m), some (.int (nI c)), some (.int c2), some (.int (nI x - 1))]) dX12_redirectOf_88 rfl (by rw [Int32.sub_eq_add_neg]; rfl) (by decide) rfl rfl ?_
              refine M.goto (tgt := 28) dX12_redirectOf_91 (by decide) ?_
              exact ih_28 x _ (by omega) (by omega) hcase
            · skip
              have hcase : nI x = fxd R (fv g 2) x := (fxd_t e5 (of_decide_eq_true (bt1 c_83))).symm
              refine M.iload_n dX12_redirectOf_86 rfl ?_
              refine M.istore_n (L' := [some (.ref m), some (.int (nI c)), some (.int (nI x)), some (.int (nI x))]) dX12_redirectOf_87 (by decide) rfl rfl ?_
              refine M.iinc (v := nI x - 1) (L' := [some (.ref m), some (.int (nI c)), some (.int (nI x)), some (.int (nI x - 1))]) dX12_redirectOf_88 rfl (by rw [Int32.sub_eq_add_neg]; rfl) (by decide) rfl rfl ?_
              refine M.goto (tgt := 28) dX12_redirectOf_91 (by decide) ?_
              exact ih_28 x _ (by omega) (by omega) hcase
    exact cut_28 4 3 (-1) (by omega) (by omega) (fxd_out (by omega)).symm
  · skip
    have h0 := of_decide_eq_false ((bI_eq0 _).mp c_5)
    refine M.aload_nR dX12_redirectOf_8 rfl ?_
    refine M.getr dX12_redirectOf_9 fl_X12_51 rfl rfl ?_
    refine M.iload_n dX12_redirectOf_12 rfl ?_
    refine M.ialdv (k9 := 19) (j := c) (g := F 19) (v := nI R.length) dX12_redirectOf_13 rfl rfl rfl rfl (show c < 8 by omega) hR.1 ?_
    refine M.iconst (v := 1) dX12_redirectOf_14 (by decide) ?_
    refine M.icmp_ne (tgt := 22) dX12_redirectOf_15 (by decide) (fun c_15 => ?_) (fun c_15 => ?_)
    · skip
      have e5 : ¬ R.length = 1 := fun q => c_15 (by rw [q]; rfl)
      refine M.iconst (v := (-1)) dX12_redirectOf_22 (by decide) ?_
      refine M.iret dX12_redirectOf_23 rfl ?_
      refine ⟨congrArg (fun z => some (Value.int z)) ?_, rfl, rfl⟩
      rw [rdS, if_neg h0]
      first | rw [if_neg e5] | rw [if_pos e5]
    · skip
      have e5 : R.length = 1 := (nI_eq (b := 1) (by omega) (by omega)).mp c_15
      refine M.iconst (v := 0) dX12_redirectOf_18 (by decide) ?_
      refine M.goto (tgt := 23) dX12_redirectOf_19 (by decide) ?_
      refine M.iret dX12_redirectOf_23 rfl ?_
      refine ⟨congrArg (fun z => some (Value.int z)) ?_, rfl, rfl⟩
      rw [rdS, if_neg h0]
      first | rw [if_neg e5] | rw [if_pos e5]

theorem m_asked {Λ : kL} {m : Nat} {A : Nat → Nat} {I : Nat → Int32} {F : Nat → Nat → Int32} (hA : mInj A) {T : List (List Int32)} (h9 : I 9 = nI T.length) (hT : T.length ≤ 8) (hws : mTx F 7 8 12 T) (hnd : noDup T) {g : fvs} (hv : vrl F 2000 g) {c : Nat} (hc : c < 8) : mCt Λ mX12_asked m A [.ref m, .int (nI c)] I F (fun r I' F' => r = some (.int (askS T (fv g 3) (F 15 c))) ∧ I' = I ∧ F' = F) := by
  refine mCt.of hA pn_X12 [some (.ref m), some (.int (nI c)), none] rfl (Nat.le_of_ble_eq_true rfl) fun X => ?_
  refine M.aload_nR dX12_asked_0 rfl ?_
  refine M.iconst (v := 3) dX12_asked_1 (by decide) ?_
  refine M.callV [.int 3] dX12_asked_2 mdX12_has imX12_has seX12_has lk_X12_260 rfl rfl rfl rfl (m_hasV hA hv (k := 3) (by decide)) ?_
  rintro _ I9 F9 ⟨rfl, e9, e8⟩
  have e9 := e9.symm; subst e9; have e8 := e8.symm; subst e8
  refine M.if_ne (tgt := 28) dX12_asked_5 (by decide) (fun c_5 => ?_) (fun c_5 => ?_)
  · skip
    have h0 := of_decide_eq_true (bt1 c_5)
    refine M.aload_nR dX12_asked_28 rfl ?_
    refine M.callV [] dX12_asked_29 mdX12_scopesOf imX12_scopesOf seX12_scopesOf lk_X12_369 rfl rfl rfl rfl (m_scopesOfV hA h9 hT hws hnd hv h0) ?_
    rintro _ I9 F9 ⟨rfl, e9, e8⟩
    have e9 := e9.symm; subst e9; have e8 := e8.symm; subst e8
    refine M.istore_n (L' := [some (.ref m), some (.int (nI c)), some (.int (oI (scpS T (fv g 3))))]) dX12_asked_32 (by decide) rfl rfl ?_
    refine M.iload_n dX12_asked_33 rfl ?_
    refine M.if_lt (tgt := 50) dX12_asked_34 (by decide) (fun c_34 => ?_) (fun c_34 => ?_)
    · skip
      refine M.iconst (v := (-1)) dX12_asked_50 (by decide) ?_
      refine M.goto (tgt := 55) dX12_asked_51 (by decide) ?_
      refine M.iret dX12_asked_55 rfl ?_
      refine ⟨congrArg (fun z => some (Value.int z)) ?_, rfl, rfl⟩
      rw [askS, if_pos h0, if_pos]
      first | exact Or.inl c_34 | exact Or.inr (fun q => c_47 (of_decide_eq_true q))
    · skip
      refine M.iload_n dX12_asked_37 rfl ?_
      refine M.aload_nR dX12_asked_38 rfl ?_
      refine M.getr dX12_asked_39 fl_X12_39 rfl rfl ?_
      refine M.iload_n dX12_asked_42 rfl ?_
      refine M.iald (k9 := 15) (j := c) (g := F 15) dX12_asked_43 rfl rfl rfl rfl (show c < 8 by omega) ?_
      refine M.iconst (v := (-1)) dX12_asked_44 (by decide) ?_
      refine M.ixor dX12_asked_45 ?_
      refine M.iand dX12_asked_46 ?_
      refine M.if_eq (tgt := 54) dX12_asked_47 (by decide) (fun c_47 => ?_) (fun c_47 => ?_)
      · skip
        refine M.iload_n dX12_asked_54 rfl ?_
        refine M.iret dX12_asked_55 rfl ?_
        refine ⟨congrArg (fun z => some (Value.int z)) ?_, rfl, rfl⟩
        rw [askS, if_pos h0, if_neg]
        exact fun q => q.elim (fun a => c_34 a) (fun a => a (decide_eq_true c_47))
      · skip
        refine M.iconst (v := (-1)) dX12_asked_50 (by decide) ?_
        refine M.goto (tgt := 55) dX12_asked_51 (by decide) ?_
        refine M.iret dX12_asked_55 rfl ?_
        refine ⟨congrArg (fun z => some (Value.int z)) ?_, rfl, rfl⟩
        rw [askS, if_pos h0, if_pos]
        first | exact Or.inl c_34 | exact Or.inr (fun q => c_47 (of_decide_eq_true q))
  · skip
    have h0 := of_decide_eq_false ((bI_eq0 _).mp c_5)
    refine M.aload_nR dX12_asked_8 rfl ?_
    refine M.getr dX12_asked_9 fl_X12_39 rfl rfl ?_
    refine M.iload_n dX12_asked_12 rfl ?_
    refine M.iald (k9 := 15) (j := c) (g := F 15) dX12_asked_13 rfl rfl rfl rfl (show c < 8 by omega) ?_
    refine M.if_ne (tgt := 21) dX12_asked_14 (by decide) (fun c_14 => ?_) (fun c_14 => ?_)
    · skip
      refine M.aload_nR dX12_asked_21 rfl ?_
      refine M.getr dX12_asked_22 fl_X12_39 rfl rfl ?_
      refine M.iload_n dX12_asked_25 rfl ?_
      refine M.iald (k9 := 15) (j := c) (g := F 15) dX12_asked_26 rfl rfl rfl rfl (show c < 8 by omega) ?_
      refine M.iret dX12_asked_27 rfl ?_
      refine ⟨congrArg (fun z => some (Value.int z)) ?_, rfl, rfl⟩
      rw [askS, if_neg h0]
      first | rw [if_pos c_14] | rw [if_neg c_14]
    · skip
      refine M.iconst (v := (-1)) dX12_asked_17 (by decide) ?_
      refine M.goto (tgt := 27) dX12_asked_18 (by decide) ?_
      refine M.iret dX12_asked_27 rfl ?_
      refine ⟨congrArg (fun z => some (Value.int z)) ?_, rfl, rfl⟩
      rw [askS, if_neg h0]
      first | rw [if_pos c_14] | rw [if_neg c_14]

theorem m_isChallenge {Λ : kL} {m : Nat} {A : Nat → Nat} {I : Nat → Int32} {F : Nat → Nat → Int32} (hA : mInj A) {g : fvs} (hv : vrl F 2000 g) : mCt Λ mX12_isChallenge m A [.ref m] I F (fun r I' F' => r = some (.int (bI (decide ((fv g 5).length = 43) && (fv g 5).all chb))) ∧ I' = I ∧ F' = F) := by
  refine mCt.of hA pn_X12 [some (.ref m), none, none, none] rfl (Nat.le_of_ble_eq_true rfl) fun X => ?_
  have cut_27 : ∀ (k_27 : Nat) (j x : Nat) (b : Bool), (x ≤ 43) → (44 ≤ x + k_27) → (b = (decide ((fv g 5).length = 43) && alln (fun y => chb (gD (fv g 5) y)) x)) → (b = true → F 64 5 = nI j ∧ j + 43 ≤ 2000 ∧ ∀ y, y < 43 → F 63 (j + y) = gD (fv g 5) y) → M Λ X mX12_isChallenge m A (fun r I' F' => r = some (.int (bI (decide ((fv g 5).length = 43) && (fv g 5).all chb))) ∧ I' = I ∧ F' = F) I F 27 [some (.ref m), some (.int (bI b)), some (.int (nI x)), none] [] := by
    intro k_27
    induction k_27 with
    | zero => intro j x b h1 h2 hb hj; exact absurd h2 (by omega)
    | succ k_27 ih_27 =>
      intro j x b h1 h2 hb hj
      refine M.iload_n dX12_isChallenge_27 rfl ?_
      refine M.if_eq (tgt := 82) dX12_isChallenge_28 (by decide) (fun c_28 => ?_) (fun c_28 => ?_)
      · skip
        refine M.iload_n dX12_isChallenge_82 rfl ?_
        refine M.zret dX12_isChallenge_83 rfl (bI_nar _) ?_
        refine ⟨congrArg (fun z => some (Value.int z)) ?_, rfl, rfl⟩
        first
          | (have e0 := (bI_eq0 b).mp c_28; rw [e0]; rw [e0] at hb; by_cases h43 : (fv g 5).length = 43; rw [decide_eq_true h43, Bool.true_and] at hb; rw [decide_eq_true h43, Bool.true_and, allg, alln_mono hb.symm (by omega)]; rw [decide_eq_false h43]; rfl)
          | (have e0 := bt1 c_28; have e1 := nI_gen (n := 43) c_34 h1 (by omega); subst e1; rw [hb] at e0; rw [hb]; have e2 := e0; rw [Bool.and_eq_true] at e2; rw [allg, of_decide_eq_true e2.1])
      · skip
        refine M.iload_n dX12_isChallenge_31 rfl ?_
        refine M.bipush (v := 43) dX12_isChallenge_32 (by decide) ?_
        refine M.icmp_ge (tgt := 82) dX12_isChallenge_34 (by decide) (fun c_34 => ?_) (fun c_34 => ?_)
        · skip
          refine M.iload_n dX12_isChallenge_82 rfl ?_
          refine M.zret dX12_isChallenge_83 rfl (bI_nar _) ?_
          refine ⟨congrArg (fun z => some (Value.int z)) ?_, rfl, rfl⟩
          first
            | (have e0 := (bI_eq0 b).mp c_28; rw [e0]; rw [e0] at hb; by_cases h43 : (fv g 5).length = 43; rw [decide_eq_true h43, Bool.true_and] at hb; rw [decide_eq_true h43, Bool.true_and, allg, alln_mono hb.symm (by omega)]; rw [decide_eq_false h43]; rfl)
            | (have e0 := bt1 c_28; have e1 := nI_gen (n := 43) c_34 h1 (by omega); subst e1; rw [hb] at e0; rw [hb]; have e2 := e0; rw [Bool.and_eq_true] at e2; rw [allg, of_decide_eq_true e2.1])
        · skip
          have lt_x : x < 43 := nI_ltn (n := 43) c_34 (by omega) (by omega)
          have hbt := bt1 c_28
          have hj1 := hj hbt
          refine M.aload_nR dX12_isChallenge_37 rfl ?_
          refine M.getr dX12_isChallenge_38 fl_X12_155 rfl rfl ?_
          refine M.aload_nR dX12_isChallenge_41 rfl ?_
          refine M.getr dX12_isChallenge_42 fl_X12_158 rfl rfl ?_
          refine M.iconst (v := 5) dX12_isChallenge_45 (by decide) ?_
          refine M.ialdv (k9 := 64) (j := 5) (g := F 64) (v := nI j) dX12_isChallenge_46 rfl rfl rfl rfl (show 5 < 13 by omega) hj1.1 ?_
          refine M.iload_n dX12_isChallenge_47 rfl ?_
          refine M.iadd dX12_isChallenge_48 ?_
          rw [show (nI j) + (nI x) = nI (j + x) from nI_add j x]
          refine M.baldv (k9 := 63) (j := j + x) (g := F 63) (v := gD (fv g 5) x) dX12_isChallenge_49 rfl rfl rfl rfl (show j + x < 2000 by omega) (hj1.2.2 x lt_x) ?_
          refine M.istore_n (L' := [some (.ref m), some (.int (bI b)), some (.int (nI x)), some (.int (gD (fv g 5) x))]) dX12_isChallenge_50 (by decide) rfl rfl ?_
          refine M.iload_n dX12_isChallenge_51 rfl ?_
          refine M.callJ (v := .int (bI (aldg (gD (fv g 5) x)))) [.int (gD (fv g 5) x)] dX12_isChallenge_52 mdX12_isLetterOrDigit ssX12_isLetterOrDigit lk_X12_345 rfl rfl rfl rfl (fun σ9 => m_isLetterOrDigit (gD (fv g 5) x)) ?_
          refine M.if_ne (tgt := 70) dX12_isChallenge_55 (by decide) (fun c_55 => ?_) (fun c_55 => ?_)
          · skip
            refine M.iconst (v := 1) dX12_isChallenge_70 (by decide) ?_
            refine M.goto (tgt := 75) dX12_isChallenge_71 (by decide) ?_
            refine M.istore_n (L' := [some (.ref m), some (.int 1), some (.int (nI x)), some (.int (gD (fv g 5) x))]) dX12_isChallenge_75 (by decide) rfl rfl ?_
            refine M.iinc (v := nI (x + 1)) (L' := [some (.ref m), some (.int 1), some (.int (nI (x + 1))), some (.int (gD (fv g 5) x))]) dX12_isChallenge_76 rfl (nI_1 x) (by decide) rfl rfl ?_
            refine M.goto (tgt := 27) dX12_isChallenge_79 (by decide) ?_
            refine M.drop (i := 3) (L' := [some (.ref m), some (.int 1), some (.int (nI (x + 1))), none]) rfl ?_
            exact ih_27 j (x + 1) true (by omega) (by omega) (by rw [alln_s, ← Bool.and_assoc, ← hb, hbt, Bool.true_and, chb]; symm; first | rw [bt1 c_55, Bool.true_or, Bool.true_or] | rw [decide_eq_true (p := gD (fv g 5) x = 45) c_61, Bool.or_true, Bool.true_or] | rw [decide_eq_true (p := gD (fv g 5) x = 95) c_67, Bool.or_true]) (fun _ => hj hbt)
          · skip
            refine M.iload_n dX12_isChallenge_58 rfl ?_
            refine M.bipush (v := 45) dX12_isChallenge_59 (by decide) ?_
            refine M.icmp_eq (tgt := 70) dX12_isChallenge_61 (by decide) (fun c_61 => ?_) (fun c_61 => ?_)
            · skip
              refine M.iconst (v := 1) dX12_isChallenge_70 (by decide) ?_
              refine M.goto (tgt := 75) dX12_isChallenge_71 (by decide) ?_
              refine M.istore_n (L' := [some (.ref m), some (.int 1), some (.int (nI x)), some (.int (gD (fv g 5) x))]) dX12_isChallenge_75 (by decide) rfl rfl ?_
              refine M.iinc (v := nI (x + 1)) (L' := [some (.ref m), some (.int 1), some (.int (nI (x + 1))), some (.int (gD (fv g 5) x))]) dX12_isChallenge_76 rfl (nI_1 x) (by decide) rfl rfl ?_
              refine M.goto (tgt := 27) dX12_isChallenge_79 (by decide) ?_
              refine M.drop (i := 3) (L' := [some (.ref m), some (.int 1), some (.int (nI (x + 1))), none]) rfl ?_
              exact ih_27 j (x + 1) true (by omega) (by omega) (by rw [alln_s, ← Bool.and_assoc, ← hb, hbt, Bool.true_and, chb]; symm; first | rw [bt1 c_55, Bool.true_or, Bool.true_or] | rw [decide_eq_true (p := gD (fv g 5) x = 45) c_61, Bool.or_true, Bool.true_or] | rw [decide_eq_true (p := gD (fv g 5) x = 95) c_67, Bool.or_true]) (fun _ => hj hbt)
            · skip
              refine M.iload_n dX12_isChallenge_64 rfl ?_
              refine M.bipush (v := 95) dX12_isChallenge_65 (by decide) ?_
              refine M.icmp_ne (tgt := 74) dX12_isChallenge_67 (by decide) (fun c_67 => ?_) (fun c_67 => ?_)
              · skip
                refine M.iconst (v := 0) dX12_isChallenge_74 (by decide) ?_
                refine M.istore_n (L' := [some (.ref m), some (.int 0), some (.int (nI x)), some (.int (gD (fv g 5) x))]) dX12_isChallenge_75 (by decide) rfl rfl ?_
                refine M.iinc (v := nI (x + 1)) (L' := [some (.ref m), some (.int 0), some (.int (nI (x + 1))), some (.int (gD (fv g 5) x))]) dX12_isChallenge_76 rfl (nI_1 x) (by decide) rfl rfl ?_
                refine M.goto (tgt := 27) dX12_isChallenge_79 (by decide) ?_
                refine M.drop (i := 3) (L' := [some (.ref m), some (.int 0), some (.int (nI (x + 1))), none]) rfl ?_
                exact ih_27 j (x + 1) false (by omega) (by omega) (by rw [alln_s, chb, (bI_eq0 _).mp c_55, decide_eq_false c_61, decide_eq_false c_67]; simp) (fun q => by cases q)
              · skip
                refine M.iconst (v := 1) dX12_isChallenge_70 (by decide) ?_
                refine M.goto (tgt := 75) dX12_isChallenge_71 (by decide) ?_
                refine M.istore_n (L' := [some (.ref m), some (.int 1), some (.int (nI x)), some (.int (gD (fv g 5) x))]) dX12_isChallenge_75 (by decide) rfl rfl ?_
                refine M.iinc (v := nI (x + 1)) (L' := [some (.ref m), some (.int 1), some (.int (nI (x + 1))), some (.int (gD (fv g 5) x))]) dX12_isChallenge_76 rfl (nI_1 x) (by decide) rfl rfl ?_
                refine M.goto (tgt := 27) dX12_isChallenge_79 (by decide) ?_
                refine M.drop (i := 3) (L' := [some (.ref m), some (.int 1), some (.int (nI (x + 1))), none]) rfl ?_
                exact ih_27 j (x + 1) true (by omega) (by omega) (by rw [alln_s, ← Bool.and_assoc, ← hb, hbt, Bool.true_and, chb]; symm; first | rw [bt1 c_55, Bool.true_or, Bool.true_or] | rw [decide_eq_true (p := gD (fv g 5) x = 45) c_61, Bool.or_true, Bool.true_or] | rw [decide_eq_true (p := gD (fv g 5) x = 95) c_67, Bool.or_true]) (fun _ => hj hbt)
  refine M.aload_nR dX12_isChallenge_0 rfl ?_
  refine M.iconst (v := 5) dX12_isChallenge_1 (by decide) ?_
  refine M.callV [.int 5] dX12_isChallenge_2 mdX12_has imX12_has seX12_has lk_X12_260 rfl rfl rfl rfl (m_hasV hA hv (k := 5) (by decide)) ?_
  rintro _ I9 F9 ⟨rfl, e9, e8⟩
  have e9 := e9.symm; subst e9; have e8 := e8.symm; subst e8
  refine M.if_eq (tgt := 23) dX12_isChallenge_5 (by decide) (fun c_5 => ?_) (fun c_5 => ?_)
  · skip
    have h43 : ¬ (fv g 5).length = 43 := by have := of_decide_eq_false ((bI_eq0 _).mp c_5); omega
    refine M.iconst (v := 0) dX12_isChallenge_23 (by decide) ?_
    refine M.istore_n (L' := [some (.ref m), some (.int 0), none, none]) dX12_isChallenge_24 (by decide) rfl rfl ?_
    refine M.iconst (v := 0) dX12_isChallenge_25 (by decide) ?_
    refine M.istore_n (L' := [some (.ref m), some (.int 0), some (.int 0), none]) dX12_isChallenge_26 (by decide) rfl rfl ?_
    exact cut_27 44 0 0 false (by omega) (by omega) (by rw [decide_eq_false h43]; rfl) (fun q => by cases q)
  · skip
    have h0 := of_decide_eq_true (bt1 c_5)
    obtain ⟨i, a1, a2, a3, a4, a5⟩ := hv.at (k := 5) (by decide) h0
    refine M.aload_nR dX12_isChallenge_8 rfl ?_
    refine M.getr dX12_isChallenge_9 fl_X12_161 rfl rfl ?_
    refine M.iconst (v := 5) dX12_isChallenge_12 (by decide) ?_
    refine M.ialdv (k9 := 65) (j := 5) (g := F 65) (v := nI (fv g 5).length) dX12_isChallenge_13 rfl rfl rfl rfl (show 5 < 13 by omega) a2 ?_
    refine M.bipush (v := 43) dX12_isChallenge_14 (by decide) ?_
    refine M.icmp_ne (tgt := 23) dX12_isChallenge_16 (by decide) (fun c_16 => ?_) (fun c_16 => ?_)
    · skip
      have h43 : ¬ (fv g 5).length = 43 := fun q => c_16 (by rw [q]; rfl)
      refine M.iconst (v := 0) dX12_isChallenge_23 (by decide) ?_
      refine M.istore_n (L' := [some (.ref m), some (.int 0), none, none]) dX12_isChallenge_24 (by decide) rfl rfl ?_
      refine M.iconst (v := 0) dX12_isChallenge_25 (by decide) ?_
      refine M.istore_n (L' := [some (.ref m), some (.int 0), some (.int 0), none]) dX12_isChallenge_26 (by decide) rfl rfl ?_
      exact cut_27 44 0 0 false (by omega) (by omega) (by rw [decide_eq_false h43]; rfl) (fun q => by cases q)
    · skip
      have h43 : (fv g 5).length = 43 := (nI_eq (b := 43) (by omega) (by omega)).mp c_16
      refine M.iconst (v := 1) dX12_isChallenge_19 (by decide) ?_
      refine M.goto (tgt := 24) dX12_isChallenge_20 (by decide) ?_
      refine M.istore_n (L' := [some (.ref m), some (.int 1), none, none]) dX12_isChallenge_24 (by decide) rfl rfl ?_
      refine M.iconst (v := 0) dX12_isChallenge_25 (by decide) ?_
      refine M.istore_n (L' := [some (.ref m), some (.int 1), some (.int 0), none]) dX12_isChallenge_26 (by decide) rfl rfl ?_
      exact cut_27 44 i 0 true (by omega) (by omega) (by rw [decide_eq_true h43]; rfl) (fun _ => ⟨a1, by omega, fun y hy => tl_bs.mp a4 y (by omega)⟩)

theorem m_isVerifier {Λ : kL} {m : Nat} {A : Nat → Nat} {I : Nat → Int32} {F : Nat → Nat → Int32} (hA : mInj A) {g : fvs} (hv : vrl F 2000 g) (h0 : 0 < (fv g 9).length) : mCt Λ mX12_isVerifier m A [.ref m] I F (fun r I' F' => r = some (.int (bI (decide (43 ≤ (fv g 9).length ∧ (fv g 9).length ≤ 128) && (fv g 9).all unres))) ∧ I' = I ∧ F' = F) := by
  refine mCt.of hA pn_X12 [some (.ref m), none, none, none, none] rfl (Nat.le_of_ble_eq_true rfl) fun X => ?_
  obtain ⟨i, a1, a2, a3, a4, a5⟩ := hv.at (k := 9) (by decide) h0
  have cut_29 : ∀ (k_29 : Nat) (x : Nat) (b : Bool), (x ≤ (fv g 9).length) → ((fv g 9).length + 1 ≤ x + k_29) → (b = (decide (43 ≤ (fv g 9).length ∧ (fv g 9).length ≤ 128) && alln (fun y => unres (gD (fv g 9) y)) x)) → M Λ X mX12_isVerifier m A (fun r I' F' => r = some (.int (bI (decide (43 ≤ (fv g 9).length ∧ (fv g 9).length ≤ 128) && (fv g 9).all unres))) ∧ I' = I ∧ F' = F) I F 29 [some (.ref m), some (.int (nI (fv g 9).length)), some (.int (bI b)), some (.int (nI x)), none] [] := by
    intro k_29
    induction k_29 with
    | zero => intro x b h1 h2 hb; exact absurd h2 (by omega)
    | succ k_29 ih_29 =>
      intro x b h1 h2 hb
      refine M.iload_n dX12_isVerifier_29 rfl ?_
      refine M.if_eq (tgt := 102) dX12_isVerifier_30 (by decide) (fun c_30 => ?_) (fun c_30 => ?_)
      · skip
        refine M.iload_n dX12_isVerifier_102 rfl ?_
        refine M.zret dX12_isVerifier_103 rfl (bI_nar _) ?_
        refine ⟨congrArg (fun z => some (Value.int z)) ?_, rfl, rfl⟩
        first
          | (have e0 := (bI_eq0 b).mp c_30; rw [e0]; rw [e0] at hb; by_cases h43 : 43 ≤ (fv g 9).length ∧ (fv g 9).length ≤ 128; rw [decide_eq_true h43, Bool.true_and] at hb; rw [decide_eq_true h43, Bool.true_and, allg, alln_mono hb.symm (by omega)]; rw [decide_eq_false h43]; rfl)
          | (have e1 := nI_gen c_35 h1 (by omega); subst e1; rw [hb, allg])
      · skip
        refine M.iload_n dX12_isVerifier_33 rfl ?_
        refine M.iload_n dX12_isVerifier_34 rfl ?_
        refine M.icmp_ge (tgt := 102) dX12_isVerifier_35 (by decide) (fun c_35 => ?_) (fun c_35 => ?_)
        · skip
          refine M.iload_n dX12_isVerifier_102 rfl ?_
          refine M.zret dX12_isVerifier_103 rfl (bI_nar _) ?_
          refine ⟨congrArg (fun z => some (Value.int z)) ?_, rfl, rfl⟩
          first
            | (have e0 := (bI_eq0 b).mp c_30; rw [e0]; rw [e0] at hb; by_cases h43 : 43 ≤ (fv g 9).length ∧ (fv g 9).length ≤ 128; rw [decide_eq_true h43, Bool.true_and] at hb; rw [decide_eq_true h43, Bool.true_and, allg, alln_mono hb.symm (by omega)]; rw [decide_eq_false h43]; rfl)
            | (have e1 := nI_gen c_35 h1 (by omega); subst e1; rw [hb, allg])
        · skip
          have lt_x : x < (fv g 9).length := nI_ltn c_35 (by omega) (by omega)
          have hbt := bt1 c_30
          refine M.aload_nR dX12_isVerifier_38 rfl ?_
          refine M.getr dX12_isVerifier_39 fl_X12_155 rfl rfl ?_
          refine M.aload_nR dX12_isVerifier_42 rfl ?_
          refine M.getr dX12_isVerifier_43 fl_X12_158 rfl rfl ?_
          refine M.bipush (v := 9) dX12_isVerifier_46 (by decide) ?_
          refine M.ialdv (k9 := 64) (j := 9) (g := F 64) (v := nI i) dX12_isVerifier_48 rfl rfl rfl rfl (show 9 < 13 by omega) a1 ?_
          refine M.iload_n dX12_isVerifier_49 rfl ?_
          refine M.iadd dX12_isVerifier_50 ?_
          rw [show (nI i) + (nI x) = nI (i + x) from nI_add i x]
          refine M.baldv (k9 := 63) (j := i + x) (g := F 63) (v := gD (fv g 9) x) dX12_isVerifier_51 rfl rfl rfl rfl (show i + x < 2000 by omega) (tl_bs.mp a4 x lt_x) ?_
          refine M.istore (L' := [some (.ref m), some (.int (nI (fv g 9).length)), some (.int (bI b)), some (.int (nI x)), some (.int (gD (fv g 9) x))]) dX12_isVerifier_52 (by decide) rfl rfl ?_
          refine M.iload dX12_isVerifier_54 rfl ?_
          refine M.callJ (v := .int (bI (aldg (gD (fv g 9) x)))) [.int (gD (fv g 9) x)] dX12_isVerifier_56 mdX12_isLetterOrDigit ssX12_isLetterOrDigit lk_X12_345 rfl rfl rfl rfl (fun σ9 => m_isLetterOrDigit (gD (fv g 9) x)) ?_
          refine M.if_ne (tgt := 90) dX12_isVerifier_59 (by decide) (fun c_59 => ?_) (fun c_59 => ?_)
          · skip
            refine M.iconst (v := 1) dX12_isVerifier_90 (by decide) ?_
            refine M.goto (tgt := 95) dX12_isVerifier_91 (by decide) ?_
            refine M.istore_n (L' := [some (.ref m), some (.int (nI (fv g 9).length)), some (.int 1), some (.int (nI x)), some (.int (gD (fv g 9) x))]) dX12_isVerifier_95 (by decide) rfl rfl ?_
            refine M.iinc (v := nI (x + 1)) (L' := [some (.ref m), some (.int (nI (fv g 9).length)), some (.int 1), some (.int (nI (x + 1))), some (.int (gD (fv g 9) x))]) dX12_isVerifier_96 rfl (nI_1 x) (by decide) rfl rfl ?_
            refine M.goto (tgt := 29) dX12_isVerifier_99 (by decide) ?_
            refine M.drop (i := 4) (L' := [some (.ref m), some (.int (nI (fv g 9).length)), some (.int 1), some (.int (nI (x + 1))), none]) rfl ?_
            exact ih_29 (x + 1) true (by omega) (by omega) (by rw [alln_s, ← Bool.and_assoc, ← hb, hbt, Bool.true_and, unres]; symm; first | (rw [bt1 c_59]; simp) | (rw [decide_eq_true (p := gD (fv g 9) x = 45) c_66]; simp) | (rw [decide_eq_true (p := gD (fv g 9) x = 46) c_73]; simp) | (rw [decide_eq_true (p := gD (fv g 9) x = 95) c_80]; simp) | (rw [decide_eq_true (p := gD (fv g 9) x = 126) c_87]; simp))
          · skip
            refine M.iload dX12_isVerifier_62 rfl ?_
            refine M.bipush (v := 45) dX12_isVerifier_64 (by decide) ?_
            refine M.icmp_eq (tgt := 90) dX12_isVerifier_66 (by decide) (fun c_66 => ?_) (fun c_66 => ?_)
            · skip
              refine M.iconst (v := 1) dX12_isVerifier_90 (by decide) ?_
              refine M.goto (tgt := 95) dX12_isVerifier_91 (by decide) ?_
              refine M.istore_n (L' := [some (.ref m), some (.int (nI (fv g 9).length)), some (.int 1), some (.int (nI x)), some (.int (gD (fv g 9) x))]) dX12_isVerifier_95 (by decide) rfl rfl ?_
              refine M.iinc (v := nI (x + 1)) (L' := [some (.ref m), some (.int (nI (fv g 9).length)), some (.int 1), some (.int (nI (x + 1))), some (.int (gD (fv g 9) x))]) dX12_isVerifier_96 rfl (nI_1 x) (by decide) rfl rfl ?_
              refine M.goto (tgt := 29) dX12_isVerifier_99 (by decide) ?_
              refine M.drop (i := 4) (L' := [some (.ref m), some (.int (nI (fv g 9).length)), some (.int 1), some (.int (nI (x + 1))), none]) rfl ?_
              exact ih_29 (x + 1) true (by omega) (by omega) (by rw [alln_s, ← Bool.and_assoc, ← hb, hbt, Bool.true_and, unres]; symm; first | (rw [bt1 c_59]; simp) | (rw [decide_eq_true (p := gD (fv g 9) x = 45) c_66]; simp) | (rw [decide_eq_true (p := gD (fv g 9) x = 46) c_73]; simp) | (rw [decide_eq_true (p := gD (fv g 9) x = 95) c_80]; simp) | (rw [decide_eq_true (p := gD (fv g 9) x = 126) c_87]; simp))
            · skip
              refine M.iload dX12_isVerifier_69 rfl ?_
              refine M.bipush (v := 46) dX12_isVerifier_71 (by decide) ?_
              refine M.icmp_eq (tgt := 90) dX12_isVerifier_73 (by decide) (fun c_73 => ?_) (fun c_73 => ?_)
              · skip
                refine M.iconst (v := 1) dX12_isVerifier_90 (by decide) ?_
                refine M.goto (tgt := 95) dX12_isVerifier_91 (by decide) ?_
                refine M.istore_n (L' := [some (.ref m), some (.int (nI (fv g 9).length)), some (.int 1), some (.int (nI x)), some (.int (gD (fv g 9) x))]) dX12_isVerifier_95 (by decide) rfl rfl ?_
                refine M.iinc (v := nI (x + 1)) (L' := [some (.ref m), some (.int (nI (fv g 9).length)), some (.int 1), some (.int (nI (x + 1))), some (.int (gD (fv g 9) x))]) dX12_isVerifier_96 rfl (nI_1 x) (by decide) rfl rfl ?_
                refine M.goto (tgt := 29) dX12_isVerifier_99 (by decide) ?_
                refine M.drop (i := 4) (L' := [some (.ref m), some (.int (nI (fv g 9).length)), some (.int 1), some (.int (nI (x + 1))), none]) rfl ?_
                exact ih_29 (x + 1) true (by omega) (by omega) (by rw [alln_s, ← Bool.and_assoc, ← hb, hbt, Bool.true_and, unres]; symm; first | (rw [bt1 c_59]; simp) | (rw [decide_eq_true (p := gD (fv g 9) x = 45) c_66]; simp) | (rw [decide_eq_true (p := gD (fv g 9) x = 46) c_73]; simp) | (rw [decide_eq_true (p := gD (fv g 9) x = 95) c_80]; simp) | (rw [decide_eq_true (p := gD (fv g 9) x = 126) c_87]; simp))
              · skip
                refine M.iload dX12_isVerifier_76 rfl ?_
                refine M.bipush (v := 95) dX12_isVerifier_78 (by decide) ?_
                refine M.icmp_eq (tgt := 90) dX12_isVerifier_80 (by decide) (fun c_80 => ?_) (fun c_80 => ?_)
                · skip
                  refine M.iconst (v := 1) dX12_isVerifier_90 (by decide) ?_
                  refine M.goto (tgt := 95) dX12_isVerifier_91 (by decide) ?_
                  refine M.istore_n (L' := [some (.ref m), some (.int (nI (fv g 9).length)), some (.int 1), some (.int (nI x)), some (.int (gD (fv g 9) x))]) dX12_isVerifier_95 (by decide) rfl rfl ?_
                  refine M.iinc (v := nI (x + 1)) (L' := [some (.ref m), some (.int (nI (fv g 9).length)), some (.int 1), some (.int (nI (x + 1))), some (.int (gD (fv g 9) x))]) dX12_isVerifier_96 rfl (nI_1 x) (by decide) rfl rfl ?_
                  refine M.goto (tgt := 29) dX12_isVerifier_99 (by decide) ?_
                  refine M.drop (i := 4) (L' := [some (.ref m), some (.int (nI (fv g 9).length)), some (.int 1), some (.int (nI (x + 1))), none]) rfl ?_
                  exact ih_29 (x + 1) true (by omega) (by omega) (by rw [alln_s, ← Bool.and_assoc, ← hb, hbt, Bool.true_and, unres]; symm; first | (rw [bt1 c_59]; simp) | (rw [decide_eq_true (p := gD (fv g 9) x = 45) c_66]; simp) | (rw [decide_eq_true (p := gD (fv g 9) x = 46) c_73]; simp) | (rw [decide_eq_true (p := gD (fv g 9) x = 95) c_80]; simp) | (rw [decide_eq_true (p := gD (fv g 9) x = 126) c_87]; simp))
                · skip
                  refine M.iload dX12_isVerifier_83 rfl ?_
                  refine M.bipush (v := 126) dX12_isVerifier_85 (by decide) ?_
                  refine M.icmp_ne (tgt := 94) dX12_isVerifier_87 (by decide) (fun c_87 => ?_) (fun c_87 => ?_)
                  · skip
                    refine M.iconst (v := 0) dX12_isVerifier_94 (by decide) ?_
                    refine M.istore_n (L' := [some (.ref m), some (.int (nI (fv g 9).length)), some (.int 0), some (.int (nI x)), some (.int (gD (fv g 9) x))]) dX12_isVerifier_95 (by decide) rfl rfl ?_
                    refine M.iinc (v := nI (x + 1)) (L' := [some (.ref m), some (.int (nI (fv g 9).length)), some (.int 0), some (.int (nI (x + 1))), some (.int (gD (fv g 9) x))]) dX12_isVerifier_96 rfl (nI_1 x) (by decide) rfl rfl ?_
                    refine M.goto (tgt := 29) dX12_isVerifier_99 (by decide) ?_
                    refine M.drop (i := 4) (L' := [some (.ref m), some (.int (nI (fv g 9).length)), some (.int 0), some (.int (nI (x + 1))), none]) rfl ?_
                    exact ih_29 (x + 1) false (by omega) (by omega) (by rw [alln_s, unres, (bI_eq0 _).mp c_59, decide_eq_false c_66, decide_eq_false c_73, decide_eq_false c_80, decide_eq_false c_87]; simp)
                  · skip
                    refine M.iconst (v := 1) dX12_isVerifier_90 (by decide) ?_
                    refine M.goto (tgt := 95) dX12_isVerifier_91 (by decide) ?_
                    refine M.istore_n (L' := [some (.ref m), some (.int (nI (fv g 9).length)), some (.int 1), some (.int (nI x)), some (.int (gD (fv g 9) x))]) dX12_isVerifier_95 (by decide) rfl rfl ?_
                    refine M.iinc (v := nI (x + 1)) (L' := [some (.ref m), some (.int (nI (fv g 9).length)), some (.int 1), some (.int (nI (x + 1))), some (.int (gD (fv g 9) x))]) dX12_isVerifier_96 rfl (nI_1 x) (by decide) rfl rfl ?_
                    refine M.goto (tgt := 29) dX12_isVerifier_99 (by decide) ?_
                    refine M.drop (i := 4) (L' := [some (.ref m), some (.int (nI (fv g 9).length)), some (.int 1), some (.int (nI (x + 1))), none]) rfl ?_
                    exact ih_29 (x + 1) true (by omega) (by omega) (by rw [alln_s, ← Bool.and_assoc, ← hb, hbt, Bool.true_and, unres]; symm; first | (rw [bt1 c_59]; simp) | (rw [decide_eq_true (p := gD (fv g 9) x = 45) c_66]; simp) | (rw [decide_eq_true (p := gD (fv g 9) x = 46) c_73]; simp) | (rw [decide_eq_true (p := gD (fv g 9) x = 95) c_80]; simp) | (rw [decide_eq_true (p := gD (fv g 9) x = 126) c_87]; simp))
  refine M.aload_nR dX12_isVerifier_0 rfl ?_
  refine M.getr dX12_isVerifier_1 fl_X12_161 rfl rfl ?_
  refine M.bipush (v := 9) dX12_isVerifier_4 (by decide) ?_
  refine M.ialdv (k9 := 65) (j := 9) (g := F 65) (v := nI (fv g 9).length) dX12_isVerifier_6 rfl rfl rfl rfl (show 9 < 13 by omega) a2 ?_
  refine M.istore_n (L' := [some (.ref m), some (.int (nI (fv g 9).length)), none, none, none]) dX12_isVerifier_7 (by decide) rfl rfl ?_
  refine M.iload_n dX12_isVerifier_8 rfl ?_
  refine M.bipush (v := 43) dX12_isVerifier_9 (by decide) ?_
  refine M.icmp_lt (tgt := 25) dX12_isVerifier_11 (by decide) (fun c_11 => ?_) (fun c_11 => ?_)
  · skip
    refine M.iconst (v := 0) dX12_isVerifier_25 (by decide) ?_
    refine M.istore_n (L' := [some (.ref m), some (.int (nI (fv g 9).length)), some (.int 0), none, none]) dX12_isVerifier_26 (by decide) rfl rfl ?_
    refine M.iconst (v := 0) dX12_isVerifier_27 (by decide) ?_
    refine M.istore_n (L' := [some (.ref m), some (.int (nI (fv g 9).length)), some (.int 0), some (.int 0), none]) dX12_isVerifier_28 (by decide) rfl rfl ?_
    exact cut_29 ((fv g 9).length + 1) 0 false (by omega) (by omega) (by rw [decide_eq_false (fun q => by first | exact nI_nlt (b := 43) q.1 (by omega) c_11 | exact nI_nlt (a := 128) q.2 (by omega) c_18)]; rfl)
  · skip
    refine M.iload_n dX12_isVerifier_14 rfl ?_
    refine M.sipush (v := 128) dX12_isVerifier_15 (by decide) ?_
    refine M.icmp_gt (tgt := 25) dX12_isVerifier_18 (by decide) (fun c_18 => ?_) (fun c_18 => ?_)
    · skip
      refine M.iconst (v := 0) dX12_isVerifier_25 (by decide) ?_
      refine M.istore_n (L' := [some (.ref m), some (.int (nI (fv g 9).length)), some (.int 0), none, none]) dX12_isVerifier_26 (by decide) rfl rfl ?_
      refine M.iconst (v := 0) dX12_isVerifier_27 (by decide) ?_
      refine M.istore_n (L' := [some (.ref m), some (.int (nI (fv g 9).length)), some (.int 0), some (.int 0), none]) dX12_isVerifier_28 (by decide) rfl rfl ?_
      exact cut_29 ((fv g 9).length + 1) 0 false (by omega) (by omega) (by rw [decide_eq_false (fun q => by first | exact nI_nlt (b := 43) q.1 (by omega) c_11 | exact nI_nlt (a := 128) q.2 (by omega) c_18)]; rfl)
    · skip
      refine M.iconst (v := 1) dX12_isVerifier_21 (by decide) ?_
      refine M.goto (tgt := 26) dX12_isVerifier_22 (by decide) ?_
      refine M.istore_n (L' := [some (.ref m), some (.int (nI (fv g 9).length)), some (.int 1), none, none]) dX12_isVerifier_26 (by decide) rfl rfl ?_
      refine M.iconst (v := 0) dX12_isVerifier_27 (by decide) ?_
      refine M.istore_n (L' := [some (.ref m), some (.int (nI (fv g 9).length)), some (.int 1), some (.int 0), none]) dX12_isVerifier_28 (by decide) rfl rfl ?_
      exact cut_29 ((fv g 9).length + 1) 0 true (by omega) (by omega) (by rw [decide_eq_true ⟨(nI_leI (a := 43) (by omega) (by omega)).mp (Int32.not_lt.mp c_11), (nI_leI (b := 128) (by omega) (by omega)).mp (Int32.not_lt.mp c_18)⟩]; rfl)

theorem m_isRedirectOf {Λ : kL} {m : Nat} {A : Nat → Nat} {I : Nat → Int32} {F : Nat → Nat → Int32} (hA : mInj A) {c : Nat} (hc : c < 8) {R : List (List Int32)} (hR : mRd F c R) {g : fvs} (hv : vrl F 2000 g) (h0 : 0 < (fv g 2).length) {k r : Nat} (hk : k < 200) (hr : r < R.length) (h29 : F 29 k = nI c) (h30 : F 30 k = nI r) : mCt Λ mX12_isRedirectOf m A [.ref m, .int (nI k)] I F (fun r9 I' F' => r9 = some (.int (bI (decide (fv g 2 = R.getD r [])))) ∧ I' = I ∧ F' = F) := by
  refine mCt.of hA pn_X12 [some (.ref m), some (.int (nI k)), none] rfl (Nat.le_of_ble_eq_true rfl) fun X => ?_
  obtain ⟨i, a1, a2, a3, a4, a5⟩ := hv.at (k := 2) (by decide) h0
  have hx := hR.2.2 r hr
  have hR3 := hR.2.1
  refine M.iconst (v := 3) dX12_isRedirectOf_0 (by decide) ?_
  refine M.aload_nR dX12_isRedirectOf_1 rfl ?_
  refine M.getr dX12_isRedirectOf_2 fl_X12_70 rfl rfl ?_
  refine M.iload_n dX12_isRedirectOf_5 rfl ?_
  refine M.ialdv (k9 := 29) (j := k) (g := F 29) (v := nI c) dX12_isRedirectOf_6 rfl rfl rfl rfl (show k < 200 by omega) h29 ?_
  refine M.imul dX12_isRedirectOf_7 ?_
  rw [show 3 * (nI c) = nI (3 * c) from nI_mulc 3 c]
  refine M.aload_nR dX12_isRedirectOf_8 rfl ?_
  refine M.getr dX12_isRedirectOf_9 fl_X12_73 rfl rfl ?_
  refine M.iload_n dX12_isRedirectOf_12 rfl ?_
  refine M.ialdv (k9 := 30) (j := k) (g := F 30) (v := nI r) dX12_isRedirectOf_13 rfl rfl rfl rfl (show k < 200 by omega) h30 ?_
  refine M.iadd dX12_isRedirectOf_14 ?_
  rw [show (nI (3 * c)) + (nI r) = nI (3 * c + r) from nI_add (3 * c) r]
  refine M.istore_n (L' := [some (.ref m), some (.int (nI k)), some (.int (nI (3 * c + r)))]) dX12_isRedirectOf_15 (by decide) rfl rfl ?_
  refine M.aload_nR dX12_isRedirectOf_16 rfl ?_
  refine M.getr dX12_isRedirectOf_17 fl_X12_155 rfl rfl ?_
  refine M.aload_nR dX12_isRedirectOf_20 rfl ?_
  refine M.getr dX12_isRedirectOf_21 fl_X12_158 rfl rfl ?_
  refine M.iconst (v := 2) dX12_isRedirectOf_24 (by decide) ?_
  refine M.ialdv (k9 := 64) (j := 2) (g := F 64) (v := nI i) dX12_isRedirectOf_25 rfl rfl rfl rfl (show 2 < 13 by omega) a1 ?_
  refine M.aload_nR dX12_isRedirectOf_26 rfl ?_
  refine M.getr dX12_isRedirectOf_27 fl_X12_161 rfl rfl ?_
  refine M.iconst (v := 2) dX12_isRedirectOf_30 (by decide) ?_
  refine M.ialdv (k9 := 65) (j := 2) (g := F 65) (v := nI (fv g 2).length) dX12_isRedirectOf_31 rfl rfl rfl rfl (show 2 < 13 by omega) a2 ?_
  refine M.aload_nR dX12_isRedirectOf_32 rfl ?_
  refine M.getr dX12_isRedirectOf_33 fl_X12_45 rfl rfl ?_
  refine M.bipush (v := 80) dX12_isRedirectOf_36 (by decide) ?_
  refine M.iload_n dX12_isRedirectOf_38 rfl ?_
  refine M.imul dX12_isRedirectOf_39 ?_
  rw [show 80 * (nI (3 * c + r)) = nI (80 * (3 * c + r)) from nI_mulc 80 (3 * c + r)]
  refine M.aload_nR dX12_isRedirectOf_40 rfl ?_
  refine M.getr dX12_isRedirectOf_41 fl_X12_48 rfl rfl ?_
  refine M.iload_n dX12_isRedirectOf_44 rfl ?_
  refine M.ialdv (k9 := 18) (j := 3 * c + r) (g := F 18) (v := nI (R.getD r []).length) dX12_isRedirectOf_45 rfl rfl rfl rfl (show 3 * c + r < 24 by omega) hx.1 ?_
  refine M.callS [.ref (A 63), .int (nI i), .int (nI (fv g 2).length), .ref (A 17), .int (nI (80 * (3 * c + r))), .int (nI (R.getD r []).length)] dX12_isRedirectOf_46 mdX12_isLike ssX12_isLike lk_X12_264 rfl rfl rfl rfl (m_likeV hA (kb := 17) rfl rfl (v := fv g 2) (w := R.getD r []) a3 a4 (show 80 * (3 * c + r) + (R.getD r []).length ≤ 1920 by omega) hx.2.2) ?_
  rintro _ I9 F9 ⟨rfl, e9, e8⟩
  have e9 := e9.symm; subst e9; have e8 := e8.symm; subst e8
  refine M.zret dX12_isRedirectOf_49 rfl (bI_nar _) ?_
  exact ⟨rfl, rfl, rfl⟩

theorem m_asker {Λ : kL} {m : Nat} {A : Nat → Nat} {I : Nat → Int32} {F : Nat → Nat → Int32} (hA : mInj A) {T S : List (List Int32)} {cf : Nat → Bool} (h20 : I 20 = nI T.length) (hT : T.length ≤ 8) (hid : mTx F 10 11 20 T) (hnd : noDup T) (hSl : S.length = T.length) (hsx : mTx F 12 13 20 S) (hcf : ∀ k, k < T.length → F 14 k = bI (cf k)) {g : fvs} (hv : vrl F 2000 g) : mCt Λ mX12_asker m A [.ref m] I F (fun r I' F' => r = some (.int (whoS T S cf (fv g 1) (fv g 10))) ∧ I' = I ∧ F' = F) := by
  refine mCt.of hA pn_X12 [some (.ref m), none, none] rfl (Nat.le_of_ble_eq_true rfl) fun X => ?_
  refine M.aload_nR dX12_asker_0 rfl ?_
  refine M.callV [] dX12_asker_1 mdX12_clientOf imX12_clientOf seX12_clientOf lk_X12_375 rfl rfl rfl rfl (m_clientOfS hA h20 hT hid hnd hv) ?_
  rintro _ I9 F9 ⟨rfl, e9, e8⟩
  have e9 := e9.symm; subst e9; have e8 := e8.symm; subst e8
  refine M.istore_n (L' := [some (.ref m), some (.int (clS T (fv g 1))), none]) dX12_asker_4 (by decide) rfl rfl ?_
  refine M.iload_n dX12_asker_5 rfl ?_
  refine M.if_ge (tgt := 11) dX12_asker_6 (by decide) (fun c_6 => ?_) (fun c_6 => ?_)
  · skip
    have hcp := clS_pos (Int32.not_lt.mpr c_6)
    rw [show clS T (fv g 1) = nI (fnd T (fv g 1)) from if_pos hcp]
    have hx := hsx _ (by rw [hSl]; exact hcp.2)
    refine M.aload_nR dX12_asker_11 rfl ?_
    refine M.getr dX12_asker_12 fl_X12_35 rfl rfl ?_
    refine M.iload_n dX12_asker_15 rfl ?_
    refine M.zaldv (k9 := 14) (j := fnd T (fv g 1)) (g := F 14) (v := bI (cf (fnd T (fv g 1)))) dX12_asker_16 rfl rfl rfl rfl (show fnd T (fv g 1) < 8 by omega) (hcf _ hcp.2) ?_
    refine M.if_eq (tgt := 75) dX12_asker_17 (by decide) (fun c_17 => ?_) (fun c_17 => ?_)
    · skip
      refine M.aload_nR dX12_asker_75 rfl ?_
      refine M.bipush (v := 10) dX12_asker_76 (by decide) ?_
      refine M.callV [.int 10] dX12_asker_78 mdX12_has imX12_has seX12_has lk_X12_260 rfl rfl rfl rfl (m_hasV hA hv (k := 10) (by decide)) ?_
      rintro _ I9 F9 ⟨rfl, e9, e8⟩
      have e9 := e9.symm; subst e9; have e8 := e8.symm; subst e8
      refine M.if_ne (tgt := 88) dX12_asker_81 (by decide) (fun c_81 => ?_) (fun c_81 => ?_)
      · skip
        refine M.iconst (v := 0) dX12_asker_88 (by decide) ?_
        refine M.istore_n (L' := [some (.ref m), some (.int (nI (fnd T (fv g 1)))), some (.int 0)]) dX12_asker_89 (by decide) rfl rfl ?_
        refine M.iload_n dX12_asker_90 rfl ?_
        refine M.if_eq (tgt := 98) dX12_asker_91 (by decide) (fun c_91 => ?_) (fun c_91 => absurd rfl c_91)
        refine M.iconst (v := (-1)) dX12_asker_98 (by decide) ?_
        refine M.iret dX12_asker_99 rfl ?_
        refine ⟨congrArg (fun z => some (Value.int z)) ?_, rfl, rfl⟩
        rw [whoS, if_pos hcp]
        first
          | rw [if_pos (bt1 c_17), (bI_eq0 _).mp c_26, Bool.false_and, if_neg (by decide)]
          | rw [if_pos (bt1 c_17), bt1 c_26, (bI_eq0 _).mp c_64, Bool.and_false, if_neg (by decide)]
          | rw [if_pos (bt1 c_17), bt1 c_26, bt1 c_64, Bool.and_true, if_pos rfl]
          | rw [(bI_eq0 _).mp c_17, if_neg (show ¬ false = true by decide), (bI_eq0 _).mp c_81, Bool.not_false, if_pos rfl]
          | rw [(bI_eq0 _).mp c_17, if_neg (show ¬ false = true by decide), bt1 c_81, Bool.not_true, if_neg (by decide)]
      · skip
        refine M.iconst (v := 1) dX12_asker_84 (by decide) ?_
        refine M.goto (tgt := 89) dX12_asker_85 (by decide) ?_
        refine M.istore_n (L' := [some (.ref m), some (.int (nI (fnd T (fv g 1)))), some (.int 1)]) dX12_asker_89 (by decide) rfl rfl ?_
        refine M.iload_n dX12_asker_90 rfl ?_
        refine M.if_eq (tgt := 98) dX12_asker_91 (by decide) (fun c_91 => absurd c_91 (by decide)) (fun c_91 => ?_)
        refine M.iload_n dX12_asker_94 rfl ?_
        refine M.goto (tgt := 99) dX12_asker_95 (by decide) ?_
        refine M.iret dX12_asker_99 rfl ?_
        refine ⟨congrArg (fun z => some (Value.int z)) ?_, rfl, rfl⟩
        rw [whoS, if_pos hcp]
        first
          | rw [if_pos (bt1 c_17), (bI_eq0 _).mp c_26, Bool.false_and, if_neg (by decide)]
          | rw [if_pos (bt1 c_17), bt1 c_26, (bI_eq0 _).mp c_64, Bool.and_false, if_neg (by decide)]
          | rw [if_pos (bt1 c_17), bt1 c_26, bt1 c_64, Bool.and_true, if_pos rfl]
          | rw [(bI_eq0 _).mp c_17, if_neg (show ¬ false = true by decide), (bI_eq0 _).mp c_81, Bool.not_false, if_pos rfl]
          | rw [(bI_eq0 _).mp c_17, if_neg (show ¬ false = true by decide), bt1 c_81, Bool.not_true, if_neg (by decide)]
    · skip
      refine M.aload_nR dX12_asker_20 rfl ?_
      refine M.bipush (v := 10) dX12_asker_21 (by decide) ?_
      refine M.callV [.int 10] dX12_asker_23 mdX12_has imX12_has seX12_has lk_X12_260 rfl rfl rfl rfl (m_hasV hA hv (k := 10) (by decide)) ?_
      rintro _ I9 F9 ⟨rfl, e9, e8⟩
      have e9 := e9.symm; subst e9; have e8 := e8.symm; subst e8
      refine M.if_eq (tgt := 71) dX12_asker_26 (by decide) (fun c_26 => ?_) (fun c_26 => ?_)
      · skip
        refine M.iconst (v := 0) dX12_asker_71 (by decide) ?_
        refine M.goto (tgt := 89) dX12_asker_72 (by decide) ?_
        refine M.istore_n (L' := [some (.ref m), some (.int (nI (fnd T (fv g 1)))), some (.int 0)]) dX12_asker_89 (by decide) rfl rfl ?_
        refine M.iload_n dX12_asker_90 rfl ?_
        refine M.if_eq (tgt := 98) dX12_asker_91 (by decide) (fun c_91 => ?_) (fun c_91 => absurd rfl c_91)
        refine M.iconst (v := (-1)) dX12_asker_98 (by decide) ?_
        refine M.iret dX12_asker_99 rfl ?_
        refine ⟨congrArg (fun z => some (Value.int z)) ?_, rfl, rfl⟩
        rw [whoS, if_pos hcp]
        first
          | rw [if_pos (bt1 c_17), (bI_eq0 _).mp c_26, Bool.false_and, if_neg (by decide)]
          | rw [if_pos (bt1 c_17), bt1 c_26, (bI_eq0 _).mp c_64, Bool.and_false, if_neg (by decide)]
          | rw [if_pos (bt1 c_17), bt1 c_26, bt1 c_64, Bool.and_true, if_pos rfl]
          | rw [(bI_eq0 _).mp c_17, if_neg (show ¬ false = true by decide), (bI_eq0 _).mp c_81, Bool.not_false, if_pos rfl]
          | rw [(bI_eq0 _).mp c_17, if_neg (show ¬ false = true by decide), bt1 c_81, Bool.not_true, if_neg (by decide)]
      · skip
        have h0 := of_decide_eq_true (bt1 c_26)
        obtain ⟨i, a1, a2, a3, a4, a5⟩ := hv.at (k := 10) (by decide) h0
        refine M.aload_nR dX12_asker_29 rfl ?_
        refine M.getr dX12_asker_30 fl_X12_155 rfl rfl ?_
        refine M.aload_nR dX12_asker_33 rfl ?_
        refine M.getr dX12_asker_34 fl_X12_158 rfl rfl ?_
        refine M.bipush (v := 10) dX12_asker_37 (by decide) ?_
        refine M.ialdv (k9 := 64) (j := 10) (g := F 64) (v := nI i) dX12_asker_39 rfl rfl rfl rfl (show 10 < 13 by omega) a1 ?_
        refine M.aload_nR dX12_asker_40 rfl ?_
        refine M.getr dX12_asker_41 fl_X12_161 rfl rfl ?_
        refine M.bipush (v := 10) dX12_asker_44 (by decide) ?_
        refine M.ialdv (k9 := 65) (j := 10) (g := F 65) (v := nI (fv g 10).length) dX12_asker_46 rfl rfl rfl rfl (show 10 < 13 by omega) a2 ?_
        refine M.aload_nR dX12_asker_47 rfl ?_
        refine M.getr dX12_asker_48 fl_X12_29 rfl rfl ?_
        refine M.bipush (v := 20) dX12_asker_51 (by decide) ?_
        refine M.iload_n dX12_asker_53 rfl ?_
        refine M.imul dX12_asker_54 ?_
        rw [show 20 * (nI (fnd T (fv g 1))) = nI (20 * fnd T (fv g 1)) from nI_mulc 20 (fnd T (fv g 1))]
        refine M.aload_nR dX12_asker_55 rfl ?_
        refine M.getr dX12_asker_56 fl_X12_32 rfl rfl ?_
        refine M.iload_n dX12_asker_59 rfl ?_
        refine M.ialdv (k9 := 13) (j := fnd T (fv g 1)) (g := F 13) (v := nI (S.getD (fnd T (fv g 1)) []).length) dX12_asker_60 rfl rfl rfl rfl (show fnd T (fv g 1) < 8 by omega) hx.1 ?_
        refine M.callS [.ref (A 63), .int (nI i), .int (nI (fv g 10).length), .ref (A 12), .int (nI (20 * fnd T (fv g 1))), .int (nI (S.getD (fnd T (fv g 1)) []).length)] dX12_asker_61 mdX12_isLike ssX12_isLike lk_X12_264 rfl rfl rfl rfl (m_likeV hA (kb := 12) rfl rfl (v := fv g 10) (w := S.getD (fnd T (fv g 1)) []) a3 a4 (show 20 * fnd T (fv g 1) + (S.getD (fnd T (fv g 1)) []).length ≤ 160 by omega) hx.2.2) ?_
        rintro _ I9 F9 ⟨rfl, e9, e8⟩
        have e9 := e9.symm; subst e9; have e8 := e8.symm; subst e8
        refine M.if_eq (tgt := 71) dX12_asker_64 (by decide) (fun c_64 => ?_) (fun c_64 => ?_)
        · skip
          refine M.iconst (v := 0) dX12_asker_71 (by decide) ?_
          refine M.goto (tgt := 89) dX12_asker_72 (by decide) ?_
          refine M.istore_n (L' := [some (.ref m), some (.int (nI (fnd T (fv g 1)))), some (.int 0)]) dX12_asker_89 (by decide) rfl rfl ?_
          refine M.iload_n dX12_asker_90 rfl ?_
          refine M.if_eq (tgt := 98) dX12_asker_91 (by decide) (fun c_91 => ?_) (fun c_91 => absurd rfl c_91)
          refine M.iconst (v := (-1)) dX12_asker_98 (by decide) ?_
          refine M.iret dX12_asker_99 rfl ?_
          refine ⟨congrArg (fun z => some (Value.int z)) ?_, rfl, rfl⟩
          rw [whoS, if_pos hcp]
          first
            | rw [if_pos (bt1 c_17), (bI_eq0 _).mp c_26, Bool.false_and, if_neg (by decide)]
            | rw [if_pos (bt1 c_17), bt1 c_26, (bI_eq0 _).mp c_64, Bool.and_false, if_neg (by decide)]
            | rw [if_pos (bt1 c_17), bt1 c_26, bt1 c_64, Bool.and_true, if_pos rfl]
            | rw [(bI_eq0 _).mp c_17, if_neg (show ¬ false = true by decide), (bI_eq0 _).mp c_81, Bool.not_false, if_pos rfl]
            | rw [(bI_eq0 _).mp c_17, if_neg (show ¬ false = true by decide), bt1 c_81, Bool.not_true, if_neg (by decide)]
        · skip
          refine M.iconst (v := 1) dX12_asker_67 (by decide) ?_
          refine M.goto (tgt := 89) dX12_asker_68 (by decide) ?_
          refine M.istore_n (L' := [some (.ref m), some (.int (nI (fnd T (fv g 1)))), some (.int 1)]) dX12_asker_89 (by decide) rfl rfl ?_
          refine M.iload_n dX12_asker_90 rfl ?_
          refine M.if_eq (tgt := 98) dX12_asker_91 (by decide) (fun c_91 => absurd c_91 (by decide)) (fun c_91 => ?_)
          refine M.iload_n dX12_asker_94 rfl ?_
          refine M.goto (tgt := 99) dX12_asker_95 (by decide) ?_
          refine M.iret dX12_asker_99 rfl ?_
          refine ⟨congrArg (fun z => some (Value.int z)) ?_, rfl, rfl⟩
          rw [whoS, if_pos hcp]
          first
            | rw [if_pos (bt1 c_17), (bI_eq0 _).mp c_26, Bool.false_and, if_neg (by decide)]
            | rw [if_pos (bt1 c_17), bt1 c_26, (bI_eq0 _).mp c_64, Bool.and_false, if_neg (by decide)]
            | rw [if_pos (bt1 c_17), bt1 c_26, bt1 c_64, Bool.and_true, if_pos rfl]
            | rw [(bI_eq0 _).mp c_17, if_neg (show ¬ false = true by decide), (bI_eq0 _).mp c_81, Bool.not_false, if_pos rfl]
            | rw [(bI_eq0 _).mp c_17, if_neg (show ¬ false = true by decide), bt1 c_81, Bool.not_true, if_neg (by decide)]
  · skip
    refine M.iconst (v := (-1)) dX12_asker_9 (by decide) ?_
    refine M.iret dX12_asker_10 rfl ?_
    refine ⟨congrArg (fun z => some (Value.int z)) ?_, rfl, rfl⟩
    rw [whoS, if_neg (clS_neg (Int32.not_le.mp c_6) hT)]
