/-! what a form says (over the bytes of a tape by their places) -/
def decI (f : Nat → Int32) (p q : Nat) : Option (List Int32) :=
  if h : q ≤ p then some []
  else if f p = 37 then
    if q < p + 3 ∨ hexd (f (p + 1)) < 0 ∨ hexd (f (p + 2)) < 0 then none
    else (decI f (p + 3) q).map fun z => b8 (16 * hexd (f (p + 1)) + hexd (f (p + 2))) :: z
  else if visb (f p) = true then (decI f (p + 1) q).map fun z => (if f p = 43 then 32 else f p) :: z
  else none
termination_by q - p
decreasing_by all_goals omega
theorem decI_end {f : Nat → Int32} {p q : Nat} (h : q ≤ p) : decI f p q = some [] := by rw [decI, dif_pos h]
theorem decI_bad {f : Nat → Int32} {p q : Nat} (h : p < q) (h1 : f p = 37) (h2 : q < p + 3 ∨ hexd (f (p + 1)) < 0 ∨ hexd (f (p + 2)) < 0) : decI f p q = none := by rw [decI, dif_neg (by omega), if_pos h1, if_pos h2]
theorem decI_pct {f : Nat → Int32} {p q : Nat} (h : p < q) (h1 : f p = 37) (h2 : ¬ (q < p + 3 ∨ hexd (f (p + 1)) < 0 ∨ hexd (f (p + 2)) < 0)) : decI f p q = (decI f (p + 3) q).map fun z => b8 (16 * hexd (f (p + 1)) + hexd (f (p + 2))) :: z := by rw [decI, dif_neg (by omega), if_pos h1, if_neg h2]
theorem decI_vis {f : Nat → Int32} {p q : Nat} (h : p < q) (h1 : ¬ f p = 37) (h2 : visb (f p) = true) : decI f p q = (decI f (p + 1) q).map fun z => (if f p = 43 then 32 else f p) :: z := by rw [decI, dif_neg (by omega), if_neg h1, if_pos h2]
theorem decI_inv {f : Nat → Int32} {p q : Nat} (h : p < q) (h1 : ¬ f p = 37) (h2 : ¬ visb (f p) = true) : decI f p q = none := by rw [decI, dif_neg (by omega), if_neg h1, if_neg h2]
theorem decI_len {f : Nat → Int32} (n : Nat) : ∀ (p q : Nat) (l : List Int32), q - p ≤ n → decI f p q = some l → l.length ≤ q - p := by
  induction n with
  | zero =>
    intro p q l h e
    rw [decI_end (by omega)] at e
    cases e
    exact Nat.zero_le _
  | succ n ih =>
    intro p q l h e
    by_cases h0 : q ≤ p
    · rw [decI_end h0] at e; cases e; exact Nat.zero_le _
    · by_cases h1 : f p = 37
      · by_cases h2 : q < p + 3 ∨ hexd (f (p + 1)) < 0 ∨ hexd (f (p + 2)) < 0
        · rw [decI_bad (by omega) h1 h2] at e; cases e
        · rw [decI_pct (by omega) h1 h2] at e
          obtain ⟨z, hz, e2⟩ := Option.map_eq_some_iff.mp e
          subst e2
          have := ih _ _ _ (by omega) hz
          rw [List.length_cons]
          omega
      · by_cases h2 : visb (f p) = true
        · rw [decI_vis (by omega) h1 h2] at e
          obtain ⟨z, hz, e2⟩ := Option.map_eq_some_iff.mp e
          subst e2
          have := ih _ _ _ (by omega) hz
          rw [List.length_cons]
          omega
        · rw [decI_inv (by omega) h1 h2] at e; cases e
theorem decI_congr {f g : Nat → Int32} (n : Nat) : ∀ (p q : Nat), q - p ≤ n → (∀ j, p ≤ j → j < q → f j = g j) → decI f p q = decI g p q := by
  induction n with
  | zero => intro p q h _; rw [decI_end (by omega), decI_end (by omega)]
  | succ n ih =>
    intro p q h e
    by_cases h0 : q ≤ p
    · rw [decI_end h0, decI_end h0]
    · have e0 := e p (by omega) (by omega)
      by_cases h1 : f p = 37
      · have h1' : g p = 37 := by rw [← e0]; exact h1
        by_cases h3 : q < p + 3
        · rw [decI_bad (by omega) h1 (Or.inl h3), decI_bad (by omega) h1' (Or.inl h3)]
        · have e1 := e (p + 1) (by omega) (by omega)
          have e2 := e (p + 2) (by omega) (by omega)
          by_cases h2 : q < p + 3 ∨ hexd (f (p + 1)) < 0 ∨ hexd (f (p + 2)) < 0
          · rw [decI_bad (by omega) h1 h2, decI_bad (by omega) h1' (by rw [← e1, ← e2]; exact h2)]
          · rw [decI_pct (by omega) h1 h2, decI_pct (by omega) h1' (by rw [← e1, ← e2]; exact h2), e1, e2, ih (p + 3) q (by omega) (fun j a b => e j (by omega) b)]
      · have h1' : ¬ g p = 37 := by rw [← e0]; exact h1
        by_cases h2 : visb (f p) = true
        · rw [decI_vis (by omega) h1 h2, decI_vis (by omega) h1' (by rw [← e0]; exact h2), e0, ih (p + 1) q (by omega) (fun j a b => e j (by omega) b)]
        · rw [decI_inv (by omega) h1 h2, decI_inv (by omega) h1' (by rw [← e0]; exact h2)]
theorem decI_byt {f : Nat → Int32} (hf : ∀ j, b8 (f j) = f j) (n : Nat) : ∀ (p q : Nat) (l : List Int32), q - p ≤ n → decI f p q = some l → ∀ x ∈ l, b8 x = x := by
  induction n with
  | zero =>
    intro p q l h e
    rw [decI_end (by omega)] at e
    cases e
    intro x hx
    cases hx
  | succ n ih =>
    intro p q l h e x hx
    by_cases h0 : q ≤ p
    · rw [decI_end h0] at e; cases e; cases hx
    · by_cases h1 : f p = 37
      · by_cases h2 : q < p + 3 ∨ hexd (f (p + 1)) < 0 ∨ hexd (f (p + 2)) < 0
        · rw [decI_bad (by omega) h1 h2] at e; cases e
        · rw [decI_pct (by omega) h1 h2] at e
          obtain ⟨z, hz, e2⟩ := Option.map_eq_some_iff.mp e
          subst e2
          rcases List.mem_cons.mp hx with e3 | e3
          · rw [e3, b8_b8]
          · exact ih _ _ _ (by omega) hz x e3
      · by_cases h2 : visb (f p) = true
        · rw [decI_vis (by omega) h1 h2] at e
          obtain ⟨z, hz, e2⟩ := Option.map_eq_some_iff.mp e
          subst e2
          rcases List.mem_cons.mp hx with e3 | e3
          · rw [e3]
            by_cases h9 : f p = 43
            · rw [if_pos h9]; decide
            · rw [if_neg h9]; exact hf p
          · exact ih _ _ _ (by omega) hz x e3
        · rw [decI_inv (by omega) h1 h2] at e; cases e
/-- where a byte first stands from p on and ahead of e; e if nowhere -/
def atI (f : Nat → Int32) (c : Int32) (p e : Nat) : Nat := fsti (fun j => decide (f j = c)) (e - p) p
theorem atI_ge (f : Nat → Int32) (c : Int32) {p e : Nat} (h : p ≤ e) : p ≤ atI f c p e ∧ atI f c p e ≤ e := by
  have := fsti_ge (p := fun j => decide (f j = c)) (k := e - p) (i := p)
  rw [atI]
  omega
theorem atI_t {f : Nat → Int32} {c : Int32} {p e : Nat} (h : p < e) (hc : f p = c) : atI f c p e = p := by
  rw [atI, show e - p = (e - (p + 1)) + 1 by omega]
  exact fsti_t (decide_eq_true hc)
theorem atI_f {f : Nat → Int32} {c : Int32} {p e : Nat} (h : p < e) (hc : ¬ f p = c) : atI f c p e = atI f c (p + 1) e := by
  rw [atI, show e - p = (e - (p + 1)) + 1 by omega]
  exact fsti_f (decide_eq_false hc)
theorem atI_end {f : Nat → Int32} {c : Int32} {p e : Nat} (h : e ≤ p) : atI f c p e = p := by
  rw [atI, show e - p = 0 by omega]
  rfl
theorem atI_at {f : Nat → Int32} {c : Int32} {p e : Nat} (h : p ≤ e) (h1 : atI f c p e < e) : f (atI f c p e) = c := of_decide_eq_true (fsti_yes (p := fun j => decide (f j = c)) (k := e - p) (i := p) (by rw [atI] at h1; omega))
theorem fsti_lt {p : Nat → Bool} {k i j : Nat} (h : i ≤ j) (h2 : j < fsti p k i) : p j = false := by
  induction k generalizing i with
  | zero => exact absurd h2 (by rw [fsti]; omega)
  | succ k ih =>
    cases hp : p i with
    | true => rw [fsti_t hp] at h2; omega
    | false =>
      rw [fsti_f hp] at h2
      by_cases e : i = j
      · rw [← e]; exact hp
      · exact ih (by omega) h2
theorem atI_lt {f : Nat → Int32} {c : Int32} {p e j : Nat} (h : p ≤ j) (h1 : j < atI f c p e) : ¬ f j = c := of_decide_eq_false (fsti_lt (p := fun j => decide (f j = c)) h h1)
theorem fsti_congr {p r : Nat → Bool} {k i : Nat} (h : ∀ j, i ≤ j → j < i + k → p j = r j) : fsti p k i = fsti r k i := by
  induction k generalizing i with
  | zero => rfl
  | succ k ih =>
    have h0 := h i (by omega) (by omega)
    cases hp : p i with
    | true => rw [fsti_t hp, fsti_t (by rw [← h0]; exact hp)]
    | false => rw [fsti_f hp, fsti_f (by rw [← h0]; exact hp), ih fun j a b => h j (by omega) (by omega)]
theorem atI_congr {f g : Nat → Int32} {c : Int32} {p e : Nat} (h : ∀ j, p ≤ j → j < e → f j = g j) : atI f c p e = atI g c p e := by
  by_cases hp : e ≤ p
  · rw [atI_end hp, atI_end hp]
  · exact fsti_congr fun j a b => by rw [h j a (by omega)]
abbrev fvs : Type := Nat → Option (List Int32)
def updO (g : fvs) (k : Nat) (v : List Int32) : fvs := fun j => if j = k then some v else g j
/-- one NAME and its VALUE -/
def pieI (f : Nat → Int32) (p e : Nat) (g : fvs) : Option fvs := match decI f p (atI f 61 p e), decI f (atI f 61 p e + 1) e with
  | some nm, some v => if knw nm = 13 then some g else if (g (knw nm)).isSome = true then none else some (updO g (knw nm) v)
  | _, _ => none
def frmI (f : Nat → Int32) (n p c : Nat) (g : fvs) : Option fvs :=
  if h : n ≤ p then some g
  else if atI f 38 p n = p then frmI f n (p + 1) c g
  else if 20 ≤ c then none
  else match pieI f p (atI f 38 p n) g with
    | none => none
    | some g' => frmI f n (atI f 38 p n + 1) (c + 1) g'
termination_by n - p
decreasing_by
  · omega
  · have := atI_ge f 38 (p := p) (e := n) (by omega)
    omega
theorem frmI_end {f : Nat → Int32} {n p c : Nat} {g : fvs} (h : n ≤ p) : frmI f n p c g = some g := by rw [frmI, dif_pos h]
theorem frmI_skip {f : Nat → Int32} {n p c : Nat} {g : fvs} (h : p < n) (h1 : atI f 38 p n = p) : frmI f n p c g = frmI f n (p + 1) c g := by rw [frmI, dif_neg (by omega), if_pos h1]
theorem frmI_many {f : Nat → Int32} {n p c : Nat} {g : fvs} (h : p < n) (h1 : ¬ atI f 38 p n = p) (h2 : 20 ≤ c) : frmI f n p c g = none := by rw [frmI, dif_neg (by omega), if_neg h1, if_pos h2]
theorem frmI_bad {f : Nat → Int32} {n p c : Nat} {g : fvs} (h : p < n) (h1 : ¬ atI f 38 p n = p) (h3 : pieI f p (atI f 38 p n) g = none) : frmI f n p c g = none := by
  rw [frmI, dif_neg (by omega), if_neg h1]
  by_cases h2 : 20 ≤ c
  · rw [if_pos h2]
  · rw [if_neg h2, h3]
theorem frmI_go {f : Nat → Int32} {n p c : Nat} {g g' : fvs} (h : p < n) (h1 : ¬ atI f 38 p n = p) (h2 : ¬ 20 ≤ c) (h3 : pieI f p (atI f 38 p n) g = some g') : frmI f n p c g = frmI f n (atI f 38 p n + 1) (c + 1) g' := by rw [frmI, dif_neg (by omega), if_neg h1, if_neg h2, h3]
/-- the reference's step -/
def dcn (f : Nat → Int32) (p : Nat) : Nat := if f p = 37 then 3 else 1
def dcv (f : Nat → Int32) (p e : Nat) : Int32 := if f p = 43 then 32 else if f p = 37 then (if (if p + 1 < e then hexd (f (p + 1)) else -1) < 0 ∨ (if p + 2 < e then hexd (f (p + 2)) else -1) < 0 then -1 else 16 * (if p + 1 < e then hexd (f (p + 1)) else -1) + (if p + 2 < e then hexd (f (p + 2)) else -1)) else if visb (f p) = true then f p else -1
theorem visb_nn {x : Int32} (h : visb x = true) : ¬ x < 0 := by
  rw [visb, Bool.and_eq_true] at h
  have h1 := i32_le.mp (of_decide_eq_true h.1)
  rw [i32_lt]
  have e3 : (33 : Int32).toInt = 33 := rfl
  have e4 : (0 : Int32).toInt = 0 := rfl
  omega
theorem hexd_61 : hexd 61 < 0 := by decide
theorem hexd_fin : ∀ j, j < 103 → ¬ hexd (nI j) < 0 → hexd (nI j) = nI (hexd (nI j)).toNatClampNeg ∧ (hexd (nI j)).toNatClampNeg < 16 := by decide +kernel
theorem hexd_d {z : Int32} (h : ¬ hexd z < 0) : ∃ d, d < 16 ∧ hexd z = nI d := by
  have a1 : (48 : Int32).toInt = 48 := rfl
  have a3 : (65 : Int32).toInt = 65 := rfl
  have a5 : (97 : Int32).toInt = 97 := rfl
  have a2 : (57 : Int32).toInt = 57 := rfl
  have a4 : (70 : Int32).toInt = 70 := rfl
  have a6 : (102 : Int32).toInt = 102 := rfl
  have a0 : (0 : Int32).toInt = 0 := rfl
  have hz : 0 ≤ z.toInt ∧ z.toInt ≤ 102 := by
    by_cases h1 : 48 ≤ z ∧ z ≤ 57
    · simp only [i32_le] at h1; omega
    · by_cases h2 : 65 ≤ z ∧ z ≤ 70
      · simp only [i32_le] at h2; omega
      · by_cases h3 : 97 ≤ z ∧ z ≤ 102
        · simp only [i32_le] at h3; omega
        · exact absurd (show hexd z < 0 by rw [hexd, if_neg h1, if_neg h2, if_neg h3]; decide) h
  obtain ⟨j, hj, e⟩ := nI_of2 (x := z) (M := 102) (n := 102) rfl (by rw [i32_lt]; omega) (by rw [i32_le]; omega)
  subst e
  have := hexd_fin j (by omega) h
  exact ⟨_, this.2, this.1⟩
theorem hexd_16 {x y : Int32} (hx : ¬ hexd x < 0) (hy : ¬ hexd y < 0) : ¬ 16 * hexd x + hexd y < 0 := by
  obtain ⟨a, ha, e1⟩ := hexd_d hx
  obtain ⟨b, hb, e2⟩ := hexd_d hy
  rw [e1, e2, show (16 : Int32) = nI 16 from rfl, nI_mulc, nI_add]
  exact nI_pos (by omega)
theorem dec_step {f : Nat → Int32} (hf : ∀ j, b8 (f j) = f j) {p q e : Nat} (h : p < q) (hq : q ≤ e) (hs : q = e ∨ f q = 61) : (dcv f p e < 0 → decI f p q = none) ∧ (¬ dcv f p e < 0 → p + dcn f p ≤ q ∧ decI f p q = (decI f (p + dcn f p) q).map (fun z => b8 (dcv f p e) :: z)) := by
  by_cases h43 : f p = 43
  · have h37 : ¬ f p = 37 := by rw [h43]; decide
    have e1 : dcv f p e = 32 := by rw [dcv, if_pos h43]
    have e2 : dcn f p = 1 := by rw [dcn, if_neg h37]
    rw [e1, e2]
    refine ⟨fun q => absurd q (by decide), fun _ => ⟨by omega, ?_⟩⟩
    rw [decI_vis h h37 (by rw [h43]; decide), if_pos h43]
    rfl
  · by_cases h37 : f p = 37
    · have e2 : dcn f p = 3 := by rw [dcn, if_pos h37]
      have e1 : dcv f p e = (if (if p + 1 < e then hexd (f (p + 1)) else -1) < 0 ∨ (if p + 2 < e then hexd (f (p + 2)) else -1) < 0 then -1 else 16 * (if p + 1 < e then hexd (f (p + 1)) else -1) + (if p + 2 < e then hexd (f (p + 2)) else -1)) := by rw [dcv, if_neg h43, if_pos h37]
      by_cases h3 : q < p + 3
      · have hneg : dcv f p e < 0 := by
          rw [e1, if_pos]
          · decide
          · by_cases h1 : q = p + 1
            · left
              rcases hs with hs | hs
              · rw [if_neg (by omega)]; decide
              · by_cases h9 : p + 1 < e
                · rw [if_pos h9, ← h1, hs]; exact hexd_61
                · rw [if_neg h9]; decide
            · right
              have h1 : q = p + 2 := by omega
              rcases hs with hs | hs
              · rw [if_neg (by omega)]; decide
              · by_cases h9 : p + 2 < e
                · rw [if_pos h9, ← h1, hs]; exact hexd_61
                · rw [if_neg h9]; decide
        exact ⟨fun _ => decI_bad h h37 (Or.inl h3), fun q => absurd hneg q⟩
      · rw [if_pos (show p + 1 < e by omega), if_pos (show p + 2 < e by omega)] at e1
        by_cases h4 : hexd (f (p + 1)) < 0 ∨ hexd (f (p + 2)) < 0
        · rw [if_pos h4] at e1
          rw [e1]
          exact ⟨fun _ => decI_bad h h37 (Or.inr h4), fun q => absurd (by decide) q⟩
        · rw [if_neg h4] at e1
          have h5 := not_or.mp h4
          rw [e1, e2]
          refine ⟨fun q => absurd q (hexd_16 h5.1 h5.2), fun _ => ⟨by omega, ?_⟩⟩
          exact decI_pct h h37 (fun q => q.elim (fun a => h3 a) h4)
    · have e2 : dcn f p = 1 := by rw [dcn, if_neg h37]
      by_cases hv : visb (f p) = true
      · have e1 : dcv f p e = f p := by rw [dcv, if_neg h43, if_neg h37, if_pos hv]
        rw [e1, e2]
        refine ⟨fun q => absurd q (visb_nn hv), fun _ => ⟨by omega, ?_⟩⟩
        rw [decI_vis h h37 hv, if_neg h43, hf]
      · have e1 : dcv f p e = -1 := by rw [dcv, if_neg h43, if_neg h37, if_neg hv]
        rw [e1]
        exact ⟨fun _ => decI_inv h h37 hv, fun q => absurd (by decide) q⟩

theorem m_word_0 {Λ : kL} {m : Nat} {A : Nat → Nat} {I : Nat → Int32} {F : Nat → Nat → Int32} (hA : mInj A)  : mCt Λ mX12_word m A [.int 0] I F (fun r I' F' => r = some (.ref (kSa Λ RX12 213)) ∧ I' = I ∧ F' = F) := by
  refine mCt.of hA pn_X12 [some (.int 0)] rfl (Nat.le_of_ble_eq_true rfl) fun X => ?_
  refine M.iload_n dX12_word_0 rfl ?_
  refine M.tableIn (off := 63) (tgt := 64) dX12_word_1 (by decide) (by decide) rfl (by decide) ?_
  refine M.ldcS dX12_word_64 sr_X12_213 ?_
  refine M.aret (r := some (kSa Λ RX12 213)) dX12_word_66 rfl (by first | exact Or.inl ⟨_, rfl⟩ | exact Or.inr ⟨_, rfl⟩) ?_
  exact ⟨rfl, rfl, rfl⟩

theorem m_word_1 {Λ : kL} {m : Nat} {A : Nat → Nat} {I : Nat → Int32} {F : Nat → Nat → Int32} (hA : mInj A)  : mCt Λ mX12_word m A [.int 1] I F (fun r I' F' => r = some (.ref (kSa Λ RX12 215)) ∧ I' = I ∧ F' = F) := by
  refine mCt.of hA pn_X12 [some (.int 1)] rfl (Nat.le_of_ble_eq_true rfl) fun X => ?_
  refine M.iload_n dX12_word_0 rfl ?_
  refine M.tableIn (off := 66) (tgt := 67) dX12_word_1 (by decide) (by decide) rfl (by decide) ?_
  refine M.ldcS dX12_word_67 sr_X12_215 ?_
  refine M.aret (r := some (kSa Λ RX12 215)) dX12_word_69 rfl (by first | exact Or.inl ⟨_, rfl⟩ | exact Or.inr ⟨_, rfl⟩) ?_
  exact ⟨rfl, rfl, rfl⟩

theorem m_word_2 {Λ : kL} {m : Nat} {A : Nat → Nat} {I : Nat → Int32} {F : Nat → Nat → Int32} (hA : mInj A)  : mCt Λ mX12_word m A [.int 2] I F (fun r I' F' => r = some (.ref (kSa Λ RX12 217)) ∧ I' = I ∧ F' = F) := by
  refine mCt.of hA pn_X12 [some (.int 2)] rfl (Nat.le_of_ble_eq_true rfl) fun X => ?_
  refine M.iload_n dX12_word_0 rfl ?_
  refine M.tableIn (off := 69) (tgt := 70) dX12_word_1 (by decide) (by decide) rfl (by decide) ?_
  refine M.ldcS dX12_word_70 sr_X12_217 ?_
  refine M.aret (r := some (kSa Λ RX12 217)) dX12_word_72 rfl (by first | exact Or.inl ⟨_, rfl⟩ | exact Or.inr ⟨_, rfl⟩) ?_
  exact ⟨rfl, rfl, rfl⟩

theorem m_word_3 {Λ : kL} {m : Nat} {A : Nat → Nat} {I : Nat → Int32} {F : Nat → Nat → Int32} (hA : mInj A)  : mCt Λ mX12_word m A [.int 3] I F (fun r I' F' => r = some (.ref (kSa Λ RX12 219)) ∧ I' = I ∧ F' = F) := by
  refine mCt.of hA pn_X12 [some (.int 3)] rfl (Nat.le_of_ble_eq_true rfl) fun X => ?_
  refine M.iload_n dX12_word_0 rfl ?_
  refine M.tableIn (off := 72) (tgt := 73) dX12_word_1 (by decide) (by decide) rfl (by decide) ?_
  refine M.ldcS dX12_word_73 sr_X12_219 ?_
  refine M.aret (r := some (kSa Λ RX12 219)) dX12_word_75 rfl (by first | exact Or.inl ⟨_, rfl⟩ | exact Or.inr ⟨_, rfl⟩) ?_
  exact ⟨rfl, rfl, rfl⟩

theorem m_word_4 {Λ : kL} {m : Nat} {A : Nat → Nat} {I : Nat → Int32} {F : Nat → Nat → Int32} (hA : mInj A)  : mCt Λ mX12_word m A [.int 4] I F (fun r I' F' => r = some (.ref (kSa Λ RX12 221)) ∧ I' = I ∧ F' = F) := by
  refine mCt.of hA pn_X12 [some (.int 4)] rfl (Nat.le_of_ble_eq_true rfl) fun X => ?_
  refine M.iload_n dX12_word_0 rfl ?_
  refine M.tableIn (off := 75) (tgt := 76) dX12_word_1 (by decide) (by decide) rfl (by decide) ?_
  refine M.ldcS dX12_word_76 sr_X12_221 ?_
  refine M.aret (r := some (kSa Λ RX12 221)) dX12_word_78 rfl (by first | exact Or.inl ⟨_, rfl⟩ | exact Or.inr ⟨_, rfl⟩) ?_
  exact ⟨rfl, rfl, rfl⟩

theorem m_word_5 {Λ : kL} {m : Nat} {A : Nat → Nat} {I : Nat → Int32} {F : Nat → Nat → Int32} (hA : mInj A)  : mCt Λ mX12_word m A [.int 5] I F (fun r I' F' => r = some (.ref (kSa Λ RX12 223)) ∧ I' = I ∧ F' = F) := by
  refine mCt.of hA pn_X12 [some (.int 5)] rfl (Nat.le_of_ble_eq_true rfl) fun X => ?_
  refine M.iload_n dX12_word_0 rfl ?_
  refine M.tableIn (off := 78) (tgt := 79) dX12_word_1 (by decide) (by decide) rfl (by decide) ?_
  refine M.ldcS dX12_word_79 sr_X12_223 ?_
  refine M.aret (r := some (kSa Λ RX12 223)) dX12_word_81 rfl (by first | exact Or.inl ⟨_, rfl⟩ | exact Or.inr ⟨_, rfl⟩) ?_
  exact ⟨rfl, rfl, rfl⟩

theorem m_word_6 {Λ : kL} {m : Nat} {A : Nat → Nat} {I : Nat → Int32} {F : Nat → Nat → Int32} (hA : mInj A)  : mCt Λ mX12_word m A [.int 6] I F (fun r I' F' => r = some (.ref (kSa Λ RX12 225)) ∧ I' = I ∧ F' = F) := by
  refine mCt.of hA pn_X12 [some (.int 6)] rfl (Nat.le_of_ble_eq_true rfl) fun X => ?_
  refine M.iload_n dX12_word_0 rfl ?_
  refine M.tableIn (off := 81) (tgt := 82) dX12_word_1 (by decide) (by decide) rfl (by decide) ?_
  refine M.ldcS dX12_word_82 sr_X12_225 ?_
  refine M.aret (r := some (kSa Λ RX12 225)) dX12_word_84 rfl (by first | exact Or.inl ⟨_, rfl⟩ | exact Or.inr ⟨_, rfl⟩) ?_
  exact ⟨rfl, rfl, rfl⟩

theorem m_word_7 {Λ : kL} {m : Nat} {A : Nat → Nat} {I : Nat → Int32} {F : Nat → Nat → Int32} (hA : mInj A)  : mCt Λ mX12_word m A [.int 7] I F (fun r I' F' => r = some (.ref (kSa Λ RX12 227)) ∧ I' = I ∧ F' = F) := by
  refine mCt.of hA pn_X12 [some (.int 7)] rfl (Nat.le_of_ble_eq_true rfl) fun X => ?_
  refine M.iload_n dX12_word_0 rfl ?_
  refine M.tableIn (off := 84) (tgt := 85) dX12_word_1 (by decide) (by decide) rfl (by decide) ?_
  refine M.ldcS dX12_word_85 sr_X12_227 ?_
  refine M.aret (r := some (kSa Λ RX12 227)) dX12_word_87 rfl (by first | exact Or.inl ⟨_, rfl⟩ | exact Or.inr ⟨_, rfl⟩) ?_
  exact ⟨rfl, rfl, rfl⟩

theorem m_word_8 {Λ : kL} {m : Nat} {A : Nat → Nat} {I : Nat → Int32} {F : Nat → Nat → Int32} (hA : mInj A)  : mCt Λ mX12_word m A [.int 8] I F (fun r I' F' => r = some (.ref (kSa Λ RX12 229)) ∧ I' = I ∧ F' = F) := by
  refine mCt.of hA pn_X12 [some (.int 8)] rfl (Nat.le_of_ble_eq_true rfl) fun X => ?_
  refine M.iload_n dX12_word_0 rfl ?_
  refine M.tableIn (off := 87) (tgt := 88) dX12_word_1 (by decide) (by decide) rfl (by decide) ?_
  refine M.ldcS dX12_word_88 sr_X12_229 ?_
  refine M.aret (r := some (kSa Λ RX12 229)) dX12_word_90 rfl (by first | exact Or.inl ⟨_, rfl⟩ | exact Or.inr ⟨_, rfl⟩) ?_
  exact ⟨rfl, rfl, rfl⟩

theorem m_word_9 {Λ : kL} {m : Nat} {A : Nat → Nat} {I : Nat → Int32} {F : Nat → Nat → Int32} (hA : mInj A)  : mCt Λ mX12_word m A [.int 9] I F (fun r I' F' => r = some (.ref (kSa Λ RX12 231)) ∧ I' = I ∧ F' = F) := by
  refine mCt.of hA pn_X12 [some (.int 9)] rfl (Nat.le_of_ble_eq_true rfl) fun X => ?_
  refine M.iload_n dX12_word_0 rfl ?_
  refine M.tableIn (off := 90) (tgt := 91) dX12_word_1 (by decide) (by decide) rfl (by decide) ?_
  refine M.ldcS dX12_word_91 sr_X12_231 ?_
  refine M.aret (r := some (kSa Λ RX12 231)) dX12_word_93 rfl (by first | exact Or.inl ⟨_, rfl⟩ | exact Or.inr ⟨_, rfl⟩) ?_
  exact ⟨rfl, rfl, rfl⟩

theorem m_word_10 {Λ : kL} {m : Nat} {A : Nat → Nat} {I : Nat → Int32} {F : Nat → Nat → Int32} (hA : mInj A)  : mCt Λ mX12_word m A [.int 10] I F (fun r I' F' => r = some (.ref (kSa Λ RX12 233)) ∧ I' = I ∧ F' = F) := by
  refine mCt.of hA pn_X12 [some (.int 10)] rfl (Nat.le_of_ble_eq_true rfl) fun X => ?_
  refine M.iload_n dX12_word_0 rfl ?_
  refine M.tableIn (off := 93) (tgt := 94) dX12_word_1 (by decide) (by decide) rfl (by decide) ?_
  refine M.ldcS dX12_word_94 sr_X12_233 ?_
  refine M.aret (r := some (kSa Λ RX12 233)) dX12_word_96 rfl (by first | exact Or.inl ⟨_, rfl⟩ | exact Or.inr ⟨_, rfl⟩) ?_
  exact ⟨rfl, rfl, rfl⟩

theorem m_word_11 {Λ : kL} {m : Nat} {A : Nat → Nat} {I : Nat → Int32} {F : Nat → Nat → Int32} (hA : mInj A)  : mCt Λ mX12_word m A [.int 11] I F (fun r I' F' => r = some (.ref (kSa Λ RX12 235)) ∧ I' = I ∧ F' = F) := by
  refine mCt.of hA pn_X12 [some (.int 11)] rfl (Nat.le_of_ble_eq_true rfl) fun X => ?_
  refine M.iload_n dX12_word_0 rfl ?_
  refine M.tableIn (off := 96) (tgt := 97) dX12_word_1 (by decide) (by decide) rfl (by decide) ?_
  refine M.ldcS dX12_word_97 sr_X12_235 ?_
  refine M.aret (r := some (kSa Λ RX12 235)) dX12_word_99 rfl (by first | exact Or.inl ⟨_, rfl⟩ | exact Or.inr ⟨_, rfl⟩) ?_
  exact ⟨rfl, rfl, rfl⟩

theorem m_word_12 {Λ : kL} {m : Nat} {A : Nat → Nat} {I : Nat → Int32} {F : Nat → Nat → Int32} (hA : mInj A)  : mCt Λ mX12_word m A [.int 12] I F (fun r I' F' => r = some (.ref (kSa Λ RX12 237)) ∧ I' = I ∧ F' = F) := by
  refine mCt.of hA pn_X12 [some (.int 12)] rfl (Nat.le_of_ble_eq_true rfl) fun X => ?_
  refine M.iload_n dX12_word_0 rfl ?_
  refine M.tableOut (tgt := 100) dX12_word_1 (by decide) (by decide) ?_
  refine M.ldcS dX12_word_100 sr_X12_237 ?_
  refine M.aret (r := some (kSa Λ RX12 237)) dX12_word_102 rfl (by first | exact Or.inl ⟨_, rfl⟩ | exact Or.inr ⟨_, rfl⟩) ?_
  exact ⟨rfl, rfl, rfl⟩

theorem m_known {Λ : kL} {m : Nat} {A : Nat → Nat} {I : Nat → Int32} {F : Nat → Nat → Int32} (hA : mInj A) (hSt : kSt Λ) {k1 : Nat} (r_k1 : mRef k1 = true) (t_k1 : mK k1 = 0) {n : Nat} (hn : n ≤ mN k1) (hby : byt (F k1) 0 n) : mCt Λ mX12_known m A [.ref (A k1), .int (nI n)] I F (fun r I' F' => r = some (.int (if knw (tl (F k1) 0 n) = 13 then -1 else nI (knw (tl (F k1) 0 n)))) ∧ I' = I ∧ F' = F) := by
  refine mCt.of hA pn_X12 [some (.ref (A k1)), some (.int (nI n)), none] rfl (Nat.le_of_ble_eq_true rfl) fun X => ?_
  refine M.iconst (v := 0) dX12_known_0 (by decide) ?_
  refine M.istore_n (L' := [some (.ref (A k1)), some (.int (nI n)), some (.int 0)]) dX12_known_1 (by decide) rfl rfl ?_
  refine M.iload_n dX12_known_2 rfl ?_
  refine M.bipush (v := 13) dX12_known_3 (by decide) ?_
  refine M.icmp_ge (tgt := 29) dX12_known_5 (by decide) (fun c_5 => absurd c_5 (by decide)) (fun c_5 => ?_)
  refine M.aload_nR dX12_known_8 rfl ?_
  refine M.iconst (v := 0) dX12_known_9 (by decide) ?_
  refine M.iload_n dX12_known_10 rfl ?_
  refine M.iload_n dX12_known_11 rfl ?_
  refine M.callS [.int 0] dX12_known_12 mdX12_word ssX12_word lk_X12_205 rfl rfl rfl rfl (m_word_0 hA) ?_
  rintro _ I9 F9 ⟨rfl, e9, e8⟩
  have e9 := e9.symm; subst e9; have e8 := e8.symm; subst e8
  refine M.callS [.ref (A k1), .int 0, .int (nI n), .ref (kSa Λ RX12 213)] dX12_known_15 mdX12_isText ssX12_isText lk_X12_209 rfl rfl rfl rfl (m_isText hA r_k1 t_k1 (i := 0) (n := n) (by omega) hby (st_X12_213 hSt) sb_response_type_b) ?_
  rintro _ I9 F9 ⟨rfl, e9, e8⟩
  have e9 := e9.symm; subst e9; have e8 := e8.symm; subst e8
  refine M.if_eq (tgt := 23) dX12_known_18 (by decide) (fun c_18 => ?_) (fun c_18 => ?_)
  · skip
    have y_0 := (bI_eq0 _).mp c_18
    refine M.iinc (v := 1) (L' := [some (.ref (A k1)), some (.int (nI n)), some (.int 1)]) dX12_known_23 rfl rfl (by decide) rfl rfl ?_
    refine M.goto (tgt := 2) dX12_known_26 (by decide) ?_
    refine M.iload_n dX12_known_2 rfl ?_
    refine M.bipush (v := 13) dX12_known_3 (by decide) ?_
    refine M.icmp_ge (tgt := 29) dX12_known_5 (by decide) (fun c_5 => absurd c_5 (by decide)) (fun c_5 => ?_)
    refine M.aload_nR dX12_known_8 rfl ?_
    refine M.iconst (v := 0) dX12_known_9 (by decide) ?_
    refine M.iload_n dX12_known_10 rfl ?_
    refine M.iload_n dX12_known_11 rfl ?_
    refine M.callS [.int 1] dX12_known_12 mdX12_word ssX12_word lk_X12_205 rfl rfl rfl rfl (m_word_1 hA) ?_
    rintro _ I9 F9 ⟨rfl, e9, e8⟩
    have e9 := e9.symm; subst e9; have e8 := e8.symm; subst e8
    refine M.callS [.ref (A k1), .int 0, .int (nI n), .ref (kSa Λ RX12 215)] dX12_known_15 mdX12_isText ssX12_isText lk_X12_209 rfl rfl rfl rfl (m_isText hA r_k1 t_k1 (i := 0) (n := n) (by omega) hby (st_X12_215 hSt) sb_client_id_b) ?_
    rintro _ I9 F9 ⟨rfl, e9, e8⟩
    have e9 := e9.symm; subst e9; have e8 := e8.symm; subst e8
    refine M.if_eq (tgt := 23) dX12_known_18 (by decide) (fun c_18 => ?_) (fun c_18 => ?_)
    · skip
      have y_1 := (bI_eq0 _).mp c_18
      refine M.iinc (v := 2) (L' := [some (.ref (A k1)), some (.int (nI n)), some (.int 2)]) dX12_known_23 rfl rfl (by decide) rfl rfl ?_
      refine M.goto (tgt := 2) dX12_known_26 (by decide) ?_
      refine M.iload_n dX12_known_2 rfl ?_
      refine M.bipush (v := 13) dX12_known_3 (by decide) ?_
      refine M.icmp_ge (tgt := 29) dX12_known_5 (by decide) (fun c_5 => absurd c_5 (by decide)) (fun c_5 => ?_)
      refine M.aload_nR dX12_known_8 rfl ?_
      refine M.iconst (v := 0) dX12_known_9 (by decide) ?_
      refine M.iload_n dX12_known_10 rfl ?_
      refine M.iload_n dX12_known_11 rfl ?_
      refine M.callS [.int 2] dX12_known_12 mdX12_word ssX12_word lk_X12_205 rfl rfl rfl rfl (m_word_2 hA) ?_
      rintro _ I9 F9 ⟨rfl, e9, e8⟩
      have e9 := e9.symm; subst e9; have e8 := e8.symm; subst e8
      refine M.callS [.ref (A k1), .int 0, .int (nI n), .ref (kSa Λ RX12 217)] dX12_known_15 mdX12_isText ssX12_isText lk_X12_209 rfl rfl rfl rfl (m_isText hA r_k1 t_k1 (i := 0) (n := n) (by omega) hby (st_X12_217 hSt) sb_redirect_uri_b) ?_
      rintro _ I9 F9 ⟨rfl, e9, e8⟩
      have e9 := e9.symm; subst e9; have e8 := e8.symm; subst e8
      refine M.if_eq (tgt := 23) dX12_known_18 (by decide) (fun c_18 => ?_) (fun c_18 => ?_)
      · skip
        have y_2 := (bI_eq0 _).mp c_18
        refine M.iinc (v := 3) (L' := [some (.ref (A k1)), some (.int (nI n)), some (.int 3)]) dX12_known_23 rfl rfl (by decide) rfl rfl ?_
        refine M.goto (tgt := 2) dX12_known_26 (by decide) ?_
        refine M.iload_n dX12_known_2 rfl ?_
        refine M.bipush (v := 13) dX12_known_3 (by decide) ?_
        refine M.icmp_ge (tgt := 29) dX12_known_5 (by decide) (fun c_5 => absurd c_5 (by decide)) (fun c_5 => ?_)
        refine M.aload_nR dX12_known_8 rfl ?_
        refine M.iconst (v := 0) dX12_known_9 (by decide) ?_
        refine M.iload_n dX12_known_10 rfl ?_
        refine M.iload_n dX12_known_11 rfl ?_
        refine M.callS [.int 3] dX12_known_12 mdX12_word ssX12_word lk_X12_205 rfl rfl rfl rfl (m_word_3 hA) ?_
        rintro _ I9 F9 ⟨rfl, e9, e8⟩
        have e9 := e9.symm; subst e9; have e8 := e8.symm; subst e8
        refine M.callS [.ref (A k1), .int 0, .int (nI n), .ref (kSa Λ RX12 219)] dX12_known_15 mdX12_isText ssX12_isText lk_X12_209 rfl rfl rfl rfl (m_isText hA r_k1 t_k1 (i := 0) (n := n) (by omega) hby (st_X12_219 hSt) sb_scope_b) ?_
        rintro _ I9 F9 ⟨rfl, e9, e8⟩
        have e9 := e9.symm; subst e9; have e8 := e8.symm; subst e8
        refine M.if_eq (tgt := 23) dX12_known_18 (by decide) (fun c_18 => ?_) (fun c_18 => ?_)
        · skip
          have y_3 := (bI_eq0 _).mp c_18
          refine M.iinc (v := 4) (L' := [some (.ref (A k1)), some (.int (nI n)), some (.int 4)]) dX12_known_23 rfl rfl (by decide) rfl rfl ?_
          refine M.goto (tgt := 2) dX12_known_26 (by decide) ?_
          refine M.iload_n dX12_known_2 rfl ?_
          refine M.bipush (v := 13) dX12_known_3 (by decide) ?_
          refine M.icmp_ge (tgt := 29) dX12_known_5 (by decide) (fun c_5 => absurd c_5 (by decide)) (fun c_5 => ?_)
          refine M.aload_nR dX12_known_8 rfl ?_
          refine M.iconst (v := 0) dX12_known_9 (by decide) ?_
          refine M.iload_n dX12_known_10 rfl ?_
          refine M.iload_n dX12_known_11 rfl ?_
          refine M.callS [.int 4] dX12_known_12 mdX12_word ssX12_word lk_X12_205 rfl rfl rfl rfl (m_word_4 hA) ?_
          rintro _ I9 F9 ⟨rfl, e9, e8⟩
          have e9 := e9.symm; subst e9; have e8 := e8.symm; subst e8
          refine M.callS [.ref (A k1), .int 0, .int (nI n), .ref (kSa Λ RX12 221)] dX12_known_15 mdX12_isText ssX12_isText lk_X12_209 rfl rfl rfl rfl (m_isText hA r_k1 t_k1 (i := 0) (n := n) (by omega) hby (st_X12_221 hSt) sb_state_b) ?_
          rintro _ I9 F9 ⟨rfl, e9, e8⟩
          have e9 := e9.symm; subst e9; have e8 := e8.symm; subst e8
          refine M.if_eq (tgt := 23) dX12_known_18 (by decide) (fun c_18 => ?_) (fun c_18 => ?_)
          · skip
            have y_4 := (bI_eq0 _).mp c_18
            refine M.iinc (v := 5) (L' := [some (.ref (A k1)), some (.int (nI n)), some (.int 5)]) dX12_known_23 rfl rfl (by decide) rfl rfl ?_
            refine M.goto (tgt := 2) dX12_known_26 (by decide) ?_
            refine M.iload_n dX12_known_2 rfl ?_
            refine M.bipush (v := 13) dX12_known_3 (by decide) ?_
            refine M.icmp_ge (tgt := 29) dX12_known_5 (by decide) (fun c_5 => absurd c_5 (by decide)) (fun c_5 => ?_)
            refine M.aload_nR dX12_known_8 rfl ?_
            refine M.iconst (v := 0) dX12_known_9 (by decide) ?_
            refine M.iload_n dX12_known_10 rfl ?_
            refine M.iload_n dX12_known_11 rfl ?_
            refine M.callS [.int 5] dX12_known_12 mdX12_word ssX12_word lk_X12_205 rfl rfl rfl rfl (m_word_5 hA) ?_
            rintro _ I9 F9 ⟨rfl, e9, e8⟩
            have e9 := e9.symm; subst e9; have e8 := e8.symm; subst e8
            refine M.callS [.ref (A k1), .int 0, .int (nI n), .ref (kSa Λ RX12 223)] dX12_known_15 mdX12_isText ssX12_isText lk_X12_209 rfl rfl rfl rfl (m_isText hA r_k1 t_k1 (i := 0) (n := n) (by omega) hby (st_X12_223 hSt) sb_code_challenge_b) ?_
            rintro _ I9 F9 ⟨rfl, e9, e8⟩
            have e9 := e9.symm; subst e9; have e8 := e8.symm; subst e8
            refine M.if_eq (tgt := 23) dX12_known_18 (by decide) (fun c_18 => ?_) (fun c_18 => ?_)
            · skip
              have y_5 := (bI_eq0 _).mp c_18
              refine M.iinc (v := 6) (L' := [some (.ref (A k1)), some (.int (nI n)), some (.int 6)]) dX12_known_23 rfl rfl (by decide) rfl rfl ?_
              refine M.goto (tgt := 2) dX12_known_26 (by decide) ?_
              refine M.iload_n dX12_known_2 rfl ?_
              refine M.bipush (v := 13) dX12_known_3 (by decide) ?_
              refine M.icmp_ge (tgt := 29) dX12_known_5 (by decide) (fun c_5 => absurd c_5 (by decide)) (fun c_5 => ?_)
              refine M.aload_nR dX12_known_8 rfl ?_
              refine M.iconst (v := 0) dX12_known_9 (by decide) ?_
              refine M.iload_n dX12_known_10 rfl ?_
              refine M.iload_n dX12_known_11 rfl ?_
              refine M.callS [.int 6] dX12_known_12 mdX12_word ssX12_word lk_X12_205 rfl rfl rfl rfl (m_word_6 hA) ?_
              rintro _ I9 F9 ⟨rfl, e9, e8⟩
              have e9 := e9.symm; subst e9; have e8 := e8.symm; subst e8
              refine M.callS [.ref (A k1), .int 0, .int (nI n), .ref (kSa Λ RX12 225)] dX12_known_15 mdX12_isText ssX12_isText lk_X12_209 rfl rfl rfl rfl (m_isText hA r_k1 t_k1 (i := 0) (n := n) (by omega) hby (st_X12_225 hSt) sb_code_challenge_method_b) ?_
              rintro _ I9 F9 ⟨rfl, e9, e8⟩
              have e9 := e9.symm; subst e9; have e8 := e8.symm; subst e8
              refine M.if_eq (tgt := 23) dX12_known_18 (by decide) (fun c_18 => ?_) (fun c_18 => ?_)
              · skip
                have y_6 := (bI_eq0 _).mp c_18
                refine M.iinc (v := 7) (L' := [some (.ref (A k1)), some (.int (nI n)), some (.int 7)]) dX12_known_23 rfl rfl (by decide) rfl rfl ?_
                refine M.goto (tgt := 2) dX12_known_26 (by decide) ?_
                refine M.iload_n dX12_known_2 rfl ?_
                refine M.bipush (v := 13) dX12_known_3 (by decide) ?_
                refine M.icmp_ge (tgt := 29) dX12_known_5 (by decide) (fun c_5 => absurd c_5 (by decide)) (fun c_5 => ?_)
                refine M.aload_nR dX12_known_8 rfl ?_
                refine M.iconst (v := 0) dX12_known_9 (by decide) ?_
                refine M.iload_n dX12_known_10 rfl ?_
                refine M.iload_n dX12_known_11 rfl ?_
                refine M.callS [.int 7] dX12_known_12 mdX12_word ssX12_word lk_X12_205 rfl rfl rfl rfl (m_word_7 hA) ?_
                rintro _ I9 F9 ⟨rfl, e9, e8⟩
                have e9 := e9.symm; subst e9; have e8 := e8.symm; subst e8
                refine M.callS [.ref (A k1), .int 0, .int (nI n), .ref (kSa Λ RX12 227)] dX12_known_15 mdX12_isText ssX12_isText lk_X12_209 rfl rfl rfl rfl (m_isText hA r_k1 t_k1 (i := 0) (n := n) (by omega) hby (st_X12_227 hSt) sb_grant_type_b) ?_
                rintro _ I9 F9 ⟨rfl, e9, e8⟩
                have e9 := e9.symm; subst e9; have e8 := e8.symm; subst e8
                refine M.if_eq (tgt := 23) dX12_known_18 (by decide) (fun c_18 => ?_) (fun c_18 => ?_)
                · skip
                  have y_7 := (bI_eq0 _).mp c_18
                  refine M.iinc (v := 8) (L' := [some (.ref (A k1)), some (.int (nI n)), some (.int 8)]) dX12_known_23 rfl rfl (by decide) rfl rfl ?_
                  refine M.goto (tgt := 2) dX12_known_26 (by decide) ?_
                  refine M.iload_n dX12_known_2 rfl ?_
                  refine M.bipush (v := 13) dX12_known_3 (by decide) ?_
                  refine M.icmp_ge (tgt := 29) dX12_known_5 (by decide) (fun c_5 => absurd c_5 (by decide)) (fun c_5 => ?_)
                  refine M.aload_nR dX12_known_8 rfl ?_
                  refine M.iconst (v := 0) dX12_known_9 (by decide) ?_
                  refine M.iload_n dX12_known_10 rfl ?_
                  refine M.iload_n dX12_known_11 rfl ?_
                  refine M.callS [.int 8] dX12_known_12 mdX12_word ssX12_word lk_X12_205 rfl rfl rfl rfl (m_word_8 hA) ?_
                  rintro _ I9 F9 ⟨rfl, e9, e8⟩
                  have e9 := e9.symm; subst e9; have e8 := e8.symm; subst e8
                  refine M.callS [.ref (A k1), .int 0, .int (nI n), .ref (kSa Λ RX12 229)] dX12_known_15 mdX12_isText ssX12_isText lk_X12_209 rfl rfl rfl rfl (m_isText hA r_k1 t_k1 (i := 0) (n := n) (by omega) hby (st_X12_229 hSt) sb_code_b) ?_
                  rintro _ I9 F9 ⟨rfl, e9, e8⟩
                  have e9 := e9.symm; subst e9; have e8 := e8.symm; subst e8
                  refine M.if_eq (tgt := 23) dX12_known_18 (by decide) (fun c_18 => ?_) (fun c_18 => ?_)
                  · skip
                    have y_8 := (bI_eq0 _).mp c_18
                    refine M.iinc (v := 9) (L' := [some (.ref (A k1)), some (.int (nI n)), some (.int 9)]) dX12_known_23 rfl rfl (by decide) rfl rfl ?_
                    refine M.goto (tgt := 2) dX12_known_26 (by decide) ?_
                    refine M.iload_n dX12_known_2 rfl ?_
                    refine M.bipush (v := 13) dX12_known_3 (by decide) ?_
                    refine M.icmp_ge (tgt := 29) dX12_known_5 (by decide) (fun c_5 => absurd c_5 (by decide)) (fun c_5 => ?_)
                    refine M.aload_nR dX12_known_8 rfl ?_
                    refine M.iconst (v := 0) dX12_known_9 (by decide) ?_
                    refine M.iload_n dX12_known_10 rfl ?_
                    refine M.iload_n dX12_known_11 rfl ?_
                    refine M.callS [.int 9] dX12_known_12 mdX12_word ssX12_word lk_X12_205 rfl rfl rfl rfl (m_word_9 hA) ?_
                    rintro _ I9 F9 ⟨rfl, e9, e8⟩
                    have e9 := e9.symm; subst e9; have e8 := e8.symm; subst e8
                    refine M.callS [.ref (A k1), .int 0, .int (nI n), .ref (kSa Λ RX12 231)] dX12_known_15 mdX12_isText ssX12_isText lk_X12_209 rfl rfl rfl rfl (m_isText hA r_k1 t_k1 (i := 0) (n := n) (by omega) hby (st_X12_231 hSt) sb_code_verifier_b) ?_
                    rintro _ I9 F9 ⟨rfl, e9, e8⟩
                    have e9 := e9.symm; subst e9; have e8 := e8.symm; subst e8
                    refine M.if_eq (tgt := 23) dX12_known_18 (by decide) (fun c_18 => ?_) (fun c_18 => ?_)
                    · skip
                      have y_9 := (bI_eq0 _).mp c_18
                      refine M.iinc (v := 10) (L' := [some (.ref (A k1)), some (.int (nI n)), some (.int 10)]) dX12_known_23 rfl rfl (by decide) rfl rfl ?_
                      refine M.goto (tgt := 2) dX12_known_26 (by decide) ?_
                      refine M.iload_n dX12_known_2 rfl ?_
                      refine M.bipush (v := 13) dX12_known_3 (by decide) ?_
                      refine M.icmp_ge (tgt := 29) dX12_known_5 (by decide) (fun c_5 => absurd c_5 (by decide)) (fun c_5 => ?_)
                      refine M.aload_nR dX12_known_8 rfl ?_
                      refine M.iconst (v := 0) dX12_known_9 (by decide) ?_
                      refine M.iload_n dX12_known_10 rfl ?_
                      refine M.iload_n dX12_known_11 rfl ?_
                      refine M.callS [.int 10] dX12_known_12 mdX12_word ssX12_word lk_X12_205 rfl rfl rfl rfl (m_word_10 hA) ?_
                      rintro _ I9 F9 ⟨rfl, e9, e8⟩
                      have e9 := e9.symm; subst e9; have e8 := e8.symm; subst e8
                      refine M.callS [.ref (A k1), .int 0, .int (nI n), .ref (kSa Λ RX12 233)] dX12_known_15 mdX12_isText ssX12_isText lk_X12_209 rfl rfl rfl rfl (m_isText hA r_k1 t_k1 (i := 0) (n := n) (by omega) hby (st_X12_233 hSt) sb_client_secret_b) ?_
                      rintro _ I9 F9 ⟨rfl, e9, e8⟩
                      have e9 := e9.symm; subst e9; have e8 := e8.symm; subst e8
                      refine M.if_eq (tgt := 23) dX12_known_18 (by decide) (fun c_18 => ?_) (fun c_18 => ?_)
                      · skip
                        have y_10 := (bI_eq0 _).mp c_18
                        refine M.iinc (v := 11) (L' := [some (.ref (A k1)), some (.int (nI n)), some (.int 11)]) dX12_known_23 rfl rfl (by decide) rfl rfl ?_
                        refine M.goto (tgt := 2) dX12_known_26 (by decide) ?_
                        refine M.iload_n dX12_known_2 rfl ?_
                        refine M.bipush (v := 13) dX12_known_3 (by decide) ?_
                        refine M.icmp_ge (tgt := 29) dX12_known_5 (by decide) (fun c_5 => absurd c_5 (by decide)) (fun c_5 => ?_)
                        refine M.aload_nR dX12_known_8 rfl ?_
                        refine M.iconst (v := 0) dX12_known_9 (by decide) ?_
                        refine M.iload_n dX12_known_10 rfl ?_
                        refine M.iload_n dX12_known_11 rfl ?_
                        refine M.callS [.int 11] dX12_known_12 mdX12_word ssX12_word lk_X12_205 rfl rfl rfl rfl (m_word_11 hA) ?_
                        rintro _ I9 F9 ⟨rfl, e9, e8⟩
                        have e9 := e9.symm; subst e9; have e8 := e8.symm; subst e8
                        refine M.callS [.ref (A k1), .int 0, .int (nI n), .ref (kSa Λ RX12 235)] dX12_known_15 mdX12_isText ssX12_isText lk_X12_209 rfl rfl rfl rfl (m_isText hA r_k1 t_k1 (i := 0) (n := n) (by omega) hby (st_X12_235 hSt) sb_refresh_token_b) ?_
                        rintro _ I9 F9 ⟨rfl, e9, e8⟩
                        have e9 := e9.symm; subst e9; have e8 := e8.symm; subst e8
                        refine M.if_eq (tgt := 23) dX12_known_18 (by decide) (fun c_18 => ?_) (fun c_18 => ?_)
                        · skip
                          have y_11 := (bI_eq0 _).mp c_18
                          refine M.iinc (v := 12) (L' := [some (.ref (A k1)), some (.int (nI n)), some (.int 12)]) dX12_known_23 rfl rfl (by decide) rfl rfl ?_
                          refine M.goto (tgt := 2) dX12_known_26 (by decide) ?_
                          refine M.iload_n dX12_known_2 rfl ?_
                          refine M.bipush (v := 13) dX12_known_3 (by decide) ?_
                          refine M.icmp_ge (tgt := 29) dX12_known_5 (by decide) (fun c_5 => absurd c_5 (by decide)) (fun c_5 => ?_)
                          refine M.aload_nR dX12_known_8 rfl ?_
                          refine M.iconst (v := 0) dX12_known_9 (by decide) ?_
                          refine M.iload_n dX12_known_10 rfl ?_
                          refine M.iload_n dX12_known_11 rfl ?_
                          refine M.callS [.int 12] dX12_known_12 mdX12_word ssX12_word lk_X12_205 rfl rfl rfl rfl (m_word_12 hA) ?_
                          rintro _ I9 F9 ⟨rfl, e9, e8⟩
                          have e9 := e9.symm; subst e9; have e8 := e8.symm; subst e8
                          refine M.callS [.ref (A k1), .int 0, .int (nI n), .ref (kSa Λ RX12 237)] dX12_known_15 mdX12_isText ssX12_isText lk_X12_209 rfl rfl rfl rfl (m_isText hA r_k1 t_k1 (i := 0) (n := n) (by omega) hby (st_X12_237 hSt) sb_token_b) ?_
                          rintro _ I9 F9 ⟨rfl, e9, e8⟩
                          have e9 := e9.symm; subst e9; have e8 := e8.symm; subst e8
                          refine M.if_eq (tgt := 23) dX12_known_18 (by decide) (fun c_18 => ?_) (fun c_18 => ?_)
                          · skip
                            have y_12 := (bI_eq0 _).mp c_18
                            refine M.iinc (v := 13) (L' := [some (.ref (A k1)), some (.int (nI n)), some (.int 13)]) dX12_known_23 rfl rfl (by decide) rfl rfl ?_
                            refine M.goto (tgt := 2) dX12_known_26 (by decide) ?_
                            refine M.iload_n dX12_known_2 rfl ?_
                            refine M.bipush (v := 13) dX12_known_3 (by decide) ?_
                            refine M.icmp_ge (tgt := 29) dX12_known_5 (by decide) (fun c_5 => ?_) (fun c_5 => absurd (by decide) c_5)
                            refine M.iconst (v := (-1)) dX12_known_29 (by decide) ?_
                            refine M.iret dX12_known_30 rfl ?_
                            refine ⟨congrArg (fun z => some (Value.int z)) ?_, rfl, rfl⟩
                            rw [knw, fsti_f (p := fun k => decide (tl (F k1) 0 n = nmL.getD k [])) (i := 0) y_0, fsti_f (p := fun k => decide (tl (F k1) 0 n = nmL.getD k [])) (i := 1) y_1, fsti_f (p := fun k => decide (tl (F k1) 0 n = nmL.getD k [])) (i := 2) y_2, fsti_f (p := fun k => decide (tl (F k1) 0 n = nmL.getD k [])) (i := 3) y_3, fsti_f (p := fun k => decide (tl (F k1) 0 n = nmL.getD k [])) (i := 4) y_4, fsti_f (p := fun k => decide (tl (F k1) 0 n = nmL.getD k [])) (i := 5) y_5, fsti_f (p := fun k => decide (tl (F k1) 0 n = nmL.getD k [])) (i := 6) y_6, fsti_f (p := fun k => decide (tl (F k1) 0 n = nmL.getD k [])) (i := 7) y_7, fsti_f (p := fun k => decide (tl (F k1) 0 n = nmL.getD k [])) (i := 8) y_8, fsti_f (p := fun k => decide (tl (F k1) 0 n = nmL.getD k [])) (i := 9) y_9, fsti_f (p := fun k => decide (tl (F k1) 0 n = nmL.getD k [])) (i := 10) y_10, fsti_f (p := fun k => decide (tl (F k1) 0 n = nmL.getD k [])) (i := 11) y_11, fsti_f (p := fun k => decide (tl (F k1) 0 n = nmL.getD k [])) (i := 12) y_12]
                            rfl
                          · skip
                            have y_12 := bt1 c_18
                            refine M.iload_n dX12_known_21 rfl ?_
                            refine M.iret dX12_known_22 rfl ?_
                            refine ⟨congrArg (fun z => some (Value.int z)) ?_, rfl, rfl⟩
                            rw [knw, fsti_f (p := fun k => decide (tl (F k1) 0 n = nmL.getD k [])) (i := 0) y_0, fsti_f (p := fun k => decide (tl (F k1) 0 n = nmL.getD k [])) (i := 1) y_1, fsti_f (p := fun k => decide (tl (F k1) 0 n = nmL.getD k [])) (i := 2) y_2, fsti_f (p := fun k => decide (tl (F k1) 0 n = nmL.getD k [])) (i := 3) y_3, fsti_f (p := fun k => decide (tl (F k1) 0 n = nmL.getD k [])) (i := 4) y_4, fsti_f (p := fun k => decide (tl (F k1) 0 n = nmL.getD k [])) (i := 5) y_5, fsti_f (p := fun k => decide (tl (F k1) 0 n = nmL.getD k [])) (i := 6) y_6, fsti_f (p := fun k => decide (tl (F k1) 0 n = nmL.getD k [])) (i := 7) y_7, fsti_f (p := fun k => decide (tl (F k1) 0 n = nmL.getD k [])) (i := 8) y_8, fsti_f (p := fun k => decide (tl (F k1) 0 n = nmL.getD k [])) (i := 9) y_9, fsti_f (p := fun k => decide (tl (F k1) 0 n = nmL.getD k [])) (i := 10) y_10, fsti_f (p := fun k => decide (tl (F k1) 0 n = nmL.getD k [])) (i := 11) y_11, fsti_t (p := fun k => decide (tl (F k1) 0 n = nmL.getD k [])) (i := 12) y_12]
                            rfl
                        · skip
                          have y_11 := bt1 c_18
                          refine M.iload_n dX12_known_21 rfl ?_
                          refine M.iret dX12_known_22 rfl ?_
                          refine ⟨congrArg (fun z => some (Value.int z)) ?_, rfl, rfl⟩
                          rw [knw, fsti_f (p := fun k => decide (tl (F k1) 0 n = nmL.getD k [])) (i := 0) y_0, fsti_f (p := fun k => decide (tl (F k1) 0 n = nmL.getD k [])) (i := 1) y_1, fsti_f (p := fun k => decide (tl (F k1) 0 n = nmL.getD k [])) (i := 2) y_2, fsti_f (p := fun k => decide (tl (F k1) 0 n = nmL.getD k [])) (i := 3) y_3, fsti_f (p := fun k => decide (tl (F k1) 0 n = nmL.getD k [])) (i := 4) y_4, fsti_f (p := fun k => decide (tl (F k1) 0 n = nmL.getD k [])) (i := 5) y_5, fsti_f (p := fun k => decide (tl (F k1) 0 n = nmL.getD k [])) (i := 6) y_6, fsti_f (p := fun k => decide (tl (F k1) 0 n = nmL.getD k [])) (i := 7) y_7, fsti_f (p := fun k => decide (tl (F k1) 0 n = nmL.getD k [])) (i := 8) y_8, fsti_f (p := fun k => decide (tl (F k1) 0 n = nmL.getD k [])) (i := 9) y_9, fsti_f (p := fun k => decide (tl (F k1) 0 n = nmL.getD k [])) (i := 10) y_10, fsti_t (p := fun k => decide (tl (F k1) 0 n = nmL.getD k [])) (i := 11) y_11]
                          rfl
                      · skip
                        have y_10 := bt1 c_18
                        refine M.iload_n dX12_known_21 rfl ?_
                        refine M.iret dX12_known_22 rfl ?_
                        refine ⟨congrArg (fun z => some (Value.int z)) ?_, rfl, rfl⟩
                        rw [knw, fsti_f (p := fun k => decide (tl (F k1) 0 n = nmL.getD k [])) (i := 0) y_0, fsti_f (p := fun k => decide (tl (F k1) 0 n = nmL.getD k [])) (i := 1) y_1, fsti_f (p := fun k => decide (tl (F k1) 0 n = nmL.getD k [])) (i := 2) y_2, fsti_f (p := fun k => decide (tl (F k1) 0 n = nmL.getD k [])) (i := 3) y_3, fsti_f (p := fun k => decide (tl (F k1) 0 n = nmL.getD k [])) (i := 4) y_4, fsti_f (p := fun k => decide (tl (F k1) 0 n = nmL.getD k [])) (i := 5) y_5, fsti_f (p := fun k => decide (tl (F k1) 0 n = nmL.getD k [])) (i := 6) y_6, fsti_f (p := fun k => decide (tl (F k1) 0 n = nmL.getD k [])) (i := 7) y_7, fsti_f (p := fun k => decide (tl (F k1) 0 n = nmL.getD k [])) (i := 8) y_8, fsti_f (p := fun k => decide (tl (F k1) 0 n = nmL.getD k [])) (i := 9) y_9, fsti_t (p := fun k => decide (tl (F k1) 0 n = nmL.getD k [])) (i := 10) y_10]
                        rfl
                    · skip
                      have y_9 := bt1 c_18
                      refine M.iload_n dX12_known_21 rfl ?_
                      refine M.iret dX12_known_22 rfl ?_
                      refine ⟨congrArg (fun z => some (Value.int z)) ?_, rfl, rfl⟩
                      rw [knw, fsti_f (p := fun k => decide (tl (F k1) 0 n = nmL.getD k [])) (i := 0) y_0, fsti_f (p := fun k => decide (tl (F k1) 0 n = nmL.getD k [])) (i := 1) y_1, fsti_f (p := fun k => decide (tl (F k1) 0 n = nmL.getD k [])) (i := 2) y_2, fsti_f (p := fun k => decide (tl (F k1) 0 n = nmL.getD k [])) (i := 3) y_3, fsti_f (p := fun k => decide (tl (F k1) 0 n = nmL.getD k [])) (i := 4) y_4, fsti_f (p := fun k => decide (tl (F k1) 0 n = nmL.getD k [])) (i := 5) y_5, fsti_f (p := fun k => decide (tl (F k1) 0 n = nmL.getD k [])) (i := 6) y_6, fsti_f (p := fun k => decide (tl (F k1) 0 n = nmL.getD k [])) (i := 7) y_7, fsti_f (p := fun k => decide (tl (F k1) 0 n = nmL.getD k [])) (i := 8) y_8, fsti_t (p := fun k => decide (tl (F k1) 0 n = nmL.getD k [])) (i := 9) y_9]
                      rfl
                  · skip
                    have y_8 := bt1 c_18
                    refine M.iload_n dX12_known_21 rfl ?_
                    refine M.iret dX12_known_22 rfl ?_
                    refine ⟨congrArg (fun z => some (Value.int z)) ?_, rfl, rfl⟩
                    rw [knw, fsti_f (p := fun k => decide (tl (F k1) 0 n = nmL.getD k [])) (i := 0) y_0, fsti_f (p := fun k => decide (tl (F k1) 0 n = nmL.getD k [])) (i := 1) y_1, fsti_f (p := fun k => decide (tl (F k1) 0 n = nmL.getD k [])) (i := 2) y_2, fsti_f (p := fun k => decide (tl (F k1) 0 n = nmL.getD k [])) (i := 3) y_3, fsti_f (p := fun k => decide (tl (F k1) 0 n = nmL.getD k [])) (i := 4) y_4, fsti_f (p := fun k => decide (tl (F k1) 0 n = nmL.getD k [])) (i := 5) y_5, fsti_f (p := fun k => decide (tl (F k1) 0 n = nmL.getD k [])) (i := 6) y_6, fsti_f (p := fun k => decide (tl (F k1) 0 n = nmL.getD k [])) (i := 7) y_7, fsti_t (p := fun k => decide (tl (F k1) 0 n = nmL.getD k [])) (i := 8) y_8]
                    rfl
                · skip
                  have y_7 := bt1 c_18
                  refine M.iload_n dX12_known_21 rfl ?_
                  refine M.iret dX12_known_22 rfl ?_
                  refine ⟨congrArg (fun z => some (Value.int z)) ?_, rfl, rfl⟩
                  rw [knw, fsti_f (p := fun k => decide (tl (F k1) 0 n = nmL.getD k [])) (i := 0) y_0, fsti_f (p := fun k => decide (tl (F k1) 0 n = nmL.getD k [])) (i := 1) y_1, fsti_f (p := fun k => decide (tl (F k1) 0 n = nmL.getD k [])) (i := 2) y_2, fsti_f (p := fun k => decide (tl (F k1) 0 n = nmL.getD k [])) (i := 3) y_3, fsti_f (p := fun k => decide (tl (F k1) 0 n = nmL.getD k [])) (i := 4) y_4, fsti_f (p := fun k => decide (tl (F k1) 0 n = nmL.getD k [])) (i := 5) y_5, fsti_f (p := fun k => decide (tl (F k1) 0 n = nmL.getD k [])) (i := 6) y_6, fsti_t (p := fun k => decide (tl (F k1) 0 n = nmL.getD k [])) (i := 7) y_7]
                  rfl
              · skip
                have y_6 := bt1 c_18
                refine M.iload_n dX12_known_21 rfl ?_
                refine M.iret dX12_known_22 rfl ?_
                refine ⟨congrArg (fun z => some (Value.int z)) ?_, rfl, rfl⟩
                rw [knw, fsti_f (p := fun k => decide (tl (F k1) 0 n = nmL.getD k [])) (i := 0) y_0, fsti_f (p := fun k => decide (tl (F k1) 0 n = nmL.getD k [])) (i := 1) y_1, fsti_f (p := fun k => decide (tl (F k1) 0 n = nmL.getD k [])) (i := 2) y_2, fsti_f (p := fun k => decide (tl (F k1) 0 n = nmL.getD k [])) (i := 3) y_3, fsti_f (p := fun k => decide (tl (F k1) 0 n = nmL.getD k [])) (i := 4) y_4, fsti_f (p := fun k => decide (tl (F k1) 0 n = nmL.getD k [])) (i := 5) y_5, fsti_t (p := fun k => decide (tl (F k1) 0 n = nmL.getD k [])) (i := 6) y_6]
                rfl
            · skip
              have y_5 := bt1 c_18
              refine M.iload_n dX12_known_21 rfl ?_
              refine M.iret dX12_known_22 rfl ?_
              refine ⟨congrArg (fun z => some (Value.int z)) ?_, rfl, rfl⟩
              rw [knw, fsti_f (p := fun k => decide (tl (F k1) 0 n = nmL.getD k [])) (i := 0) y_0, fsti_f (p := fun k => decide (tl (F k1) 0 n = nmL.getD k [])) (i := 1) y_1, fsti_f (p := fun k => decide (tl (F k1) 0 n = nmL.getD k [])) (i := 2) y_2, fsti_f (p := fun k => decide (tl (F k1) 0 n = nmL.getD k [])) (i := 3) y_3, fsti_f (p := fun k => decide (tl (F k1) 0 n = nmL.getD k [])) (i := 4) y_4, fsti_t (p := fun k => decide (tl (F k1) 0 n = nmL.getD k [])) (i := 5) y_5]
              rfl
          · skip
            have y_4 := bt1 c_18
            refine M.iload_n dX12_known_21 rfl ?_
            refine M.iret dX12_known_22 rfl ?_
            refine ⟨congrArg (fun z => some (Value.int z)) ?_, rfl, rfl⟩
            rw [knw, fsti_f (p := fun k => decide (tl (F k1) 0 n = nmL.getD k [])) (i := 0) y_0, fsti_f (p := fun k => decide (tl (F k1) 0 n = nmL.getD k [])) (i := 1) y_1, fsti_f (p := fun k => decide (tl (F k1) 0 n = nmL.getD k [])) (i := 2) y_2, fsti_f (p := fun k => decide (tl (F k1) 0 n = nmL.getD k [])) (i := 3) y_3, fsti_t (p := fun k => decide (tl (F k1) 0 n = nmL.getD k [])) (i := 4) y_4]
            rfl
        · skip
          have y_3 := bt1 c_18
          refine M.iload_n dX12_known_21 rfl ?_
          refine M.iret dX12_known_22 rfl ?_
          refine ⟨congrArg (fun z => some (Value.int z)) ?_, rfl, rfl⟩
          rw [knw, fsti_f (p := fun k => decide (tl (F k1) 0 n = nmL.getD k [])) (i := 0) y_0, fsti_f (p := fun k => decide (tl (F k1) 0 n = nmL.getD k [])) (i := 1) y_1, fsti_f (p := fun k => decide (tl (F k1) 0 n = nmL.getD k [])) (i := 2) y_2, fsti_t (p := fun k => decide (tl (F k1) 0 n = nmL.getD k [])) (i := 3) y_3]
          rfl
      · skip
        have y_2 := bt1 c_18
        refine M.iload_n dX12_known_21 rfl ?_
        refine M.iret dX12_known_22 rfl ?_
        refine ⟨congrArg (fun z => some (Value.int z)) ?_, rfl, rfl⟩
        rw [knw, fsti_f (p := fun k => decide (tl (F k1) 0 n = nmL.getD k [])) (i := 0) y_0, fsti_f (p := fun k => decide (tl (F k1) 0 n = nmL.getD k [])) (i := 1) y_1, fsti_t (p := fun k => decide (tl (F k1) 0 n = nmL.getD k [])) (i := 2) y_2]
        rfl
    · skip
      have y_1 := bt1 c_18
      refine M.iload_n dX12_known_21 rfl ?_
      refine M.iret dX12_known_22 rfl ?_
      refine ⟨congrArg (fun z => some (Value.int z)) ?_, rfl, rfl⟩
      rw [knw, fsti_f (p := fun k => decide (tl (F k1) 0 n = nmL.getD k [])) (i := 0) y_0, fsti_t (p := fun k => decide (tl (F k1) 0 n = nmL.getD k [])) (i := 1) y_1]
      rfl
  · skip
    have y_0 := bt1 c_18
    refine M.iload_n dX12_known_21 rfl ?_
    refine M.iret dX12_known_22 rfl ?_
    refine ⟨congrArg (fun z => some (Value.int z)) ?_, rfl, rfl⟩
    rw [knw, fsti_t (p := fun k => decide (tl (F k1) 0 n = nmL.getD k [])) (i := 0) y_0]
    rfl

theorem m_decode {Λ : kL} {m : Nat} {A : Nat → Nat} {I : Nat → Int32} {F : Nat → Nat → Int32} (hA : mInj A) {p e : Nat} (hp : p < e) (he : e ≤ 2000) : mCt Λ mX12_decode m A [.ref m, .int (nI p), .int (nI e)] I F (fun r I' F' => r = some (.int (dcv (F 1) p e)) ∧ I' = upd I 67 (nI (dcn (F 1) p)) ∧ F' = F) := by
  refine mCt.of hA pn_X12 [some (.ref m), some (.int (nI p)), some (.int (nI e)), none, none, none] rfl (Nat.le_of_ble_eq_true rfl) fun X => ?_
  refine M.aload_nR dX12_decode_0 rfl ?_
  refine M.getr dX12_decode_1 fl_X12_9 rfl rfl ?_
  refine M.iload_n dX12_decode_4 rfl ?_
  refine M.bald (k9 := 1) (j := p) (g := F 1) dX12_decode_5 rfl rfl rfl rfl (show p < 2000 by omega) ?_
  refine M.istore_n (L' := [some (.ref m), some (.int (nI p)), some (.int (nI e)), some (.int ((F 1) p)), none, none]) dX12_decode_6 (by decide) rfl rfl ?_
  refine M.aload_nR dX12_decode_7 rfl ?_
  refine M.iconst (v := 1) dX12_decode_8 (by decide) ?_
  refine M.puti dX12_decode_9 fp_X12_239 rfl rfl ?_
  refine M.iload_n dX12_decode_12 rfl ?_
  refine M.bipush (v := 43) dX12_decode_13 (by decide) ?_
  refine M.icmp_ne (tgt := 21) dX12_decode_15 (by decide) (fun c_15 => ?_) (fun c_15 => ?_)
  · skip
    refine M.iload_n dX12_decode_21 rfl ?_
    refine M.bipush (v := 37) dX12_decode_22 (by decide) ?_
    refine M.icmp_eq (tgt := 45) dX12_decode_24 (by decide) (fun c_24 => ?_) (fun c_24 => ?_)
    · skip
      refine M.aload_nR dX12_decode_45 rfl ?_
      refine M.iconst (v := 3) dX12_decode_46 (by decide) ?_
      refine M.puti dX12_decode_47 fp_X12_239 rfl rfl ?_
      refine M.iload_n dX12_decode_50 rfl ?_
      refine M.iconst (v := 1) dX12_decode_51 (by decide) ?_
      refine M.iadd dX12_decode_52 ?_
      rw [show (nI p) + 1 = nI (p + 1) from nI_add p 1]
      refine M.iload_n dX12_decode_53 rfl ?_
      refine M.icmp_ge (tgt := 71) dX12_decode_54 (by decide) (fun c_54 => ?_) (fun c_54 => ?_)
      · skip
        have g1 : ¬ p + 1 < e := fun q => absurd c_54 (nI_ge q (by omega))
        refine M.iconst (v := (-1)) dX12_decode_71 (by decide) ?_
        refine M.istore (L' := [some (.ref m), some (.int (nI p)), some (.int (nI e)), some (.int ((F 1) p)), some (.int (-1)), none]) dX12_decode_72 (by decide) rfl rfl ?_
        refine M.iload_n dX12_decode_74 rfl ?_
        refine M.iconst (v := 2) dX12_decode_75 (by decide) ?_
        refine M.iadd dX12_decode_76 ?_
        rw [show (nI p) + 2 = nI (p + 2) from nI_add p 2]
        refine M.iload_n dX12_decode_77 rfl ?_
        refine M.icmp_ge (tgt := 95) dX12_decode_78 (by decide) (fun c_78 => ?_) (fun c_78 => ?_)
        · skip
          have g2 : ¬ p + 2 < e := fun q => absurd c_78 (nI_ge q (by omega))
          refine M.iconst (v := (-1)) dX12_decode_95 (by decide) ?_
          refine M.istore (L' := [some (.ref m), some (.int (nI p)), some (.int (nI e)), some (.int ((F 1) p)), some (.int (-1)), some (.int (-1))]) dX12_decode_96 (by decide) rfl rfl ?_
          refine M.iload dX12_decode_98 rfl ?_
          refine M.if_lt (tgt := 108) dX12_decode_100 (by decide) (fun c_100 => ?_) (fun c_100 => ?_)
          · skip
            refine M.iconst (v := (-1)) dX12_decode_108 (by decide) ?_
            refine M.goto (tgt := 120) dX12_decode_109 (by decide) ?_
            refine M.iret dX12_decode_120 rfl ?_
            refine ⟨congrArg (fun z => some (Value.int z)) ?_, ?_, rfl⟩
            · rw [dcv, if_neg c_15, if_pos c_24]
              first | rw [if_pos g1] | rw [if_neg g1]
              first | rw [if_pos g2] | rw [if_neg g2]
              first | rw [if_pos (Or.inl c_100)] | rw [if_pos (Or.inr (Int32.not_le.mp c_105))]
            · rw [dcn, if_pos c_24, upd_upd]
              rfl
          · skip
            refine M.iload dX12_decode_103 rfl ?_
            refine M.if_ge (tgt := 112) dX12_decode_105 (by decide) (fun c_105 => ?_) (fun c_105 => ?_)
            · skip
              refine M.bipush (v := 16) dX12_decode_112 (by decide) ?_
              refine M.iload dX12_decode_114 rfl ?_
              refine M.imul dX12_decode_116 ?_
              refine M.iload dX12_decode_117 rfl ?_
              refine M.iadd dX12_decode_119 ?_
              refine M.iret dX12_decode_120 rfl ?_
              refine ⟨congrArg (fun z => some (Value.int z)) ?_, ?_, rfl⟩
              · rw [dcv, if_neg c_15, if_pos c_24]
                first | rw [if_pos g1] | rw [if_neg g1]
                first | rw [if_pos g2] | rw [if_neg g2]
                rw [if_neg (fun q => q.elim (fun a => c_100 a) (fun a => Int32.not_lt.mpr c_105 a))]
              · rw [dcn, if_pos c_24, upd_upd]
                rfl
            · skip
              refine M.iconst (v := (-1)) dX12_decode_108 (by decide) ?_
              refine M.goto (tgt := 120) dX12_decode_109 (by decide) ?_
              refine M.iret dX12_decode_120 rfl ?_
              refine ⟨congrArg (fun z => some (Value.int z)) ?_, ?_, rfl⟩
              · rw [dcv, if_neg c_15, if_pos c_24]
                first | rw [if_pos g1] | rw [if_neg g1]
                first | rw [if_pos g2] | rw [if_neg g2]
                first | rw [if_pos (Or.inl c_100)] | rw [if_pos (Or.inr (Int32.not_le.mp c_105))]
              · rw [dcn, if_pos c_24, upd_upd]
                rfl
        · skip
          have g2 : p + 2 < e := nI_ltn c_78 (by omega) (by omega)
          refine M.aload_nR dX12_decode_81 rfl ?_
          refine M.getr dX12_decode_82 fl_X12_9 rfl rfl ?_
          refine M.iload_n dX12_decode_85 rfl ?_
          refine M.iconst (v := 2) dX12_decode_86 (by decide) ?_
          refine M.iadd dX12_decode_87 ?_
          rw [show (nI p) + 2 = nI (p + 2) from nI_add p 2]
          refine M.bald (k9 := 1) (j := p + 2) (g := F 1) dX12_decode_88 rfl rfl rfl rfl (show p + 2 < 2000 by omega) ?_
          refine M.callJ (v := .int (hexd ((F 1) (p + 2)))) [.int ((F 1) (p + 2))] dX12_decode_89 mdX12_hex ssX12_hex lk_X12_242 rfl rfl rfl rfl (fun σ9 => m_hex ((F 1) (p + 2))) ?_
          refine M.goto (tgt := 96) dX12_decode_92 (by decide) ?_
          refine M.istore (L' := [some (.ref m), some (.int (nI p)), some (.int (nI e)), some (.int ((F 1) p)), some (.int (-1)), some (.int (hexd ((F 1) (p + 2))))]) dX12_decode_96 (by decide) rfl rfl ?_
          refine M.iload dX12_decode_98 rfl ?_
          refine M.if_lt (tgt := 108) dX12_decode_100 (by decide) (fun c_100 => ?_) (fun c_100 => ?_)
          · skip
            refine M.iconst (v := (-1)) dX12_decode_108 (by decide) ?_
            refine M.goto (tgt := 120) dX12_decode_109 (by decide) ?_
            refine M.iret dX12_decode_120 rfl ?_
            refine ⟨congrArg (fun z => some (Value.int z)) ?_, ?_, rfl⟩
            · rw [dcv, if_neg c_15, if_pos c_24]
              first | rw [if_pos g1] | rw [if_neg g1]
              first | rw [if_pos g2] | rw [if_neg g2]
              first | rw [if_pos (Or.inl c_100)] | rw [if_pos (Or.inr (Int32.not_le.mp c_105))]
            · rw [dcn, if_pos c_24, upd_upd]
              rfl
          · skip
            refine M.iload dX12_decode_103 rfl ?_
            refine M.if_ge (tgt := 112) dX12_decode_105 (by decide) (fun c_105 => ?_) (fun c_105 => ?_)
            · skip
              refine M.bipush (v := 16) dX12_decode_112 (by decide) ?_
              refine M.iload dX12_decode_114 rfl ?_
              refine M.imul dX12_decode_116 ?_
              refine M.iload dX12_decode_117 rfl ?_
              refine M.iadd dX12_decode_119 ?_
              refine M.iret dX12_decode_120 rfl ?_
              refine ⟨congrArg (fun z => some (Value.int z)) ?_, ?_, rfl⟩
              · rw [dcv, if_neg c_15, if_pos c_24]
                first | rw [if_pos g1] | rw [if_neg g1]
                first | rw [if_pos g2] | rw [if_neg g2]
                rw [if_neg (fun q => q.elim (fun a => c_100 a) (fun a => Int32.not_lt.mpr c_105 a))]
              · rw [dcn, if_pos c_24, upd_upd]
                rfl
            · skip
              refine M.iconst (v := (-1)) dX12_decode_108 (by decide) ?_
              refine M.goto (tgt := 120) dX12_decode_109 (by decide) ?_
              refine M.iret dX12_decode_120 rfl ?_
              refine ⟨congrArg (fun z => some (Value.int z)) ?_, ?_, rfl⟩
              · rw [dcv, if_neg c_15, if_pos c_24]
                first | rw [if_pos g1] | rw [if_neg g1]
                first | rw [if_pos g2] | rw [if_neg g2]
                first | rw [if_pos (Or.inl c_100)] | rw [if_pos (Or.inr (Int32.not_le.mp c_105))]
              · rw [dcn, if_pos c_24, upd_upd]
                rfl
      · skip
        have g1 : p + 1 < e := nI_ltn c_54 (by omega) (by omega)
        refine M.aload_nR dX12_decode_57 rfl ?_
        refine M.getr dX12_decode_58 fl_X12_9 rfl rfl ?_
        refine M.iload_n dX12_decode_61 rfl ?_
        refine M.iconst (v := 1) dX12_decode_62 (by decide) ?_
        refine M.iadd dX12_decode_63 ?_
        rw [show (nI p) + 1 = nI (p + 1) from nI_add p 1]
        refine M.bald (k9 := 1) (j := p + 1) (g := F 1) dX12_decode_64 rfl rfl rfl rfl (show p + 1 < 2000 by omega) ?_
        refine M.callJ (v := .int (hexd ((F 1) (p + 1)))) [.int ((F 1) (p + 1))] dX12_decode_65 mdX12_hex ssX12_hex lk_X12_242 rfl rfl rfl rfl (fun σ9 => m_hex ((F 1) (p + 1))) ?_
        refine M.goto (tgt := 72) dX12_decode_68 (by decide) ?_
        refine M.istore (L' := [some (.ref m), some (.int (nI p)), some (.int (nI e)), some (.int ((F 1) p)), some (.int (hexd ((F 1) (p + 1)))), none]) dX12_decode_72 (by decide) rfl rfl ?_
        refine M.iload_n dX12_decode_74 rfl ?_
        refine M.iconst (v := 2) dX12_decode_75 (by decide) ?_
        refine M.iadd dX12_decode_76 ?_
        rw [show (nI p) + 2 = nI (p + 2) from nI_add p 2]
        refine M.iload_n dX12_decode_77 rfl ?_
        refine M.icmp_ge (tgt := 95) dX12_decode_78 (by decide) (fun c_78 => ?_) (fun c_78 => ?_)
        · skip
          have g2 : ¬ p + 2 < e := fun q => absurd c_78 (nI_ge q (by omega))
          refine M.iconst (v := (-1)) dX12_decode_95 (by decide) ?_
          refine M.istore (L' := [some (.ref m), some (.int (nI p)), some (.int (nI e)), some (.int ((F 1) p)), some (.int (hexd ((F 1) (p + 1)))), some (.int (-1))]) dX12_decode_96 (by decide) rfl rfl ?_
          refine M.iload dX12_decode_98 rfl ?_
          refine M.if_lt (tgt := 108) dX12_decode_100 (by decide) (fun c_100 => ?_) (fun c_100 => ?_)
          · skip
            refine M.iconst (v := (-1)) dX12_decode_108 (by decide) ?_
            refine M.goto (tgt := 120) dX12_decode_109 (by decide) ?_
            refine M.iret dX12_decode_120 rfl ?_
            refine ⟨congrArg (fun z => some (Value.int z)) ?_, ?_, rfl⟩
            · rw [dcv, if_neg c_15, if_pos c_24]
              first | rw [if_pos g1] | rw [if_neg g1]
              first | rw [if_pos g2] | rw [if_neg g2]
              first | rw [if_pos (Or.inl c_100)] | rw [if_pos (Or.inr (Int32.not_le.mp c_105))]
            · rw [dcn, if_pos c_24, upd_upd]
              rfl
          · skip
            refine M.iload dX12_decode_103 rfl ?_
            refine M.if_ge (tgt := 112) dX12_decode_105 (by decide) (fun c_105 => ?_) (fun c_105 => ?_)
            · skip
              refine M.bipush (v := 16) dX12_decode_112 (by decide) ?_
              refine M.iload dX12_decode_114 rfl ?_
              refine M.imul dX12_decode_116 ?_
              refine M.iload dX12_decode_117 rfl ?_
              refine M.iadd dX12_decode_119 ?_
              refine M.iret dX12_decode_120 rfl ?_
              refine ⟨congrArg (fun z => some (Value.int z)) ?_, ?_, rfl⟩
              · rw [dcv, if_neg c_15, if_pos c_24]
                first | rw [if_pos g1] | rw [if_neg g1]
                first | rw [if_pos g2] | rw [if_neg g2]
                rw [if_neg (fun q => q.elim (fun a => c_100 a) (fun a => Int32.not_lt.mpr c_105 a))]
              · rw [dcn, if_pos c_24, upd_upd]
                rfl
            · skip
              refine M.iconst (v := (-1)) dX12_decode_108 (by decide) ?_
              refine M.goto (tgt := 120) dX12_decode_109 (by decide) ?_
              refine M.iret dX12_decode_120 rfl ?_
              refine ⟨congrArg (fun z => some (Value.int z)) ?_, ?_, rfl⟩
              · rw [dcv, if_neg c_15, if_pos c_24]
                first | rw [if_pos g1] | rw [if_neg g1]
                first | rw [if_pos g2] | rw [if_neg g2]
                first | rw [if_pos (Or.inl c_100)] | rw [if_pos (Or.inr (Int32.not_le.mp c_105))]
              · rw [dcn, if_pos c_24, upd_upd]
                rfl
        · skip
          have g2 : p + 2 < e := nI_ltn c_78 (by omega) (by omega)
          refine M.aload_nR dX12_decode_81 rfl ?_
          refine M.getr dX12_decode_82 fl_X12_9 rfl rfl ?_
          refine M.iload_n dX12_decode_85 rfl ?_
          refine M.iconst (v := 2) dX12_decode_86 (by decide) ?_
          refine M.iadd dX12_decode_87 ?_
          rw [show (nI p) + 2 = nI (p + 2) from nI_add p 2]
          refine M.bald (k9 := 1) (j := p + 2) (g := F 1) dX12_decode_88 rfl rfl rfl rfl (show p + 2 < 2000 by omega) ?_
          refine M.callJ (v := .int (hexd ((F 1) (p + 2)))) [.int ((F 1) (p + 2))] dX12_decode_89 mdX12_hex ssX12_hex lk_X12_242 rfl rfl rfl rfl (fun σ9 => m_hex ((F 1) (p + 2))) ?_
          refine M.goto (tgt := 96) dX12_decode_92 (by decide) ?_
          refine M.istore (L' := [some (.ref m), some (.int (nI p)), some (.int (nI e)), some (.int ((F 1) p)), some (.int (hexd ((F 1) (p + 1)))), some (.int (hexd ((F 1) (p + 2))))]) dX12_decode_96 (by decide) rfl rfl ?_
          refine M.iload dX12_decode_98 rfl ?_
          refine M.if_lt (tgt := 108) dX12_decode_100 (by decide) (fun c_100 => ?_) (fun c_100 => ?_)
          · skip
            refine M.iconst (v := (-1)) dX12_decode_108 (by decide) ?_
            refine M.goto (tgt := 120) dX12_decode_109 (by decide) ?_
            refine M.iret dX12_decode_120 rfl ?_
            refine ⟨congrArg (fun z => some (Value.int z)) ?_, ?_, rfl⟩
            · rw [dcv, if_neg c_15, if_pos c_24]
              first | rw [if_pos g1] | rw [if_neg g1]
              first | rw [if_pos g2] | rw [if_neg g2]
              first | rw [if_pos (Or.inl c_100)] | rw [if_pos (Or.inr (Int32.not_le.mp c_105))]
            · rw [dcn, if_pos c_24, upd_upd]
              rfl
          · skip
            refine M.iload dX12_decode_103 rfl ?_
            refine M.if_ge (tgt := 112) dX12_decode_105 (by decide) (fun c_105 => ?_) (fun c_105 => ?_)
            · skip
              refine M.bipush (v := 16) dX12_decode_112 (by decide) ?_
              refine M.iload dX12_decode_114 rfl ?_
              refine M.imul dX12_decode_116 ?_
              refine M.iload dX12_decode_117 rfl ?_
              refine M.iadd dX12_decode_119 ?_
              refine M.iret dX12_decode_120 rfl ?_
              refine ⟨congrArg (fun z => some (Value.int z)) ?_, ?_, rfl⟩
              · rw [dcv, if_neg c_15, if_pos c_24]
                first | rw [if_pos g1] | rw [if_neg g1]
                first | rw [if_pos g2] | rw [if_neg g2]
                rw [if_neg (fun q => q.elim (fun a => c_100 a) (fun a => Int32.not_lt.mpr c_105 a))]
              · rw [dcn, if_pos c_24, upd_upd]
                rfl
            · skip
              refine M.iconst (v := (-1)) dX12_decode_108 (by decide) ?_
              refine M.goto (tgt := 120) dX12_decode_109 (by decide) ?_
              refine M.iret dX12_decode_120 rfl ?_
              refine ⟨congrArg (fun z => some (Value.int z)) ?_, ?_, rfl⟩
              · rw [dcv, if_neg c_15, if_pos c_24]
                first | rw [if_pos g1] | rw [if_neg g1]
                first | rw [if_pos g2] | rw [if_neg g2]
                first | rw [if_pos (Or.inl c_100)] | rw [if_pos (Or.inr (Int32.not_le.mp c_105))]
              · rw [dcn, if_pos c_24, upd_upd]
                rfl
    · skip
      refine M.iload_n dX12_decode_27 rfl ?_
      refine M.bipush (v := 32) dX12_decode_28 (by decide) ?_
      refine M.icmp_le (tgt := 43) dX12_decode_30 (by decide) (fun c_30 => ?_) (fun c_30 => ?_)
      · skip
        refine M.iconst (v := (-1)) dX12_decode_43 (by decide) ?_
        refine M.iret dX12_decode_44 rfl ?_
        refine ⟨congrArg (fun z => some (Value.int z)) ?_, ?_, rfl⟩
        · first | rw [dcv, if_neg c_15, if_neg c_24, if_pos (vis_t c_30 c_36)] | rw [dcv, if_neg c_15, if_neg c_24, vis_f1 c_30, if_neg (by decide)] | rw [dcv, if_neg c_15, if_neg c_24, vis_f2 c_36, if_neg (by decide)]
        · rw [dcn, if_neg c_24]
          rfl
      · skip
        refine M.iload_n dX12_decode_33 rfl ?_
        refine M.bipush (v := 127) dX12_decode_34 (by decide) ?_
        refine M.icmp_ge (tgt := 43) dX12_decode_36 (by decide) (fun c_36 => ?_) (fun c_36 => ?_)
        · skip
          refine M.iconst (v := (-1)) dX12_decode_43 (by decide) ?_
          refine M.iret dX12_decode_44 rfl ?_
          refine ⟨congrArg (fun z => some (Value.int z)) ?_, ?_, rfl⟩
          · first | rw [dcv, if_neg c_15, if_neg c_24, if_pos (vis_t c_30 c_36)] | rw [dcv, if_neg c_15, if_neg c_24, vis_f1 c_30, if_neg (by decide)] | rw [dcv, if_neg c_15, if_neg c_24, vis_f2 c_36, if_neg (by decide)]
          · rw [dcn, if_neg c_24]
            rfl
        · skip
          refine M.iload_n dX12_decode_39 rfl ?_
          refine M.goto (tgt := 44) dX12_decode_40 (by decide) ?_
          refine M.iret dX12_decode_44 rfl ?_
          refine ⟨congrArg (fun z => some (Value.int z)) ?_, ?_, rfl⟩
          · first | rw [dcv, if_neg c_15, if_neg c_24, if_pos (vis_t c_30 c_36)] | rw [dcv, if_neg c_15, if_neg c_24, vis_f1 c_30, if_neg (by decide)] | rw [dcv, if_neg c_15, if_neg c_24, vis_f2 c_36, if_neg (by decide)]
          · rw [dcn, if_neg c_24]
            rfl
  · skip
    refine M.bipush (v := 32) dX12_decode_18 (by decide) ?_
    refine M.iret dX12_decode_20 rfl ?_
    refine ⟨congrArg (fun z => some (Value.int z)) ?_, ?_, rfl⟩
    · rw [dcv, if_pos c_15]
    · rw [dcn, if_neg (by rw [c_15]; decide)]
      rfl
