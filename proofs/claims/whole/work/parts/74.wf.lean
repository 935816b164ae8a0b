/-! what always holds is kept by every call -/
def Wg (o : rx) : Prop := wfn o.2.2.1 ∧ wfw (o.2.2.2.2.1 2) ∧ wfc (o.2.2.2.2.1 3) (o.2.2.2.2.1 4) (o.2.2.2.2.1 5) ∧ wfr (o.2.2.2.2.1 3) o.2.2.2.2.2 ∧ wfx (o.2.2.2.2.1 20) (o.2.2.2.2.1 21) ((o.2.2.2.2.1 27).length + (o.2.2.2.2.1 29).length + (o.2.2.2.2.1 30).length) ∧ wfq (o.2.2.2.2.1 23) (o.2.2.2.2.1 25) (o.2.2.2.2.1 26) (o.2.2.2.2.1 3) o.2.2.2.2.2 ∧ wfk (o.2.2.2.2.1 27) (o.2.2.2.2.1 23) (o.2.2.2.2.1 28) (o.2.2.2.2.1 21) ∧ wff (o.2.2.2.2.1 28) (o.2.2.2.2.1 3) ∧ wft (o.2.2.2.2.1 29) (o.2.2.2.2.1 30) (o.2.2.2.2.1 21) (o.2.2.2.2.1 28) ∧ wfm (o.2.2.2.2.1 22) (o.2.2.2.2.1 27) (o.2.2.2.2.1 29) (o.2.2.2.2.1 30) (o.2.2.2.2.1 21).length ∧ wfl o.2.2.2.2.1 ∧ wfs o.2.2.2.2.1
abbrev wg (N : Nat → Int32) (T R : Nat → List (List Int32)) : Prop := Wg (0, 0, N, fun _ => [], T, R)
theorem ft_app {C : List (List Int32)} {a b : Nat} {v : List Int32} (h : ft C a b) (h1 : a ≤ v.length) (h2 : v.length ≤ b) (h3 : bts v) : ft (C ++ [v]) a b := fun k hk => by
  rw [List.length_append, List.length_singleton] at hk
  by_cases e : k = C.length
  · rw [gD_at e]; exact ⟨h1, h2, h3⟩
  · rw [getD_appl (by omega)]; exact h k (by omega)
theorem lwr_app {C : List (List Int32)} {c b j : Nat} {r : List Int32} (h : lwr C c b) (hr : r.getD c 0 = nI j) (hj : j < b) : lwr (C ++ [r]) c b := fun k hk => by
  rw [List.length_append, List.length_singleton] at hk
  by_cases e : k = C.length
  · rw [gD_at e]; exact ⟨j, hj, hr⟩
  · rw [getD_appl (by omega)]; exact h k (by omega)
theorem lwr_up {C : List (List Int32)} {c b b' : Nat} (h : lwr C c b) (hb : b ≤ b') : lwr C c b' := fun k hk => by
  obtain ⟨j, h1, h2⟩ := h k hk
  exact ⟨j, by omega, h2⟩
theorem zro_app {C : List (List Int32)} {c : Nat} {r : List Int32} (h : zro C c) (b : Bool) (hr : r.getD c 0 = bI b) : zro (C ++ [r]) c := fun k hk => by
  rw [List.length_append, List.length_singleton] at hk
  by_cases e : k = C.length
  · rw [gD_at e]; exact ⟨b, hr⟩
  · rw [getD_appl (by omega)]; exact h k (by omega)
theorem rl_app {C : List (List Int32)} {n : Nat} {r : List Int32} (h : rl C n) (hr : r.length = n) : rl (C ++ [r]) n := fun k hk => by
  rw [List.length_append, List.length_singleton] at hk
  by_cases e : k = C.length
  · rw [gD_at e]; exact hr
  · rw [getD_appl (by omega)]; exact h k (by omega)
theorem scs_app {C : List (List Int32)} {c : Nat} {r : List Int32} (h : scs C c) {i : Nat} (hi : i < 256) (hr : r.getD c 0 = nI i) : scs (C ++ [r]) c := fun k hk => by
  rw [List.length_append, List.length_singleton] at hk
  by_cases e : k = C.length
  · rw [ro_at e]; exact ⟨i, hi, hr⟩
  · rw [ro_lt (by omega)]; exact h k (by omega)
theorem scs_ne {C : List (List Int32)} {k c d : Nat} {x : Int32} (h : scs C d) (hc : c ≠ d) : scs (stc C k c x) d := fun n hn => by
  rw [stc_len] at hn
  rw [ro_ne (Or.inl hc)]
  exact h n hn
theorem fnd_mem {T : List (List Int32)} {v : List Int32} (h : fnd T v = T.length) : ¬ v ∈ T := fun hm => by
  obtain ⟨k, hk, e⟩ := List.mem_iff_getElem.mp hm
  have h1 := fsti_no (p := fun k => decide (v = T.getD k [])) (k := T.length) (i := 0) (by rw [Nat.zero_add]; exact h) k (Nat.zero_le _) (by omega)
  exact of_decide_eq_false h1 (by rw [List.getD_eq_getElem?_getD, List.getElem?_eq_getElem hk, ← e]; rfl)
/-- within scopes below 256 -/
theorem wthn_256 {x : Int32} {j : Nat} (hj : j < 256) (h : wthn x (nI j) = true) : ∃ i, i < 256 ∧ x = nI i := by
  have h0 : x &&& (nI j ^^^ -1) = 0 := of_decide_eq_true h
  have e2 : (x &&& (nI j ^^^ -1)).toBitVec = x.toBitVec &&& ((nI j).toBitVec ^^^ BitVec.allOnes 32) := by
    rw [Int32.toBitVec_and, Int32.toBitVec_xor]
    rfl
  have hn : x.toBitVec.toNat < 2 ^ 8 := by
    refine Nat.lt_pow_two_of_testBit _ fun i hi => ?_
    rw [BitVec.testBit_toNat]
    by_cases hi2 : i < 32
    · have hb : (x.toBitVec &&& ((nI j).toBitVec ^^^ BitVec.allOnes 32)).getLsbD i = (0 : Int32).toBitVec.getLsbD i := by rw [← e2, h0]
      have hj0 : (nI j).toBitVec.getLsbD i = false := by
        rw [← BitVec.testBit_toNat, show (nI j).toBitVec.toNat = j from by rw [show (nI j).toBitVec = BitVec.ofNat 32 j from rfl, BitVec.toNat_ofNat]; omega]
        exact Nat.testBit_lt_two_pow (Nat.lt_of_lt_of_le (show j < 2 ^ 8 from hj) (Nat.pow_le_pow_right (by decide) hi))
      rw [BitVec.getLsbD_and, BitVec.getLsbD_xor, hj0, BitVec.getLsbD_allOnes, decide_eq_true hi2, show (0 : Int32).toBitVec.getLsbD i = false from BitVec.getLsbD_zero] at hb
      cases hz : x.toBitVec.getLsbD i with
      | false => rfl
      | true => rw [hz] at hb; exact absurd hb (by decide)
    · exact BitVec.getLsbD_of_ge _ _ (by omega)
  refine ⟨x.toBitVec.toNat, hn, ?_⟩
  rw [← Int32.toBitVec_inj]
  show x.toBitVec = BitVec.ofNat 32 x.toBitVec.toNat
  have hl := x.toBitVec.isLt
  exact BitVec.eq_of_toNat_eq (by rw [BitVec.toNat_ofNat]; omega)
/-- what is read of a FORM -/
theorem gD_b8 {v : List Int32} (h : bts v) : ∀ j, b8 (gD v j) = gD v j := fun j => by
  rw [gD, List.getD_eq_getElem?_getD]
  cases e : v[j]? with
  | none => rfl
  | some x => exact h x (List.mem_of_getElem? e)
def fvb (n : Nat) (g : fvs) : Prop := ∀ k, (fv g k).length ≤ n ∧ bts (fv g k)
theorem frm_fvb {f : Nat → Int32} (hf : ∀ j, b8 (f j) = f j) {n : Nat} (k : Nat) : ∀ (p c : Nat) (g g' : fvs), n - p ≤ k → fvb n g → frmI f n p c g = some g' → fvb n g' := by
  induction k with
  | zero => intro p c g g' hk hg h; rw [frmI_end (by omega)] at h; cases h; exact hg
  | succ k ih =>
    intro p c g g' hk hg h
    by_cases h0 : n ≤ p
    · rw [frmI_end h0] at h; cases h; exact hg
    · have hge := atI_ge f 38 (p := p) (e := n) (by omega)
      by_cases h1 : atI f 38 p n = p
      · rw [frmI_skip (by omega) h1] at h
        exact ih _ _ _ _ (by omega) hg h
      · by_cases h2 : 20 ≤ c
        · rw [frmI_many (by omega) h1 h2] at h; cases h
        · cases h3 : pieI f p (atI f 38 p n) g with
          | none => rw [frmI_bad (by omega) h1 h3] at h; cases h
          | some g1 =>
            rw [frmI_go (by omega) h1 h2 h3] at h
            refine ih _ _ _ _ (by omega) ?_ h
            have hz := atI_ge f 61 (p := p) (e := atI f 38 p n) hge.1
            rw [pieI] at h3
            cases d1 : decI f p (atI f 61 p (atI f 38 p n)) with
            | none => rw [d1] at h3; cases h3
            | some nm =>
              cases d2 : decI f (atI f 61 p (atI f 38 p n) + 1) (atI f 38 p n) with
              | none => rw [d1, d2] at h3; cases h3
              | some v =>
                rw [d1, d2] at h3
                have hl := decI_len _ _ _ _ (Nat.le_refl _) d2
                have hb := decI_byt hf _ _ _ _ (Nat.le_refl _) d2
                dsimp only at h3
                by_cases k1 : knw nm = 13
                · rw [if_pos k1] at h3; cases h3; exact hg
                · rw [if_neg k1] at h3
                  by_cases k2 : (g (knw nm)).isSome = true
                  · rw [if_pos k2] at h3; cases h3
                  · rw [if_neg k2] at h3
                    cases h3
                    intro j
                    by_cases e : j = knw nm
                    · rw [fv, updO, if_pos e]
                      exact ⟨(show v.length ≤ n by omega), hb⟩
                    · rw [fv, updO, if_neg e]
                      exact hg j
theorem fm_fvb {v : List Int32} {g : fvs} (hb : bts v) (h : fmS v = some g) : fvb v.length g := frm_fvb (gD_b8 hb) v.length 0 0 vf0 g (by omega) (fun k => ⟨Nat.zero_le _, bts_nil⟩) h
/-- HANDLES -/
theorem wfx_take {W U W1 : List (List Int32)} {n : Nat} {d : List Int32} (h : wfx W U n) (ht : tk1 U W = some (d, W1)) : wfx W1 (U ++ [d]) (n + 1) := by
  obtain ⟨h1, h2, h3, h4, h5⟩ := h
  obtain ⟨m1, m2, m3, m4⟩ := tk1_mem ht
  refine ⟨by omega, fun e he => h2 e (m2 e he), fun e he => ?_, noDup_app h4 m4, by rw [List.length_append, h5]; rfl⟩
  rcases List.mem_append.mp he with he | he
  · exact h3 e he
  · rcases List.mem_singleton.mp he with rfl
    exact h2 _ m1
theorem wfm_c {M K K' E E' G G' : List (List Int32)} {n : Nat} (h : wfm M K E G n) (hK : K'.length = K.length) (hK0 : ∀ j, ro K' j 0 = ro K j 0) (hE : E'.length = E.length) (hE0 : ∀ j, ro E' j 0 = ro E j 0) (hG : G'.length = G.length) (hG0 : ∀ j, ro G' j 0 = ro G j 0) : wfm M K' E' G' n := by
  have rK : ∀ j, rn K' j 0 = rn K j 0 := fun j => by rw [rn, hK0, rn]
  have rE : ∀ j, rn E' j 0 = rn E j 0 := fun j => by rw [rn, hE0, rn]
  have rG : ∀ j, rn G' j 0 = rn G j 0 := fun j => by rw [rn, hG0, rn]
  obtain ⟨h1, h2, h3, h4, h5⟩ := h
  refine ⟨h1, fun i hi => ?_, fun j hj => by rw [rK]; exact h3 j (by omega), fun j hj => by rw [rE]; exact h4 j (by omega), fun j hj => by rw [rG]; exact h5 j (by omega)⟩
  rcases h2 i hi with ⟨a, j, b, c, d⟩ | ⟨a, j, b, c, d⟩ | ⟨a, j, b, c, d⟩
  · exact Or.inl ⟨a, j, by omega, c, by rw [hK0]; exact d⟩
  · exact Or.inr (Or.inl ⟨a, j, by omega, c, by rw [hE0]; exact d⟩)
  · exact Or.inr (Or.inr ⟨a, j, by omega, c, by rw [hG0]; exact d⟩)
theorem wfm_K {M K E G : List (List Int32)} {n : Nat} (h : wfm M K E G n) (hn : n < 2 ^ 31) (lK : lwr K 0 n) (lE : lwr E 0 n) (lG : lwr G 0 n) {r : List Int32} (hr : r.getD 0 0 = nI n) : wfm (M ++ [[0, nI K.length]]) (K ++ [r]) E G (n + 1) := by
  obtain ⟨h1, h2, h3, h4, h5⟩ := h
  refine ⟨by rw [List.length_append, h1]; rfl, fun i hi => ?_, fun j hj => ?_, fun j hj => ?_, fun j hj => ?_⟩
  · rw [List.length_append, List.length_singleton] at hi
    by_cases e : i = M.length
    · rw [ro_at e, ro_at e]
      refine Or.inl ⟨rfl, K.length, by rw [List.length_append]; exact Nat.lt_succ_self _, rfl, by rw [ro_at rfl, e, h1]; exact hr⟩
    · rw [ro_lt (by omega), ro_lt (by omega)]
      rcases h2 i (by omega) with ⟨a, j, b, c, d⟩ | ⟨a, j, b, c, d⟩ | ⟨a, j, b, c, d⟩
      · exact Or.inl ⟨a, j, by rw [List.length_append]; exact Nat.lt_succ_of_lt b, c, by rw [ro_lt b]; exact d⟩
      · exact Or.inr (Or.inl ⟨a, j, b, c, d⟩)
      · exact Or.inr (Or.inr ⟨a, j, b, c, d⟩)
  · rw [List.length_append, List.length_singleton] at hj
    by_cases e : j = K.length
    · rw [rn, ro_at e, hr, nI_clamp hn, ro_at h1.symm, ro_at h1.symm, e]
      exact ⟨rfl, rfl⟩
    · rw [rn_lt (by omega)]
      have hx := lK.rn (n := j) (by omega) (by omega)
      rw [ro_lt (by omega), ro_lt (by omega)]
      exact h3 j (by omega)
  · have hx := lE.rn hj (by omega)
    rw [ro_lt (by omega), ro_lt (by omega)]
    exact h4 j hj
  · have hx := lG.rn hj (by omega)
    rw [ro_lt (by omega), ro_lt (by omega)]
    exact h5 j hj
theorem wfm_E {M K E G : List (List Int32)} {n : Nat} (h : wfm M K E G n) (hn : n < 2 ^ 31) (lK : lwr K 0 n) (lE : lwr E 0 n) (lG : lwr G 0 n) {r : List Int32} (hr : r.getD 0 0 = nI n) : wfm (M ++ [[1, nI E.length]]) K (E ++ [r]) G (n + 1) := by
  obtain ⟨h1, h2, h3, h4, h5⟩ := h
  refine ⟨by rw [List.length_append, h1]; rfl, fun i hi => ?_, fun j hj => ?_, fun j hj => ?_, fun j hj => ?_⟩
  · rw [List.length_append, List.length_singleton] at hi
    by_cases e : i = M.length
    · rw [ro_at e, ro_at e]
      refine Or.inr (Or.inl ⟨rfl, E.length, by rw [List.length_append]; exact Nat.lt_succ_self _, rfl, by rw [ro_at rfl, e, h1]; exact hr⟩)
    · rw [ro_lt (by omega), ro_lt (by omega)]
      rcases h2 i (by omega) with ⟨a, j, b, c, d⟩ | ⟨a, j, b, c, d⟩ | ⟨a, j, b, c, d⟩
      · exact Or.inl ⟨a, j, b, c, d⟩
      · exact Or.inr (Or.inl ⟨a, j, by rw [List.length_append]; exact Nat.lt_succ_of_lt b, c, by rw [ro_lt b]; exact d⟩)
      · exact Or.inr (Or.inr ⟨a, j, b, c, d⟩)
  · have hx := lK.rn hj (by omega)
    rw [ro_lt (by omega), ro_lt (by omega)]
    exact h3 j hj
  · rw [List.length_append, List.length_singleton] at hj
    by_cases e : j = E.length
    · rw [rn, ro_at e, hr, nI_clamp hn, ro_at h1.symm, ro_at h1.symm, e]
      exact ⟨rfl, rfl⟩
    · rw [rn_lt (by omega)]
      have hx := lE.rn (n := j) (by omega) (by omega)
      rw [ro_lt (by omega), ro_lt (by omega)]
      exact h4 j (by omega)
  · have hx := lG.rn hj (by omega)
    rw [ro_lt (by omega), ro_lt (by omega)]
    exact h5 j hj
theorem wfm_G {M K E G : List (List Int32)} {n : Nat} (h : wfm M K E G n) (hn : n < 2 ^ 31) (lK : lwr K 0 n) (lE : lwr E 0 n) (lG : lwr G 0 n) {r : List Int32} (hr : r.getD 0 0 = nI n) : wfm (M ++ [[2, nI G.length]]) K E (G ++ [r]) (n + 1) := by
  obtain ⟨h1, h2, h3, h4, h5⟩ := h
  refine ⟨by rw [List.length_append, h1]; rfl, fun i hi => ?_, fun j hj => ?_, fun j hj => ?_, fun j hj => ?_⟩
  · rw [List.length_append, List.length_singleton] at hi
    by_cases e : i = M.length
    · rw [ro_at e, ro_at e]
      refine Or.inr (Or.inr ⟨rfl, G.length, by rw [List.length_append]; exact Nat.lt_succ_self _, rfl, by rw [ro_at rfl, e, h1]; exact hr⟩)
    · rw [ro_lt (by omega), ro_lt (by omega)]
      rcases h2 i (by omega) with ⟨a, j, b, c, d⟩ | ⟨a, j, b, c, d⟩ | ⟨a, j, b, c, d⟩
      · exact Or.inl ⟨a, j, b, c, d⟩
      · exact Or.inr (Or.inl ⟨a, j, b, c, d⟩)
      · exact Or.inr (Or.inr ⟨a, j, by rw [List.length_append]; exact Nat.lt_succ_of_lt b, c, by rw [ro_lt b]; exact d⟩)
  · have hx := lK.rn hj (by omega)
    rw [ro_lt (by omega), ro_lt (by omega)]
    exact h3 j hj
  · have hx := lE.rn hj (by omega)
    rw [ro_lt (by omega), ro_lt (by omega)]
    exact h4 j hj
  · rw [List.length_append, List.length_singleton] at hj
    by_cases e : j = G.length
    · rw [rn, ro_at e, hr, nI_clamp hn, ro_at h1.symm, ro_at h1.symm, e]
      exact ⟨rfl, rfl⟩
    · rw [rn_lt (by omega)]
      have hx := lG.rn (n := j) (by omega) (by omega)
      rw [ro_lt (by omega), ro_lt (by omega)]
      exact h5 j (by omega)
