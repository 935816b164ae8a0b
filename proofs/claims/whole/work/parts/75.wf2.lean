/-! what always holds is kept by every call: the calls -/
section WOP
variable {N : Nat → Int32} {B : Nat → List Int32} {T R : Nat → List (List Int32)}
theorem wg_of (h : wf N B T R) (hs : wfs T) : wg N T R := ⟨h.2.1, h.2.2.1, h.2.2.2.1, h.2.2.2.2.1, h.2.2.2.2.2.1, h.2.2.2.2.2.2.1, h.2.2.2.2.2.2.2.1, h.2.2.2.2.2.2.2.2.1, h.2.2.2.2.2.2.2.2.2.1, h.2.2.2.2.2.2.2.2.2.2.1, h.2.2.2.2.2.2.2.2.2.2.2, hs⟩
theorem Wg_T {o o' : rx} (h : Wg o) (hn : wfn o'.2.2.1) (e : o'.2.2.2.2 = o.2.2.2.2) : Wg o' := by
  unfold Wg at h ⊢
  rw [e]
  exact ⟨hn, h.2⟩
theorem wfn_ans (h : wfn N) (s e : Int32) : wfn (ans N s e) := h
theorem g_feed (h : wf N B T R) (hs : wfs T) (a b c d e : Int32) : Wg (opFeed N B T R a b c d e) := by
  unfold opFeed; split <;> exact wg_of h hs
theorem g_end (h : wf N B T R) (hs : wfs T) (x : Int32) : Wg (opEnd N B T R x) := by
  unfold opEnd; split <;> exact wg_of h hs
theorem g_again (h : wf N B T R) (hs : wfs T) (f x : Int32) : Wg (opAgain N B T R f x) := by
  unfold opAgain; split <;> exact wg_of h hs
theorem g_out (h : wf N B T R) (hs : wfs T) (x : Int32) : Wg (opOut N B T R x) := wg_of h hs
theorem g_cnt (h : wf N B T R) (hs : wfs T) (x : Int32) : Wg (opCnt N B T R x) := wg_of h hs
theorem g_code (h : wf N B T R) (hs : wfs T) (q x : Int32) : Wg (opCode N B T R q x) := by
  unfold opCode
  split
  · exact wg_of h hs
  · split <;> exact wg_of h hs
theorem g_fam (h : wf N B T R) (hs : wfs T) (q x : Int32) : Wg (opFam N B T R q x) := by
  unfold opFam
  split
  · exact wg_of h hs
  · split <;> exact wg_of h hs
theorem g_chk (h : wf N B T R) (hs : wfs T) (x : Int32) : Wg (opChk N B T R x) := by
  unfold opChk
  split
  · exact wg_of h hs
  · unfold opChk2
    split
    · split <;> exact wg_of h hs
    · exact wg_of h hs
theorem life_n {b : Int32} (h : lifeb b = true) : ∃ j, 1 ≤ j ∧ j ≤ 1000000 ∧ b = nI j := by
  simp only [lifeb, Bool.and_eq_true, decide_eq_true_eq] at h
  have h0 : ¬ b < 0 := fun q => absurd (Int32.lt_of_le_of_lt h.1 q) (by decide)
  have e := oix_eq h0
  have h1 := h.1
  have h2 := h.2
  have hl : b.toNatClampNeg < 2 ^ 31 := by
    have := Int32.toInt_lt b
    rw [Int32.toNatClampNeg]
    omega
  rw [e] at h1 h2
  exact ⟨_, (nI_leI (a := 1) (by decide) hl).mp h1, (nI_leI (b := 1000000) hl (by decide)).mp h2, e⟩
theorem g_lives (h : wf N B T R) (hs : wfs T) (a b c : Int32) : Wg (opLives N B T R a b c) := by
  unfold opLives
  split
  · exact wg_of h hs
  · rename_i hc
    have hc : (lifeb a && lifeb b && lifeb c) = true := by cases hz : (lifeb a && lifeb b && lifeb c); exact absurd hz hc; rfl
    simp only [Bool.and_eq_true] at hc
    exact Wg_T (wg_of h hs) (life_n hc.1.2) rfl
theorem g_tick (h : wf N B T R) (hs : wfs T) (x : Int32) : Wg (opTick N B T R x) := by
  unfold opTick; split <;> exact wg_of h hs
theorem g_dice (h : wf N B T R) (hs : wfs T) (a b c d : Int32) : Wg (opDice N B T R a b c d) := by
  unfold opDice
  split
  · exact wg_of h hs
  · rename_i hc
    obtain ⟨g1, g2, g3, g4, g5, g6⟩ := wg_of h hs
    obtain ⟨x1, x2, x3, x4, x5⟩ := g5
    refine ⟨g1, g2, g3, g4, ⟨?_, fun e he => ?_, x3, x4, x5⟩, g6⟩
    · show (T 20 ++ [[a, b, c, d]]).length ≤ 60
      have x1 : (T 20).length ≤ 60 := x1
      rw [List.length_append, List.length_singleton]
      omega
    · rcases List.mem_append.mp he with he | he
      · exact x2 e he
      · rcases List.mem_singleton.mp he with rfl
        rfl
theorem g_scope (h : wf N B T R) (hs : wfs T) : Wg (opScope N B T R) := by
  unfold opScope
  split
  · exact wg_of h hs
  · rename_i hc
    split
    · exact wg_of h hs
    · rename_i h8
      have hc : (gdW (B 0) && decide (fnd (T 2) (B 0) = (T 2).length)) = true := by cases hz : (gdW (B 0) && decide (fnd (T 2) (B 0) = (T 2).length)); exact absurd hz hc; rfl
      simp only [Bool.and_eq_true, decide_eq_true_eq] at hc
      obtain ⟨g1, ⟨w1, w2, w3⟩, g3⟩ := wg_of h hs
      have w1 : (T 2).length ≤ 8 := w1
      have hl := gdW_le hc.1
      refine ⟨g1, ⟨?_, noDup_app w2 (fnd_mem hc.2), ft_app w3 hl.1 hl.2 h.1.2.1⟩, g3⟩
      show (T 2 ++ [B 0]).length ≤ 8
      rw [List.length_append, List.length_singleton]
      omega
theorem shl_256 : ∀ n, n ≤ 8 → ((1 <<< (nI n &&& 31) : Int32)).toInt ≤ 256 := by decide
theorem scp_n {x : Int32} {n : Nat} (hn : n ≤ 8) (h0 : 0 ≤ x) (h1 : x < 1 <<< (nI n &&& 31)) : ∃ j, j < 256 ∧ x = nI j := by
  have h2 := shl_256 n hn
  rw [Int32.lt_iff_toInt_lt] at h1
  have hp : ¬ x < 0 := Int32.not_lt.mpr h0
  refine ⟨x.toNatClampNeg, ?_, oix_eq hp⟩
  rw [Int32.toNatClampNeg]
  omega
theorem g_client (h : wf N B T R) (hs : wfs T) (cf : Bool) (x : Int32) (rf : Bool) : Wg (opClient N B T R cf x rf) := by
  unfold opClient
  split
  · exact wg_of h hs
  · rename_i hc
    split
    · exact wg_of h hs
    · rename_i h8
      have hc : (gdC (B 0) cf && decide (0 ≤ x ∧ x < 1 <<< (nI (T 2).length &&& 31)) && decide (fnd (T 3) ((B 0).take (idL (B 0))) = (T 3).length)) = true := by
        cases hz : (gdC (B 0) cf && decide (0 ≤ x ∧ x < 1 <<< (nI (T 2).length &&& 31)) && decide (fnd (T 3) ((B 0).take (idL (B 0))) = (T 3).length)); exact absurd hz hc; rfl
      simp only [Bool.and_eq_true, decide_eq_true_eq] at hc
      obtain ⟨⟨hgd, hx0, hx1⟩, hfn⟩ := hc
      obtain ⟨g1, g2, g3, g4, g5, g6, g7, g8, g9, g10, g11, g12⟩ := wg_of h hs
      obtain ⟨c1, c2, c3, c4, c5, c6, c7, c8, c9⟩ := g3
      have c1 : (T 3).length ≤ 8 := c1
      have c3 : (T 4).length = (T 3).length := c3
      have c4 : (T 5).length = (T 3).length := c4
      have hidl := idL_le (B 0)
      have hbt : bts (B 0) := h.1.2.1
      have hid : 1 ≤ ((B 0).take (idL (B 0))).length ∧ ((B 0).take (idL (B 0))).length ≤ 20 := by
        cases cf with
        | true => rw [gdC_t] at hgd; simp only [Bool.and_eq_true, decide_eq_true_eq] at hgd; exact hgd.1.1
        | false => have hz := gdC_id hgd; rw [gdC_f] at hgd; simp only [Bool.and_eq_true, decide_eq_true_eq] at hgd; rw [hz, List.take_length]; exact hgd.1
      have hsc : (if cf = true then (B 0).drop (idL (B 0) + 1) else []).length ≤ 20 ∧ bts (if cf = true then (B 0).drop (idL (B 0) + 1) else []) ∧ (cf = true → 1 ≤ (if cf = true then (B 0).drop (idL (B 0) + 1) else []).length) := by
        cases cf with
        | true => rw [gdC_t] at hgd; simp only [Bool.and_eq_true, decide_eq_true_eq] at hgd; exact ⟨hgd.2.1.2, bts_drop _ hbt, fun _ => hgd.2.1.1⟩
        | false => exact ⟨Nat.zero_le _, bts_nil, fun q => by cases q⟩
      obtain ⟨j, hj, ej⟩ := scp_n g2.1 hx0 hx1
      refine ⟨g1, g2, ⟨?_, noDup_app c2 (fnd_mem hfn), ?_, ?_, ft_app c5 hid.1 hid.2 (bts_take _ hbt), ft_app c6 (Nat.zero_le _) hsc.1 hsc.2.1, zro_app c7 cf rfl, zro_app c8 rf rfl, fun k hk => ?_⟩, fun c => ⟨(g4 c).1, fun hcc => (g4 c).2.1 ?_, (g4 c).2.2⟩, g5, ⟨g6.1, g6.2.1, g6.2.2.1, g6.2.2.2.1, g6.2.2.2.2.1, g6.2.2.2.2.2.1, fun n hn => ?_⟩, g7, ⟨lwr_up g8.1 ?_, g8.2⟩, g9, g10, ⟨g11.1, g11.2.1, g11.2.2.1, g11.2.2.2.1, g11.2.2.2.2.1, rl_app g11.2.2.2.2.2 rfl⟩, g12⟩
      · show (T 3 ++ [_]).length ≤ 8
        rw [List.length_append, List.length_singleton]; omega
      · show (T 4 ++ [_]).length = (T 3 ++ [_]).length
        rw [List.length_append, List.length_append, c3]; rfl
      · show (T 5 ++ [_]).length = (T 3 ++ [_]).length
        rw [List.length_append, List.length_append, c4]; rfl
      · replace hk : k < (T 3 ++ [(B 0).take (idL (B 0))]).length := hk
        rw [List.length_append, List.length_singleton] at hk
        show (ro (T 5 ++ [[bI cf, x, bI rf]]) k 0 = 1 → 1 ≤ ((T 4 ++ [if cf = true then (B 0).drop (idL (B 0) + 1) else []]).getD k []).length) ∧ ∃ j, j < 256 ∧ ro (T 5 ++ [[bI cf, x, bI rf]]) k 1 = nI j
        by_cases e : k = (T 3).length
        · rw [ro_at (e.trans c4.symm), ro_at (e.trans c4.symm), gD_at (e.trans c3.symm)]
          refine ⟨fun q => hsc.2.2 ?_, j, hj, ej⟩
          have q : bI cf = 1 := q
          cases cf with
          | true => rfl
          | false => exact absurd q (by decide)
        · rw [ro_lt (by omega), ro_lt (by omega), getD_appl (by omega)]
          exact c9 k (show k < (T 3).length by omega)
      · have hcc : (T 3 ++ [(B 0).take (idL (B 0))]).length ≤ c := hcc
        rw [List.length_append] at hcc
        exact Nat.le_trans (Nat.le_add_right _ _) hcc
      · obtain ⟨c0, r0, e1, e2, e3, e4⟩ := g6.2.2.2.2.2.2 n hn
        exact ⟨c0, r0, e1, e2, by show c0 < (T 3 ++ [_]).length; rw [List.length_append]; exact Nat.lt_of_lt_of_le e3 (Nat.le_add_right _ _), e4⟩
      · show (T 3).length ≤ (T 3 ++ [_]).length
        rw [List.length_append]; exact Nat.le_add_right _ _
theorem g_redirect (h : wf N B T R) (hs : wfs T) (x : Int32) : Wg (opRedirect N B T R x) := by
  unfold opRedirect
  split
  · exact wg_of h hs
  · rename_i hc
    split
    · exact wg_of h hs
    · rename_i hg
      split
      · exact wg_of h hs
      · rename_i h3
        have hg : gdR (B 0) = true := by cases hz : gdR (B 0); exact absurd hz hg; rfl
        have hl := gdR_le hg
        have hx0 : ¬ x < 0 := fun q => hc (Or.inl q)
        have hx1 : x < nI (T 3).length := Int32.not_le.mp fun q => hc (Or.inr q)
        obtain ⟨g1, g2, g3, g4, g5, g6, g7⟩ := wg_of h hs
        have h8 : (T 3).length ≤ 8 := g3.1
        have hk := oix_lt hx0 hx1 (by omega)
        have hr3 := (g4 x.toNatClampNeg).1
        have hr3 : (R x.toNatClampNeg).length ≤ 3 := hr3
        refine ⟨g1, g2, g3, fun c => ?_, g5, ⟨g6.1, g6.2.1, g6.2.2.1, g6.2.2.2.1, g6.2.2.2.2.1, g6.2.2.2.2.2.1, fun n hn => ?_⟩, g7⟩
        · by_cases e : c = x.toNatClampNeg
          · show (setT R x.toNatClampNeg _ c).length ≤ 3 ∧ _ ∧ ft (setT R x.toNatClampNeg _ c) 1 80
            rw [e, setT_s]
            refine ⟨by rw [List.length_append, List.length_singleton]; omega, fun q => absurd (show (T 3).length ≤ x.toNatClampNeg from q) (by omega), ft_app (g4 _).2.2 hl.1 hl.2 h.1.2.1⟩
          · show (setT R x.toNatClampNeg _ c).length ≤ 3 ∧ ((T 3).length ≤ c → setT R x.toNatClampNeg _ c = []) ∧ ft (setT R x.toNatClampNeg _ c) 1 80
            rw [setT_n e]
            exact g4 c
        · obtain ⟨c0, r0, e1, e2, e3, e4⟩ := g6.2.2.2.2.2.2 n hn
          refine ⟨c0, r0, e1, e2, e3, ?_⟩
          have e4 : r0 < (R c0).length := e4
          show r0 < (setT R x.toNatClampNeg _ c0).length
          by_cases e : c0 = x.toNatClampNeg
          · rw [e, setT_s, List.length_append, ← e]; omega
          · rw [setT_n e]; exact e4
theorem ask_n {W : List (List Int32)} {v : List Int32} {a : Int32} {j : Nat} (hj : j < 256) (ha : a = nI j) (h : ¬ askS W v a < 0) : ∃ i, i < 256 ∧ askS W v a = nI i := by
  rw [askS] at h ⊢
  by_cases h0 : 0 < v.length
  · rw [if_pos h0] at h ⊢
    by_cases h1 : oI (scpS W v) < 0 ∨ ¬ wthn (oI (scpS W v)) a = true
    · rw [if_pos h1] at h; exact absurd (by decide) h
    · rw [if_neg h1] at h ⊢
      have hw : wthn (oI (scpS W v)) a = true := Classical.byContradiction fun q => h1 (Or.inr q)
      rw [ha] at hw
      exact wthn_256 hj hw
  · rw [if_neg h0] at h ⊢
    by_cases h1 : a = 0
    · rw [if_pos h1] at h; exact absurd (by decide) h
    · rw [if_neg h1]; exact ⟨j, hj, ha⟩
theorem aut_neg {g : fvs} {c : Nat} (h : ¬ 0 < autE T g c) : autE T g c = 0 := by
  rcases aut_any T g c with e | e | e | e | e
  all_goals first | exact e | (rw [e] at h; exact absurd (by decide) h)
theorem g_auth (h : wf N B T R) (hs : wfs T) : Wg (opAuth N B T R) := by
  unfold opAuth
  split
  · exact wg_of h hs
  · rename_i g hfm
    have hf := fm_fvb h.1.2.1 hfm
    unfold opAuth1
    split
    · exact wg_of h hs
    · rename_i h1
      split
      · exact wg_of h hs
      · rename_i h2
        unfold opAuth2
        split
        · exact wg_of h hs
        · rename_i h3
          obtain ⟨h43, hna, h200⟩ := aut_0 (aut_neg h3)
          have hcp := clS_pos h1
          have hca := clS_at h1
          obtain ⟨g1, g2, g3, g4, g5, g6, g7, g8, g9, g10, g11, g12⟩ := wg_of h hs
          obtain ⟨c1, c2, c3, c4, c5, c6, c7, c8, c9⟩ := g3
          have c1 : (T 3).length ≤ 8 := c1
          obtain ⟨q1, q2, q3, q4, q5, q6, q7⟩ := g6
          have q1 : (T 23).length ≤ 200 := q1
          have q2 : (T 25).length = (T 23).length := q2
          have q3 : (T 26).length = (T 23).length := q3
          have ecl : (clS (T 3) (fv g 1)).toNatClampNeg = fnd (T 3) (fv g 1) := by rw [hca, nI_clamp (by have := hcp.2; omega)]
          obtain ⟨r, hr, er⟩ := rdS_pos h2
          have hr3 : (R (fnd (T 3) (fv g 1))).length ≤ 3 := (g4 _).1
          rw [ecl] at hr er ⊢
          have erd : (rdS (R (fnd (T 3) (fv g 1))) (fv g 2)).toNatClampNeg = r := by rw [er, nI_clamp (by omega)]
          rw [erd]
          rw [ecl] at hna h3
          obtain ⟨j, hj, ej⟩ := (c9 (fnd (T 3) (fv g 1)) hcp.2).2
          obtain ⟨i, hi, ei⟩ := ask_n hj ej hna
          have hl0 : (B 0).length ≤ 2000 := h.1.1
          refine ⟨g1, g2, ⟨c1, c2, c3, c4, c5, c6, c7, c8, c9⟩, g4, g5, ⟨?_, ?_, ?_, zro_app q4 true rfl, ft_app q5 (by omega) (by omega) (hf 5).2, ft_app q6 (Nat.zero_le _) (by have := (hf 4).1; omega) (hf 4).2, fun n hn => ?_⟩, ⟨g7.1, g7.2.1, lwr_up g7.2.2.1 ?_, g7.2.2.2⟩, g8, g9, g10, ⟨g11.1, g11.2.1, g11.2.2.1, g11.2.2.2.1, rl_app g11.2.2.2.2.1 rfl, g11.2.2.2.2.2⟩, ⟨scs_app g12.1 hi ei, g12.2⟩⟩
          · show (T 23 ++ [_]).length ≤ 200
            rw [List.length_append, List.length_singleton]; omega
          · show (T 25 ++ [_]).length = (T 23 ++ [_]).length
            rw [List.length_append, List.length_append, q2]; rfl
          · show (T 26 ++ [_]).length = (T 23 ++ [_]).length
            rw [List.length_append, List.length_append, q3]; rfl
          · replace hn : n < (T 23 ++ [[nI (fnd (T 3) (fv g 1)), nI r, askS (T 2) (fv g 3) (ro (T 5) (fnd (T 3) (fv g 1)) 1), 1]]).length := hn
            rw [List.length_append, List.length_singleton] at hn
            show ∃ c r', ro (T 23 ++ [[nI (fnd (T 3) (fv g 1)), nI r, askS (T 2) (fv g 3) (ro (T 5) (fnd (T 3) (fv g 1)) 1), 1]]) n 0 = nI c ∧ ro (T 23 ++ [[nI (fnd (T 3) (fv g 1)), nI r, askS (T 2) (fv g 3) (ro (T 5) (fnd (T 3) (fv g 1)) 1), 1]]) n 1 = nI r' ∧ c < (T 3).length ∧ r' < (R c).length
            by_cases e : n = (T 23).length
            · rw [ro_at e, ro_at e]
              exact ⟨_, _, rfl, rfl, hcp.2, hr⟩
            · rw [ro_lt (by omega), ro_lt (by omega)]
              exact q7 n (show n < (T 23).length by omega)
          · show (T 23).length ≤ (T 23 ++ [_]).length
            rw [List.length_append]; exact Nat.le_add_right _ _
end WOP
