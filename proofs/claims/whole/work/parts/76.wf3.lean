/-! what always holds is kept by every call: consent, token, revoke -/
section WOP3
variable {N : Nat → Int32} {B : Nat → List Int32} {T R : Nat → List (List Int32)}
theorem Wg_ext {T' : Nat → List (List Int32)} (h : wg N T R) (e2 : T' 2 = T 2) (e3 : T' 3 = T 3) (e4 : T' 4 = T 4) (e5 : T' 5 = T 5) (e20 : T' 20 = T 20) (e21 : T' 21 = T 21) (e22 : T' 22 = T 22) (e23 : T' 23 = T 23) (e25 : T' 25 = T 25) (e26 : T' 26 = T 26) (e27 : T' 27 = T 27) (e28 : T' 28 = T 28) (e29 : T' 29 = T 29) (e30 : T' 30 = T 30) : wg N T' R := by
  unfold wg Wg wfl wfs at h ⊢
  dsimp only at h ⊢
  rw [e2, e3, e4, e5, e20, e21, e22, e23, e25, e26, e27, e28, e29, e30]
  exact h
theorem Wg_o {o : rx} (h : wg o.2.2.1 o.2.2.2.2.1 o.2.2.2.2.2) : Wg o := h
theorem wg_close (h : wg N T R) (k : Nat) : wg N (setT T 23 (stc (T 23) k 3 0)) R := by
  obtain ⟨g1, g2, g3, g4, g5, ⟨q1, q2, q3, q4, q5, q6, q7⟩, ⟨k1, k2, k3, k4⟩, g8, g9, g10, g11, g12⟩ := h
  refine ⟨g1, g2, g3, g4, g5, ⟨?_, ?_, ?_, zro_stc (b := false) q4, q5, q6, fun n hn => ?_⟩, ⟨k1, k2, ?_, k4⟩, g8, g9, g10, ⟨g11.1, g11.2.1, g11.2.2.1, g11.2.2.2.1, rl_stc g11.2.2.2.2.1, g11.2.2.2.2.2⟩, ⟨scs_ne g12.1 (by decide), g12.2⟩⟩
  · show (stc (T 23) k 3 0).length ≤ 200
    rw [stc_len]; exact q1
  · show (T 25).length = (stc (T 23) k 3 0).length
    rw [stc_len]; exact q2
  · show (T 26).length = (stc (T 23) k 3 0).length
    rw [stc_len]; exact q3
  · replace hn : n < (stc (T 23) k 3 0).length := hn
    rw [stc_len] at hn
    show ∃ c r, ro (stc (T 23) k 3 0) n 0 = nI c ∧ ro (stc (T 23) k 3 0) n 1 = nI r ∧ c < (T 3).length ∧ r < (R c).length
    rw [ro_ne (Or.inl (by decide)), ro_ne (Or.inl (by decide))]
    exact q7 n hn
  · show lwr (T 27) 1 (stc (T 23) k 3 0).length
    rw [stc_len]; exact k3
theorem wg_back (h : wg N T R) (f : Nat) : wg N (setT T 28 (stc (T 28) f 4 1)) R := by
  obtain ⟨g1, g2, g3, g4, g5, g6, g7, g8, g9, g10, g11, g12⟩ := h
  refine ⟨g1, g2, g3, g4, g5, g6, ?_, ⟨lwr_ne g8.1 (by decide), zro_stc (b := true) g8.2⟩, ?_, g10, ⟨g11.1, rl_stc g11.2.1, g11.2.2⟩, ⟨g12.1, g12.2.1, scs_ne g12.2.2 (by decide)⟩⟩
  · show wfk (T 27) (T 23) (stc (T 28) f 4 1) (T 21)
    rw [wfk, stc_len]; exact g7
  · show wft (T 29) (T 30) (T 21) (stc (T 28) f 4 1)
    rw [wft, stc_len]; exact g9
theorem cnt_app {K : List (List Int32)} {r : List Int32} : cntT (fun n => decide (ro (K ++ [r]) n 5 = -1)) (K ++ [r]).length ≤ cntT (fun n => decide (ro K n 5 = -1)) K.length + 1 := by
  rw [List.length_append, List.length_singleton, cntT_s, cntT_c (q := fun n => decide (ro K n 5 = -1)) (fun n hn => by rw [ro_lt hn])]
  split <;> omega
theorem cnt_dec {p q : Nat → Bool} {k : Nat} : ∀ n, k < n → p k = true → q k = false → (∀ j, j ≠ k → q j = p j) → cntT q n + 1 = cntT p n
  | 0, h, _, _, _ => absurd h (Nat.not_lt_zero k)
  | n + 1, h, h1, h2, h3 => by
    by_cases e : k = n
    · subst e
      rw [cntT_y h1, cntT_n h2, cntT_c (fun j hj => h3 j (by omega))]
    · have ih := cnt_dec n (by omega) h1 h2 h3
      rw [cntT_s, cntT_s, h3 n (fun z => e z.symm)]
      omega
theorem len_app1 (C : List (List Int32)) (r : List Int32) : (C ++ [r]).length = C.length + 1 := by rw [List.length_append]; rfl
theorem wg_code (h : wg N T R) {d : List Int32} {W1 : List (List Int32)} (ht : tk1 (T 21) (T 20) = some (d, W1)) {k i : Nat} (hk : k < (T 23).length) (h2 : (T 27).length < 200) {o x en : Int32} (hi : i < 256) (hx : x = nI i) : wg N (setT (setT (setT (setT T 20 W1) 21 (T 21 ++ [d])) 22 (T 22 ++ [[0, nI (T 27).length]])) 27 (T 27 ++ [[nI (T 21).length, nI k, o, x, en, -1]])) R := by
  obtain ⟨g1, g2, g3, g4, g5, g6, ⟨k1, k2, k3, k4, k5⟩, g8, ⟨t1, t2, t3, t4, t5, t6, t7, t8⟩, g10, g11, g12⟩ := h
  have hu : (T 21).length = (T 27).length + (T 29).length + (T 30).length := g5.2.2.2.2
  have t1 : (T 29).length ≤ 300 := t1
  have t5 : (T 30).length ≤ 300 := t5
  have hx5 := wfx_take g5 ht
  have hl := len_app1 (T 21) d
  refine ⟨g1, g2, g3, g4, ?_, g6, ⟨?_, ?_, lwr_app k3 rfl hk, fun n hn => ?_, ?_⟩, g8, ⟨t1, ?_, t3, t4, t5, ?_, t7, t8⟩, ?_, ⟨rl_app g11.1 rfl, g11.2⟩, ⟨g12.1, scs_app g12.2.1 hi hx, g12.2.2⟩⟩
  · show wfx W1 (T 21 ++ [d]) ((T 27 ++ [_]).length + (T 29).length + (T 30).length)
    rw [len_app1, show (T 27).length + 1 + (T 29).length + (T 30).length = (T 27).length + (T 29).length + (T 30).length + 1 by omega]
    exact hx5
  · show (T 27 ++ [_]).length ≤ 200
    rw [len_app1]; omega
  · show lwr (T 27 ++ [_]) 0 (T 21 ++ [d]).length
    exact lwr_app (lwr_up k2 (by show (T 21).length ≤ (T 21 ++ [d]).length; omega)) rfl (by omega)
  · replace hn : n < (T 27 ++ [[nI (T 21).length, nI k, o, x, en, -1]]).length := hn
    rw [len_app1] at hn
    show ro (T 27 ++ [[nI (T 21).length, nI k, o, x, en, -1]]) n 5 = -1 ∨ ∃ f, f < (T 28).length ∧ ro (T 27 ++ [[nI (T 21).length, nI k, o, x, en, -1]]) n 5 = nI f
    by_cases e : n = (T 27).length
    · rw [ro_at e]; exact Or.inl rfl
    · rw [ro_lt (by omega)]; exact k4 n (show n < (T 27).length by omega)
  · show (T 28).length + cntT (fun n => decide (ro (T 27 ++ [[nI (T 21).length, nI k, o, x, en, -1]]) n 5 = -1)) (T 27 ++ [[nI (T 21).length, nI k, o, x, en, -1]]).length ≤ (T 27 ++ [[nI (T 21).length, nI k, o, x, en, -1]]).length
    have hc := cnt_app (K := T 27) (r := [nI (T 21).length, nI k, o, x, en, -1])
    have k5 : (T 28).length + cntT (fun n => decide (ro (T 27) n 5 = -1)) (T 27).length ≤ (T 27).length := k5
    have hl2 := len_app1 (T 27) [nI (T 21).length, nI k, o, x, en, -1]
    omega
  · exact lwr_up t2 (by show (T 21).length ≤ (T 21 ++ [d]).length; omega)
  · exact lwr_up t6 (by show (T 21).length ≤ (T 21 ++ [d]).length; omega)
  · show wfm (T 22 ++ [[0, nI (T 27).length]]) (T 27 ++ [_]) (T 29) (T 30) (T 21 ++ [d]).length
    rw [hl]
    exact wfm_K g10 (by show (T 21).length < 2 ^ 31; omega) k2 t2 t6 rfl
theorem wg_acc (h : wg N T R) {d : List Int32} {W1 : List (List Int32)} (ht : tk1 (T 21) (T 20) = some (d, W1)) {f : Nat} (hf : f < (T 28).length) (h3 : (T 29).length < 300) {x en : Int32} : wg N (setT (setT (setT (setT T 20 W1) 21 (T 21 ++ [d])) 22 (T 22 ++ [[1, nI (T 29).length]])) 29 (T 29 ++ [[nI (T 21).length, nI f, x, en, 0]])) R := by
  obtain ⟨g1, g2, g3, g4, g5, g6, ⟨k1, k2, k3, k4, k5⟩, g8, ⟨t1, t2, t3, t4, t5, t6, t7, t8⟩, g10, g11, g12⟩ := h
  have hu : (T 21).length = (T 27).length + (T 29).length + (T 30).length := g5.2.2.2.2
  have k1 : (T 27).length ≤ 200 := k1
  have t5 : (T 30).length ≤ 300 := t5
  have hx5 := wfx_take g5 ht
  have hl := len_app1 (T 21) d
  refine ⟨g1, g2, g3, g4, ?_, g6, ⟨k1, ?_, k3, k4, k5⟩, g8, ⟨?_, ?_, lwr_app t3 rfl hf, zro_app t4 false rfl, t5, ?_, t7, t8⟩, ?_, ⟨g11.1, g11.2.1, rl_app g11.2.2.1 rfl, g11.2.2.2⟩, g12⟩
  · show wfx W1 (T 21 ++ [d]) ((T 27).length + (T 29 ++ [_]).length + (T 30).length)
    rw [len_app1, show (T 27).length + ((T 29).length + 1) + (T 30).length = (T 27).length + (T 29).length + (T 30).length + 1 by omega]
    exact hx5
  · exact lwr_up k2 (by show (T 21).length ≤ (T 21 ++ [d]).length; omega)
  · show (T 29 ++ [_]).length ≤ 300
    rw [len_app1]; omega
  · show lwr (T 29 ++ [_]) 0 (T 21 ++ [d]).length
    exact lwr_app (lwr_up t2 (by show (T 21).length ≤ (T 21 ++ [d]).length; omega)) rfl (by omega)
  · exact lwr_up t6 (by show (T 21).length ≤ (T 21 ++ [d]).length; omega)
  · show wfm (T 22 ++ [[1, nI (T 29).length]]) (T 27) (T 29 ++ [_]) (T 30) (T 21 ++ [d]).length
    rw [hl]
    exact wfm_E g10 (by show (T 21).length < 2 ^ 31; omega) k2 t2 t6 rfl
theorem wg_ref (h : wg N T R) {d : List Int32} {W1 : List (List Int32)} (ht : tk1 (T 21) (T 20) = some (d, W1)) {f : Nat} (hf : f < (T 28).length) (h3 : (T 30).length < 300) {en : Int32} : wg N (setT (setT (setT (setT T 20 W1) 21 (T 21 ++ [d])) 22 (T 22 ++ [[2, nI (T 30).length]])) 30 (T 30 ++ [[nI (T 21).length, nI f, en, 0]])) R := by
  obtain ⟨g1, g2, g3, g4, g5, g6, ⟨k1, k2, k3, k4, k5⟩, g8, ⟨t1, t2, t3, t4, t5, t6, t7, t8⟩, g10, g11, g12⟩ := h
  have hu : (T 21).length = (T 27).length + (T 29).length + (T 30).length := g5.2.2.2.2
  have k1 : (T 27).length ≤ 200 := k1
  have t1 : (T 29).length ≤ 300 := t1
  have hx5 := wfx_take g5 ht
  have hl := len_app1 (T 21) d
  refine ⟨g1, g2, g3, g4, ?_, g6, ⟨k1, ?_, k3, k4, k5⟩, g8, ⟨t1, ?_, t3, t4, ?_, ?_, lwr_app t7 rfl hf, zro_app t8 false rfl⟩, ?_, ⟨g11.1, g11.2.1, g11.2.2.1, rl_app g11.2.2.2.1 rfl, g11.2.2.2.2⟩, g12⟩
  · show wfx W1 (T 21 ++ [d]) ((T 27).length + (T 29).length + (T 30 ++ [_]).length)
    rw [len_app1, show (T 27).length + (T 29).length + ((T 30).length + 1) = (T 27).length + (T 29).length + (T 30).length + 1 by omega]
    exact hx5
  · exact lwr_up k2 (by show (T 21).length ≤ (T 21 ++ [d]).length; omega)
  · exact lwr_up t2 (by show (T 21).length ≤ (T 21 ++ [d]).length; omega)
  · show (T 30 ++ [_]).length ≤ 300
    rw [len_app1]; omega
  · show lwr (T 30 ++ [_]) 0 (T 21 ++ [d]).length
    exact lwr_app (lwr_up t6 (by show (T 21).length ≤ (T 21 ++ [d]).length; omega)) rfl (by omega)
  · show wfm (T 22 ++ [[2, nI (T 30).length]]) (T 27) (T 29) (T 30 ++ [_]) (T 21 ++ [d]).length
    rw [hl]
    exact wfm_G g10 (by show (T 21).length < 2 ^ 31; omega) k2 t2 t6 rfl
theorem wg_com (h : wg N T R) {f : Nat} (hf : f < (T 28).length) {x : Int32} {ds W1 : List (List Int32)} {both : Bool} (hg : gv (T 21) (T 20) (T 29).length (T 30).length both = some (ds, W1)) (hn : wfn N) : Wg (opCom N B T R f x ds W1 both) := by
  have t1 : (T 29).length ≤ 300 := h.2.2.2.2.2.2.2.2.1.1
  have t5 : (T 30).length ≤ 300 := h.2.2.2.2.2.2.2.2.1.2.2.2.2.1
  cases both with
  | false =>
    obtain ⟨h1, d, h2, rfl⟩ := gv_F hg
    refine Wg_T (o := (0, 0, N, fun _ => [], _, R)) (Wg_ext (wg_acc h h2 hf (by omega) (x := x) (en := N 25 + N 27)) rfl rfl rfl rfl rfl rfl rfl rfl rfl rfl rfl rfl rfl (T' := (opCom N B T R f x [d] W1 false).2.2.2.2.1) ?_) hn rfl
    show T 30 ++ [] = T 30
    exact List.append_nil _
  | true =>
    obtain ⟨h1, h2, d, W2, e, h3, h4, rfl⟩ := gv_T hg
    have ha := wg_acc h h3 hf (by omega) (x := x) (en := N 25 + N 27)
    have hb := wg_ref ha h4 (show f < (T 28).length from hf) (show (T 30).length < 300 by omega) (en := N 25 + N 28)
    refine Wg_T (o := (0, 0, N, fun _ => [], _, R)) (Wg_ext hb rfl rfl rfl rfl rfl ?_ ?_ rfl rfl rfl rfl rfl rfl ?_ (T' := (opCom N B T R f x [d, e] W1 true).2.2.2.2.1)) hn rfl
    · show T 21 ++ [d, e] = (T 21 ++ [d]) ++ [e]
      rw [List.append_assoc]; rfl
    · show T 22 ++ [[1, nI (T 29).length], [2, nI (T 30).length]] = (T 22 ++ [[1, nI (T 29).length]]) ++ [[2, nI (T 30).length]]
      rw [List.append_assoc]; rfl
    · show T 30 ++ [[nI ((T 21).length + 1), nI f, N 25 + N 28, 0]] = T 30 ++ [[nI (T 21 ++ [d]).length, nI f, N 25 + N 28, 0]]
      rw [len_app1]
theorem wg_red (h : wg N T R) {k c : Nat} (hk : k < (T 27).length) (h5 : ro (T 27) k 5 < 0) (hc : c < (T 3).length) : wg N (setT (setT T 27 (stc (T 27) k 5 (nI (T 28).length))) 28 (T 28 ++ [[nI c, ro (T 27) k 2, ro (T 27) k 3, 0, 0]])) R := by
  obtain ⟨g1, g2, g3, g4, g5, g6, ⟨k1, k2, k3, k4, k5⟩, g8, ⟨t1, t2, t3, t4, t5, t6, t7, t8⟩, g10, g11, g12⟩ := h
  have k1 : (T 27).length ≤ 200 := k1
  have k5 : (T 28).length + cntT (fun n => decide (ro (T 27) n 5 = -1)) (T 27).length ≤ (T 27).length := k5
  have hr6 : ((T 27).getD k []).length = 6 := g11.1 k hk
  have h1 : ro (T 27) k 5 = -1 := (k4 k hk).resolve_right fun ⟨f, hf, e⟩ => absurd h5 (by rw [e]; have hf : f < (T 28).length := hf; exact nI_pos (by omega))
  obtain ⟨i, hi, ei⟩ := g12.2.1 k hk
  have hl2 := len_app1 (T 28) [nI c, ro (T 27) k 2, ro (T 27) k 3, 0, 0]
  have hst : ∀ n, ro (stc (T 27) k 5 (nI (T 28).length)) n 5 = if n = k then nI (T 28).length else ro (T 27) n 5 := fun n => by
    rw [ro_stc]
    by_cases e : n = k
    · subst e; rw [if_pos ⟨rfl, hk, rfl, by omega⟩, if_pos rfl]
    · rw [if_neg (fun q => e q.1.symm), if_neg e]
  refine ⟨g1, g2, g3, g4, ?_, g6, ⟨?_, lwr_ne k2 (by decide), lwr_ne k3 (by decide), fun n hn => ?_, ?_⟩, ⟨lwr_app g8.1 rfl hc, zro_app g8.2 false rfl⟩, ⟨t1, t2, lwr_up t3 ?_, t4, t5, t6, lwr_up t7 ?_, t8⟩, wfm_c g10 (stc_len ..) (fun j => ro_ne (Or.inl (by decide))) rfl (fun _ => rfl) rfl (fun _ => rfl), ⟨rl_stc g11.1, rl_app g11.2.1 rfl, g11.2.2⟩, ⟨g12.1, scs_ne g12.2.1 (by decide), scs_app g12.2.2 hi ei⟩⟩
  · show wfx (T 20) (T 21) ((stc (T 27) k 5 (nI (T 28).length)).length + (T 29).length + (T 30).length)
    rw [stc_len]; exact g5
  · show (stc (T 27) k 5 (nI (T 28).length)).length ≤ 200
    rw [stc_len]; exact k1
  · replace hn : n < (stc (T 27) k 5 (nI (T 28).length)).length := hn
    rw [stc_len] at hn
    show ro (stc (T 27) k 5 (nI (T 28).length)) n 5 = -1 ∨ ∃ f, f < (T 28 ++ [[nI c, ro (T 27) k 2, ro (T 27) k 3, 0, 0]]).length ∧ ro (stc (T 27) k 5 (nI (T 28).length)) n 5 = nI f
    rw [hst]
    by_cases e : n = k
    · rw [if_pos e]; exact Or.inr ⟨(T 28).length, by omega, rfl⟩
    · rw [if_neg e]
      rcases k4 n hn with q | ⟨f, q1, q2⟩
      · exact Or.inl q
      · have q1 : f < (T 28).length := q1
        exact Or.inr ⟨f, by omega, q2⟩
  · show (T 28 ++ [_]).length + cntT (fun n => decide (ro (stc (T 27) k 5 (nI (T 28).length)) n 5 = -1)) (stc (T 27) k 5 (nI (T 28).length)).length ≤ (stc (T 27) k 5 (nI (T 28).length)).length
    rw [stc_len]
    have hd := cnt_dec (p := fun n => decide (ro (T 27) n 5 = -1)) (q := fun n => decide (ro (stc (T 27) k 5 (nI (T 28).length)) n 5 = -1)) (T 27).length hk (decide_eq_true h1) (by
      rw [hst, if_pos rfl]
      refine decide_eq_false fun z => nI_pos (n := (T 28).length) (by omega) (by rw [z]; decide)) (fun j hj => by rw [hst, if_neg hj])
    omega
  · show (T 28).length ≤ (T 28 ++ [_]).length
    omega
  · show (T 28).length ≤ (T 28 ++ [_]).length
    omega
theorem wg_tur (h : wg N T R) (k f : Nat) (y : Int32) : wg N (setT (setT T 30 (stc (T 30) k 3 1)) 28 (stc (T 28) f 3 y)) R := by
  obtain ⟨g1, g2, g3, g4, g5, g6, g7, g8, ⟨t1, t2, t3, t4, t5, t6, t7, t8⟩, g10, g11, g12⟩ := h
  refine ⟨g1, g2, g3, g4, ?_, g6, ?_, ⟨lwr_ne g8.1 (by decide), zro_ne g8.2 (by decide)⟩, ⟨t1, t2, ?_, t4, ?_, lwr_ne t6 (by decide), ?_, zro_stc (b := true) t8⟩, wfm_c g10 rfl (fun _ => rfl) rfl (fun _ => rfl) (stc_len ..) (fun j => ro_ne (Or.inl (by decide))), ⟨g11.1, rl_stc g11.2.1, g11.2.2.1, rl_stc g11.2.2.2.1, g11.2.2.2.2⟩, ⟨g12.1, g12.2.1, scs_ne g12.2.2 (by decide)⟩⟩
  · show wfx (T 20) (T 21) ((T 27).length + (T 29).length + (stc (T 30) k 3 1).length)
    rw [stc_len]; exact g5
  · show wfk (T 27) (T 23) (stc (T 28) f 3 y) (T 21)
    rw [wfk, stc_len]; exact g7
  · show lwr (T 29) 1 (stc (T 28) f 3 y).length
    rw [stc_len]; exact t3
  · show (stc (T 30) k 3 1).length ≤ 300
    rw [stc_len]; exact t5
  · show lwr (stc (T 30) k 3 1) 1 (stc (T 28) f 3 y).length
    rw [stc_len]; exact lwr_ne t7 (by decide)
theorem wg_rvk (h : wg N T R) (k : Nat) : wg N (setT T 29 (stc (T 29) k 4 1)) R := by
  obtain ⟨g1, g2, g3, g4, g5, g6, g7, g8, ⟨t1, t2, t3, t4, t5, t6, t7, t8⟩, g10, g11, g12⟩ := h
  refine ⟨g1, g2, g3, g4, ?_, g6, g7, g8, ⟨?_, lwr_ne t2 (by decide), lwr_ne t3 (by decide), zro_stc (b := true) t4, t5, t6, t7, t8⟩, wfm_c g10 rfl (fun _ => rfl) (stc_len ..) (fun j => ro_ne (Or.inl (by decide))) rfl (fun _ => rfl), ⟨g11.1, g11.2.1, rl_stc g11.2.2.1, g11.2.2.2⟩, g12⟩
  · show wfx (T 20) (T 21) ((T 27).length + (stc (T 29) k 4 1).length + (T 30).length)
    rw [stc_len]; exact g5
  · show (stc (T 29) k 4 1).length ≤ 300
    rw [stc_len]; exact t1
theorem g_rfs {o : rx} (h : wg N T R) {s e : Int32} {w : List Int32} : Wg (rfs N B T R s e w) := Wg_T h (wfn_ans h.1 s e) rfl
theorem g_consent (h : wf N B T R) (hs : wfs T) (q o x : Int32) (yes : Bool) : Wg (opConsent N B T R q o x yes) := by
  unfold opConsent
  split
  · exact wg_of h hs
  · rename_i h1
    have h0 : ¬ q < 0 := fun z => h1 (Or.inl z)
    have h2 : q < nI (T 23).length := Int32.not_le.mp fun z => h1 (Or.inr (Or.inl z))
    have hq2 : (T 23).length ≤ 200 := h.2.2.2.2.2.2.1.1
    have hk := oix_lt h0 h2 (by omega)
    split
    · exact wg_of h hs
    · rename_i h3
      split
      · rename_i hy
        unfold opConY
        split
        · exact wg_of h hs
        · rename_i h4
          split
          · exact wg_of h hs
          · rename_i d W1 ht
            have hg := wg_close (wg_of h hs) q.toNatClampNeg
            have hw : wthn x (ro (T 23) q.toNatClampNeg 2) = true := Classical.byContradiction fun z => h3 ⟨hy, Or.inr z⟩
            obtain ⟨j, hj, ej⟩ := hs.1 _ hk
            rw [ej] at hw
            obtain ⟨i, hi, ei⟩ := wthn_256 hj hw
            have hk1 : (T 27).length ≤ 200 := h.2.2.2.2.2.2.2.1.1
            exact Wg_T (wg_code hg ht (k := q.toNatClampNeg) (by show q.toNatClampNeg < (stc (T 23) q.toNatClampNeg 3 0).length; rw [stc_len]; exact hk) (show (T 27).length < 200 by omega) hi ei) (wfn_ans h.2.1 302 0) rfl
      · exact Wg_T (wg_close (wg_of h hs) q.toNatClampNeg) (wfn_ans h.2.1 302 3) rfl
theorem g_token (h : wf N B T R) (hs : wfs T) : Wg (opTok N B T R) := by
  have hg := wg_of h hs
  have hn : ∀ s e, wfn (ans N s e) := wfn_ans h.2.1
  unfold opTok
  split
  · exact Wg_T hg (hn _ _) rfl
  · rename_i g hfm
    unfold opTok1
    split
    · exact Wg_T hg (hn _ _) rfl
    · split
      · exact Wg_T hg (hn _ _) rfl
      · split
        · unfold opRed
          split
          · exact Wg_T hg (hn _ _) rfl
          · split
            · exact Wg_T hg (hn _ _) rfl
            · rename_i hk
              have hk : hfn (T 21) (T 27) (fv g 8) < (T 27).length := Classical.byContradiction hk
              unfold opRed2
              split
              · exact Wg_T hg (hn _ _) rfl
              · rename_i hc
                have hc : ro (T 23) (rn (T 27) (hfn (T 21) (T 27) (fv g 8)) 1) 0 = nI (whoT T g).toNatClampNeg := Classical.byContradiction hc
                split
                · exact Wg_T (wg_back hg _) (hn _ _) rfl
                · rename_i h5
                  have h5 : ro (T 27) (hfn (T 21) (T 27) (fv g 8)) 5 < 0 := Classical.byContradiction h5
                  split
                  · exact Wg_T hg (hn _ _) rfl
                  · split
                    · exact Wg_T hg (hn _ _) rfl
                    · rename_i ds W1 hgv
                      have hq2 : (T 23).length ≤ 200 := h.2.2.2.2.2.2.1.1
                      have hc8 : (T 3).length ≤ 8 := h.2.2.2.1.1
                      have hq := (h.2.2.2.2.2.2.2.1.2.2.1).rn hk (by omega)
                      obtain ⟨c0, r0, e1, -, e3, -⟩ := h.2.2.2.2.2.2.1.2.2.2.2.2.2 _ hq
                      have hcl : (whoT T g).toNatClampNeg < 2 ^ 31 := by
                        have := Int32.toInt_lt (whoT T g)
                        rw [Int32.toNatClampNeg]
                        omega
                      have hce : (whoT T g).toNatClampNeg = c0 := (nI_eq hcl (by omega)).mp (hc.symm.trans e1)
                      have hr := wg_red hg hk h5 (c := (whoT T g).toNatClampNeg) (by rw [hce]; exact e3)
                      refine wg_com hr (f := (T 28).length) ?_ hgv h.2.1
                      show (T 28).length < (T 28 ++ [_]).length
                      rw [len_app1]; omega
        · split
          · unfold opTur
            split
            · exact Wg_T hg (hn _ _) rfl
            · split
              · exact Wg_T hg (hn _ _) rfl
              · rename_i hk
                have hk : hfn (T 21) (T 30) (fv g 11) < (T 30).length := Classical.byContradiction hk
                unfold opTur2
                split
                · exact Wg_T hg (hn _ _) rfl
                · split
                  · exact Wg_T (wg_back hg _) (hn _ _) rfl
                  · split
                    · exact Wg_T hg (hn _ _) rfl
                    · split
                      · exact Wg_T hg (hn _ _) rfl
                      · split
                        · exact Wg_T hg (hn _ _) rfl
                        · rename_i ds W1 hgv
                          have hk1 : (T 27).length ≤ 200 := h.2.2.2.2.2.2.2.1.1
                          have hk5 : (T 28).length + _ ≤ (T 27).length := h.2.2.2.2.2.2.2.1.2.2.2.2
                          have hf := (h.2.2.2.2.2.2.2.2.2.1.2.2.2.2.2.2.1).rn hk (by omega)
                          refine wg_com (wg_tur hg _ _ _) (f := rn (T 30) (hfn (T 21) (T 30) (fv g 11)) 1) ?_ (by
                            show gv (T 21) (T 20) (T 29).length (stc (T 30) _ 3 1).length true = _
                            rw [stc_len]; exact hgv) h.2.1
                          show rn (T 30) (hfn (T 21) (T 30) (fv g 11)) 1 < (stc (T 28) _ 3 _).length
                          rw [stc_len]; exact hf
          · exact Wg_T hg (hn _ _) rfl
theorem g_revoke (h : wf N B T R) (hs : wfs T) : Wg (opRev N B T R) := by
  have hg := wg_of h hs
  have hn : ∀ s e, wfn (ans N s e) := wfn_ans h.2.1
  unfold opRev
  split
  · exact Wg_T hg (hn _ _) rfl
  · rename_i g hfm
    unfold opRev1
    split
    · exact Wg_T hg (hn _ _) rfl
    · split
      · exact Wg_T hg (hn _ _) rfl
      · have h1 : wg N (setT T 28 (revD T g (whoT T g).toNatClampNeg)) R := by
          rw [revD]
          split
          · exact wg_back hg _
          · rw [setT_id]; exact hg
        have h2 : wg N (setT (setT T 28 (revD T g (whoT T g).toNatClampNeg)) 29 (revA T g (whoT T g).toNatClampNeg)) R := by
          rw [revA]
          split
          · exact wg_rvk h1 _
          · exact Wg_ext h1 rfl rfl rfl rfl rfl rfl rfl rfl rfl rfl rfl rfl rfl rfl
        exact Wg_T h2 (hn _ _) rfl
end WOP3
