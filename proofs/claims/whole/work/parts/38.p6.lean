/-! the reference: token, revoke -/
theorem mRf.back {I I' : Nat → Int32} {F F' : Nat → Nat → Int32} {D : List (List Int32)} (h : mRf I F D) (hl : rl D 5) {f : Nat} (hf : f < D.length) (i51 : I' 51 = I 51) (e46 : F' 46 = F 46) (e47 : F' 47 = F 47) (e48 : F' 48 = F 48) (e49 : F' 49 = F 49) (e50 : F' 50 = upd (F 50) f 1) : mRf I' F' (stc D f 4 1) := by
  obtain ⟨h1, h2, h3, h4, h5, h6, h7⟩ := h
  refine ⟨by rw [i51, stc_len]; exact h1, h2.keep (by decide) e46, h3.keep (by decide) e47, h4.keep (by decide) e48, h5.keep (by decide) e49, h6.set (by rw [hl f hf]; decide) e50, fun n hn => ?_⟩
  rw [stc_len] at hn
  rw [e49, e50, pk_un (by omega)]
  exact h7 n hn
theorem mRf.turn {I I' : Nat → Int32} {F F' : Nat → Nat → Int32} {D : List (List Int32)} (h : mRf I F D) (hl : rl D 5) {f : Nat} {x : Int32} (hf : f < D.length) (i51 : I' 51 = I 51) (e46 : F' 46 = F 46) (e47 : F' 47 = F 47) (e48 : F' 48 = F 48) (e49 : F' 49 = upd (F 49) f x) (e50 : F' 50 = F 50) : mRf I' F' (stc D f 3 x) := by
  obtain ⟨h1, h2, h3, h4, h5, h6, h7⟩ := h
  refine ⟨by rw [i51, stc_len]; exact h1, h2.keep (by decide) e46, h3.keep (by decide) e47, h4.keep (by decide) e48, h5.set (by rw [hl f hf]; decide) e49, h6.keep (by decide) e50, fun n hn => ?_⟩
  rw [stc_len] at hn
  rw [e49, e50, pk_un (by omega)]
  exact h7 n hn
theorem mRf.add {I I' : Nat → Int32} {F F' : Nat → Nat → Int32} {D : List (List Int32)} (h : mRf I F D) {a b c : Int32} (i51 : I' 51 = nI (D.length + 1)) (e46 : F' 46 = upd (F 46) D.length a) (e47 : F' 47 = upd (F 47) D.length b) (e48 : F' 48 = upd (F 48) D.length c) (e49 : F' 49 = F 49) (e50 : F' 50 = F 50) : mRf I' F' (D ++ [[a, b, c, 0, 0]]) := by
  obtain ⟨h1, h2, h3, h4, h5, h6, h7⟩ := h
  have hz := h7 D.length (Nat.le_refl _)
  refine ⟨by rw [i51, List.length_append, List.length_singleton], h2.app e46 rfl, h3.app e47 rfl, h4.app e48 rfl, h5.app (x := 0) ?_ rfl, h6.app (x := 0) ?_ rfl, fun n hn => ?_⟩
  · rw [e49]; funext j; by_cases q : j = D.length
    · rw [q, pk_us, hz.1]
    · rw [pk_un q]
  · rw [e50]; funext j; by_cases q : j = D.length
    · rw [q, pk_us, hz.2]
    · rw [pk_un q]
  · rw [List.length_append, List.length_singleton] at hn
    rw [e49, e50]
    exact h7 n (by omega)
theorem mRk.fam {I I' : Nat → Int32} {F F' : Nat → Nat → Int32} {K : List (List Int32)} (h : mRk I F K) (hl : rl K 6) {k : Nat} {x : Int32} (hk : k < K.length) (i45 : I' 45 = I 45) (e39 : F' 39 = F 39) (e40 : F' 40 = F 40) (e41 : F' 41 = F 41) (e42 : F' 42 = F 42) (e43 : F' 43 = F 43) (e44 : F' 44 = upd (F 44) k x) : mRk I' F' (stc K k 5 x) := by
  obtain ⟨h1, h2, h3, h4, h5, h6, h7⟩ := h
  exact ⟨by rw [i45, stc_len]; exact h1, h2.keep (by decide) e39, h3.keep (by decide) e40, h4.keep (by decide) e41, h5.keep (by decide) e42, h6.keep (by decide) e43, h7.set (by rw [hl k hk]; decide) e44⟩
theorem mRt.turned {I I' : Nat → Int32} {F F' : Nat → Nat → Int32} {E G : List (List Int32)} (h : mRt I F E G) (hl : rl G 4) {k : Nat} (hk : k < G.length) (i57 : I' 57 = I 57) (i62 : I' 62 = I 62) (e52 : F' 52 = F 52) (e53 : F' 53 = F 53) (e54 : F' 54 = F 54) (e55 : F' 55 = F 55) (e56 : F' 56 = F 56) (e58 : F' 58 = F 58) (e59 : F' 59 = F 59) (e60 : F' 60 = F 60) (e61 : F' 61 = upd (F 61) k 1) : mRt I' F' E (stc G k 3 1) := by
  obtain ⟨h1, h2, h3, h4, h5, h6, h7, g1, g2, g3, g4, g5, g6⟩ := h
  refine ⟨by rw [i57]; exact h1, fun n hn => by rw [e52]; exact h2 n hn, fun n hn => by rw [e53]; exact h3 n hn, fun n hn => by rw [e54]; exact h4 n hn, fun n hn => by rw [e55]; exact h5 n hn, fun n hn => by rw [e56]; exact h6 n hn, by rw [e56]; exact h7, by rw [i62, stc_len]; exact g1, g2.keep (by decide) e58, g3.keep (by decide) e59, g4.keep (by decide) e60, g5.set (by rw [hl k hk]; decide) e61, fun n hn => ?_⟩
  rw [stc_len] at hn
  rw [e61, pk_un (by omega)]
  exact g6 n hn
theorem mRt.rvk {I I' : Nat → Int32} {F F' : Nat → Nat → Int32} {E G : List (List Int32)} (h : mRt I F E G) (hl : rl E 5) {k : Nat} (hk : k < E.length) (i57 : I' 57 = I 57) (i62 : I' 62 = I 62) (e52 : F' 52 = F 52) (e53 : F' 53 = F 53) (e54 : F' 54 = F 54) (e55 : F' 55 = F 55) (e56 : F' 56 = upd (F 56) k 1) (e58 : F' 58 = F 58) (e59 : F' 59 = F 59) (e60 : F' 60 = F 60) (e61 : F' 61 = F 61) : mRt I' F' (stc E k 4 1) G := by
  obtain ⟨h1, h2, h3, h4, h5, h6, h7, g1, g2, g3, g4, g5, g6⟩ := h
  refine ⟨by rw [i57, stc_len]; exact h1, h2.keep (by decide) e52, h3.keep (by decide) e53, h4.keep (by decide) e54, h5.keep (by decide) e55, h6.set (by rw [hl k hk]; decide) e56, fun n hn => ?_, by rw [i62]; exact g1, fun n hn => by rw [e58]; exact g2 n hn, fun n hn => by rw [e59]; exact g3 n hn, fun n hn => by rw [e60]; exact g4 n hn, fun n hn => by rw [e61]; exact g5 n hn, by rw [e61]; exact g6⟩
  rw [stc_len] at hn
  rw [e56, pk_un (by omega)]
  exact h7 n hn
theorem upd_at {f : Nat → Int32} {n : Nat} {x : Int32} (h : f n = x) : f = upd f n x := by
  funext j
  by_cases q : j = n
  · rw [q, pk_us, h]
  · rw [pk_un q]
theorem mRt.addE {I I' : Nat → Int32} {F F' : Nat → Nat → Int32} {E G : List (List Int32)} (h : mRt I F E G) {a b c d : Int32} (i57 : I' 57 = nI (E.length + 1)) (i62 : I' 62 = I 62) (e52 : F' 52 = upd (F 52) E.length a) (e53 : F' 53 = upd (F 53) E.length b) (e54 : F' 54 = upd (F 54) E.length c) (e55 : F' 55 = upd (F 55) E.length d) (e56 : F' 56 = F 56) (e58 : F' 58 = F 58) (e59 : F' 59 = F 59) (e60 : F' 60 = F 60) (e61 : F' 61 = F 61) : mRt I' F' (E ++ [[a, b, c, d, 0]]) G := by
  obtain ⟨h1, h2, h3, h4, h5, h6, h7, g1, g2, g3, g4, g5, g6⟩ := h
  refine ⟨by rw [i57, List.length_append, List.length_singleton], h2.app e52 rfl, h3.app e53 rfl, h4.app e54 rfl, h5.app e55 rfl, h6.app (x := 0) (by rw [e56]; exact upd_at (h7 _ (Nat.le_refl _))) rfl, fun n hn => ?_, by rw [i62]; exact g1, fun n hn => by rw [e58]; exact g2 n hn, fun n hn => by rw [e59]; exact g3 n hn, fun n hn => by rw [e60]; exact g4 n hn, fun n hn => by rw [e61]; exact g5 n hn, by rw [e61]; exact g6⟩
  rw [List.length_append, List.length_singleton] at hn
  rw [e56]
  exact h7 n (by omega)
theorem mRt.addG {I I' : Nat → Int32} {F F' : Nat → Nat → Int32} {E G : List (List Int32)} (h : mRt I F E G) {a b c : Int32} (i57 : I' 57 = I 57) (i62 : I' 62 = nI (G.length + 1)) (e52 : F' 52 = F 52) (e53 : F' 53 = F 53) (e54 : F' 54 = F 54) (e55 : F' 55 = F 55) (e56 : F' 56 = F 56) (e58 : F' 58 = upd (F 58) G.length a) (e59 : F' 59 = upd (F 59) G.length b) (e60 : F' 60 = upd (F 60) G.length c) (e61 : F' 61 = F 61) : mRt I' F' E (G ++ [[a, b, c, 0]]) := by
  obtain ⟨h1, h2, h3, h4, h5, h6, h7, g1, g2, g3, g4, g5, g6⟩ := h
  refine ⟨by rw [i57]; exact h1, fun n hn => by rw [e52]; exact h2 n hn, fun n hn => by rw [e53]; exact h3 n hn, fun n hn => by rw [e54]; exact h4 n hn, fun n hn => by rw [e55]; exact h5 n hn, fun n hn => by rw [e56]; exact h6 n hn, by rw [e56]; exact h7, by rw [i62, List.length_append, List.length_singleton], g2.app e58 rfl, g3.app e59 rfl, g4.app e60 rfl, g5.app (x := 0) (by rw [e61]; exact upd_at (g6 _ (Nat.le_refl _))) rfl, fun n hn => ?_⟩
  rw [List.length_append, List.length_singleton] at hn
  rw [e61]
  exact g6 n (by omega)
theorem mDi_ds {f : Nat → Int32} {U : List (List Int32)} (ds : List (List Int32)) (h : mDi f U) (hd : ∀ d ∈ ds, d.length = 4) : mDi (updl f (4 * U.length) ds.flatten) (U ++ ds) := by
  induction ds generalizing f U with
  | nil => rw [List.flatten_nil, updl_nil, List.append_nil]; exact h
  | cons d ds ih =>
    have h4 := hd d (List.mem_cons_self ..)
    have h1 := ih (mDi_app h h4) fun e he => hd e (List.mem_cons_of_mem _ he)
    rw [List.length_append, List.length_singleton, show 4 * (U.length + 1) = 4 * U.length + d.length by omega, updl_app, List.append_assoc] at h1
    rw [List.flatten_cons]
    exact h1
theorem noDup_app {U : List (List Int32)} {d : List Int32} (h : noDup U) (hd : ¬ d ∈ U) : noDup (U ++ [d]) := by
  intro i j hi hj e
  rw [List.length_append, List.length_singleton] at hi hj
  by_cases q1 : i = U.length
  · by_cases q2 : j = U.length
    · omega
    · rw [q1, getD_appr, getD_appl (by omega)] at e
      exact absurd (by rw [e]; exact getD_mem (by omega)) hd
  · by_cases q2 : j = U.length
    · rw [q2, getD_appr, getD_appl (by omega)] at e
      exact absurd (by rw [← e]; exact getD_mem (by omega)) hd
    · rw [getD_appl (by omega), getD_appl (by omega)] at e
      exact h i j (by omega) (by omega) e
theorem gv_some {U W ds W1 : List (List Int32)} {na nr : Nat} {b : Bool} (h : gv U W na nr b = some (ds, W1)) : na ≠ 300 ∧ (b = true → nr ≠ 300) ∧ ds.length = (if b = true then 2 else 1) ∧ (∀ d ∈ ds, d ∈ W) ∧ (∀ d ∈ W1, d ∈ W) ∧ W1.length ≤ W.length ∧ (noDup U → noDup (U ++ ds)) := by
  rw [gv] at h
  by_cases hc : na = 300 ∨ (b = true ∧ nr = 300)
  · rw [if_pos hc] at h; cases h
  · rw [if_neg hc] at h
    refine ⟨fun q => hc (Or.inl q), fun q z => hc (Or.inr ⟨q, z⟩), ?_⟩
    cases h1 : tk1 U W with
    | none => rw [h1] at h; cases h
    | some p =>
      obtain ⟨d, V1⟩ := p
      rw [h1] at h
      obtain ⟨m1, m2, m3, m4⟩ := tk1_mem h1
      cases b with
      | false =>
        cases h
        exact ⟨rfl, fun e he => by rw [List.mem_singleton.mp he]; exact m1, m2, m3, fun hn => noDup_app hn m4⟩
      | true =>
        cases h2 : tk1 (U ++ [d]) V1 with
        | none =>
          have h3 : (match tk1 (U ++ [d]) V1 with | none => none | some (e, W2) => some ([d, e], W2)) = some (ds, W1) := h
          rw [h2] at h3; cases h3
        | some p =>
          obtain ⟨e, V2⟩ := p
          have h3 : (match tk1 (U ++ [d]) V1 with | none => none | some (e, W2) => some ([d, e], W2)) = some (ds, W1) := h
          rw [h2] at h3
          cases h3
          obtain ⟨k1, k2, k3, k4⟩ := tk1_mem h2
          refine ⟨rfl, fun z hz => ?_, fun z hz => m2 z (k2 z hz), by omega, fun hn => ?_⟩
          · rcases List.mem_cons.mp hz with q | q
            · rw [q]; exact m1
            · rw [List.mem_singleton.mp q]; exact m2 e k1
          · have := noDup_app (noDup_app hn m4) k4
            rwa [List.append_assoc] at this
section CG
variable {Λ : kL} {m : Nat} {A : Nat → Nat} {I : Nat → Int32} {F : Nat → Nat → Int32} {N : Nat → Int32} {B : Nat → List Int32} {T R : Nat → List (List Int32)}
theorem p_gives (hA : mInj A) (hR : mR I F N B T R) (hW : wf N B T R) (b : Bool) : mCt Λ mX12_gives m A [.ref m, .int (bI b)] I F (fun r I' F' => (gv (T 21) (T 20) (T 29).length (T 30).length b = none ∧ r = some (.int (-1)) ∧ I' = I ∧ F' = F) ∨ ∃ ds W1, gv (T 21) (T 20) (T 29).length (T 30).length b = some (ds, W1) ∧ r = some (.int (nI (T 21).length)) ∧ I' 0 = I 0 ∧ mR I' F' N B (setT (setT T 20 W1) 21 (T 21 ++ ds)) R) := by
  obtain ⟨q_a, q_b, q_n, q_w, q_c, q_r, q_x, q_q, q_k, q_f, q_t⟩ := hR
  obtain ⟨w_a, w_n, w_w, w_c, w_r, w_x, w_q, w_k, w_f, w_t, w_m⟩ := hW
  have hul := w_x.2.2.2.2
  have hk := w_k.1
  refine (m_gives hA q_t.1 q_t.2.2.2.2.2.2.2.1 w_t.1 w_t.2.2.2.2.1 q_x.2.2.1 (by omega) q_x.2.2.2 w_x.1 q_x.2.1 q_x.1 b).mono fun r I' F' h => ?_
  rcases h with h | ⟨ds, W1, g21, h1, h2, h3, h4, h5⟩
  · exact Or.inl h
  · subst h3; subst h4
    obtain ⟨k1, k2, k3, k4, k5, k6, k7⟩ := gv_some h1
    refine Or.inr ⟨ds, W1, h1, h2, rfl, q_a, q_b, q_n, q_w, q_c, q_r, ⟨rfl, h5, ?_, ?_⟩, q_q, q_k, q_f, q_t⟩
    · show nI ((T 21).length + ds.length) = nI (T 21 ++ ds).length
      rw [List.length_append]
    · exact mDi_ds ds q_x.2.2.2 fun d hd => w_x.2.1 d (k4 d hd)
theorem p_comes (hA : mInj A) (hSt : kSt Λ) (hR : mR I F N B T R) (h0 : I 0 = 0) {h f a : Nat} {x : Int32} {d1 d2 : List Int32} (b : Bool) (hE : (T 29).length < 300) (hG : b = true → (T 30).length < 300) (ha : N 27 = nI a) (ha1 : 1 ≤ a) (ha2 : a ≤ 1000000) (hw : wfw (T 2)) (hh : h < 800) (hh2 : b = true → h < 799) (hd1 : tl (F 23) (4 * h) 4 = d1) (hd2 : b = true → tl (F 23) (4 * (h + 1)) 4 = d2) : mCt Λ mX12_comes m A [.ref m, .int (nI f), .int x, .int (nI h), .int (bI b)] I F (mP (200, 0, ans N 200 0, setB B 1 (tkT (b64 d1 22) (b64 d2 22) (T 2) x a b), setT (setT T 29 (T 29 ++ [[nI h, nI f, x, N 25 + N 27, 0]])) 30 (T 30 ++ (if b = true then [[nI (h + 1), nI f, N 25 + N 28, 0]] else [])), R)) := by
  obtain ⟨q_a, q_b, q_n, q_w, q_c, q_r, q_x, q_q, q_k, q_f, q_t⟩ := hR
  have hbw : ∀ k, k < (T 2).length → bts ((T 2).getD k []) := fun k hk => (hw.2.2 k hk).2.2
  have h27 : I 27 = nI a := q_n.2.2.2.2.1.trans ha
  have e25 : I 25 = N 25 := q_n.2.2.1
  have e28 : I 28 = N 28 := q_n.2.2.2.2.2
  cases b with
  | false =>
    refine (m_comes_0 (d2 := d2) hA hSt q_t.1 q_t.2.2.2.2.2.2.2.1 hE h27 ha1 ha2 q_w.1 hw.1 q_w.2 hbw hh hd1).mono fun r I' F' ⟨a1, b1, h1, h2, h3⟩ => ?_
    subst h1; subst h2; subst h3
    refine ⟨rfl, h0, q_a, mRb.fo rfl rfl, ⟨rfl, rfl, q_n.2.2⟩, q_w, q_c, q_r, q_x, q_q, q_k, q_f, ?_⟩
    show mRt _ _ _ (T 30 ++ [])
    rw [List.append_nil]
    exact q_t.addE rfl rfl rfl rfl rfl (by rw [ha, ← e25]; rfl) rfl rfl rfl rfl rfl
  | true =>
    refine (m_comes_1 hA hSt q_t.1 q_t.2.2.2.2.2.2.2.1 hE (hG rfl) h27 ha1 ha2 q_w.1 hw.1 q_w.2 hbw (hh2 rfl) hd1 (hd2 rfl)).mono fun r I' F' ⟨a1, b1, a2, b2, h1, h2, h3⟩ => ?_
    subst h1; subst h2; subst h3
    refine ⟨rfl, h0, q_a, mRb.fo rfl rfl, ⟨rfl, rfl, q_n.2.2⟩, q_w, q_c, q_r, q_x, q_q, q_k, q_f, ?_⟩
    have g1 := q_t.addE (I' := upd I 57 (nI ((T 29).length + 1))) (F' := updF (updF (updF (updF F 52 (T 29).length (nI h)) 53 (T 29).length (nI f)) 54 (T 29).length x) 55 (T 29).length (I 25 + nI a)) (a := nI h) (b := nI f) (c := x) (d := N 25 + N 27) rfl rfl rfl rfl rfl (by rw [ha, ← e25]; rfl) rfl rfl rfl rfl rfl
    exact g1.addG rfl rfl rfl rfl rfl rfl rfl rfl rfl (by rw [← e25, ← e28]; rfl) rfl
end CG
