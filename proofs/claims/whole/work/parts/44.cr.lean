/-! the class keeps the lists so -/
def rv (l : List Nat) : List Value := l.map Value.ref
theorem rv_len (l : List Nat) : (rv l).length = l.length := by rw [rv, List.length_map]
theorem rv_at {l : List Nat} {k : Nat} (h : k < l.length) : (rv l)[k]? = some (.ref (l.getD k 0)) := by
  rw [rv, List.getElem?_map, List.getElem?_eq_getElem h, List.getD_eq_getElem?_getD, List.getElem?_eq_getElem h]
  rfl
theorem rv_app (l : List Nat) (q : Nat) : rv l ++ [.ref q] = rv (l ++ [q]) := by rw [rv, rv, List.map_append]; rfl
theorem gN_appl {l : List Nat} {q n : Nat} (h : n < l.length) : (l ++ [q]).getD n 0 = l.getD n 0 := by rw [List.getD_eq_getElem?_getD, List.getElem?_append_left h, List.getD_eq_getElem?_getD]
theorem gN_appr {l : List Nat} {q : Nat} : (l ++ [q]).getD l.length 0 = q := by rw [List.getD_eq_getElem?_getD, List.getElem?_append_right (Nat.le_refl _), Nat.sub_self]; rfl
def nd (l : List Nat) : Prop := ∀ i j, i < l.length → j < l.length → l.getD i 0 = l.getD j 0 → i = j
theorem nd.app {l : List Nat} (h : nd l) {q : Nat} (hq : ∀ i, i < l.length → l.getD i 0 ≠ q) : nd (l ++ [q]) := by
  intro i j hi hj e
  rw [List.length_append, List.length_singleton] at hi hj
  by_cases a : i = l.length
  · by_cases b : j = l.length
    · omega
    · rw [a, gN_appr, gN_appl (by omega)] at e
      exact absurd e.symm (hq j (by omega))
  · by_cases b : j = l.length
    · rw [b, gN_appr, gN_appl (by omega)] at e
      exact absurd e (hq i (by omega))
    · rw [gN_appl (by omega), gN_appl (by omega)] at e
      exact h i j (by omega) (by omega) e
def kcl (c : kc) : Nat := match c with
  | .inl x => 1000 + x.1
  | .inr o => o.1
def dk (ci : Nat) (D D' : kh) : Prop := ∀ q c, D q = some c → kcl c ≠ ci → D' q = some c
theorem dk.up {D : kh} {a : Nat} {c0 c : kc} (h : D a = some c0) : dk (kcl c0) D (kup D a c) := by
  intro q d hq hd
  by_cases e : q = a
  · subst e
    rw [h] at hq
    cases hq
    exact absurd rfl hd
  · exact kup_i e hq
theorem tx.dk {ci : Nat} {D D' : kh} {t : Nat} {l : List Int32} (h : tx D t l) (hd : dk ci D D') (h1 : 10 ≠ ci) (h2 : 1000 ≠ ci) : tx D' t l := by
  obtain ⟨r, b, cap, f, a1, a2, a3⟩ := h
  exact ⟨r, b, cap, f, hd _ _ a1 h1, hd _ _ a2 h2, a3⟩
def txs (D : kh) (l : List Nat) (T : List (List Int32)) : Prop := l.length = T.length ∧ ∀ k, k < T.length → tx D (l.getD k 0) (T.getD k [])
theorem txs.mono {D D' : kh} {l : List Nat} {T : List (List Int32)} (h : txs D l T) (hd : dm D D') : txs D' l T := ⟨h.1, fun k hk => (h.2 k hk).mono hd⟩
theorem txs.dk {ci : Nat} {D D' : kh} {l : List Nat} {T : List (List Int32)} (h : txs D l T) (hd : dk ci D D') (h1 : 10 ≠ ci) (h2 : 1000 ≠ ci) : txs D' l T := ⟨h.1, fun k hk => (h.2 k hk).dk hd h1 h2⟩
theorem txs.app {D D' : kh} {l : List Nat} {T : List (List Int32)} (h : txs D l T) (hd : dm D D') {q : Nat} {v : List Int32} (hq : tx D' q v) : txs D' (l ++ [q]) (T ++ [v]) := by
  refine ⟨by rw [List.length_append, List.length_append, h.1]; rfl, fun k hk => ?_⟩
  rw [List.length_append, List.length_singleton] at hk
  by_cases e : k = T.length
  · rw [e, getD_appr, ← h.1, gN_appr]
    exact hq
  · rw [getD_appl (by omega), gN_appl (by rw [h.1]; omega)]
    exact (h.2 k (by omega)).mono hd
theorem txs.el {D : kh} {l : List Nat} {T : List (List Int32)} (h : txs D l T) : kEl D 10 (rv l) := by
  intro v hv
  obtain ⟨a, ha, e⟩ := List.mem_map.mp hv
  obtain ⟨k, hk, e2⟩ := List.mem_iff_getElem.mp ha
  obtain ⟨r, b, cap, f, a1, -⟩ := h.2 k (by rw [← h.1]; exact hk)
  rw [List.getD_eq_getElem?_getD, List.getElem?_eq_getElem hk] at a1
  exact ⟨a, _, e.symm, by rw [← e2]; exact a1⟩
theorem el_of {D : kh} {ci : Nat} {l : List Nat} (h : ∀ k, k < l.length → ∃ fs, D (l.getD k 0) = some (.inr (ci, fs))) : kEl D ci (rv l) := by
  intro v hv
  obtain ⟨a, ha, e⟩ := List.mem_map.mp hv
  obtain ⟨k, hk, e2⟩ := List.mem_iff_getElem.mp ha
  obtain ⟨fs, a1⟩ := h k hk
  rw [List.getD_eq_getElem?_getD, List.getElem?_eq_getElem hk] at a1
  exact ⟨a, fs, e.symm, by rw [← e2]; exact a1⟩
abbrev oGs (S : Nat → Nat) (N : Nat → Int32) : kc := .inr (12, [.ref (S 1), .ref (S 2), .ref (S 3), .ref (S 4), .ref (S 5), .ref (S 6), .ref (S 7), .ref (S 8), .ref (S 9), .ref (S 10), .ref (S 11), .ref (S 12), .int (N 26), .int (N 27), .int (N 28), .int (N 25), .int (N 5), .int (N 6)])
abbrev oFo (S : Nat → Nat) : kc := .inr (5, [.ref (S 15), .ref (S 17), .ref (S 18), .ref (S 19), .ref (S 20), .ref (S 21), .ref (S 22), .ref (S 23), .ref (S 24), .ref (S 25), .ref (S 26), .ref (S 27), .ref (S 28), .ref (S 29), .ref (S 30), .ref (S 44)])
abbrev oSh (S : Nat → Nat) : kc := .inr (9, [.ref (S 47), .ref (S 48), .ref (S 49)])
def fl13 (S : Nat → Nat) : List Nat := [S 18, S 19, S 20, S 21, S 22, S 23, S 24, S 25, S 26, S 27, S 28, S 29, S 30]
def cK (S : Nat → Nat) (G : Nat → kc) : Prop := G 3 = oFo S ∧ G 4 = oHs (S 45) (S 46) ∧ G 5 = oSh S ∧ G 44 = kLi (rv (fl13 S))
def cf1 (S : Nat → Nat) (G : Nat → kc) (k j nm : Nat) : Prop := ∃ (told : Bool) (b n : Nat), G k = oFi nm (S j) told ∧ G j = oT (S 16) (nI b) (nI n) ∧ b + n ≤ 2000
def cF (Λ : kL) (S : Nat → Nat) (G : Nat → kc) : Prop := (∃ f, G 16 = aB 2000 f) ∧ (∃ n, n ≤ 2000 ∧ G 15 = oT (S 16) (nI 0) (nI n)) ∧ (∃ b n, b + n ≤ 2000 ∧ G 17 = oT (S 16) (nI b) (nI n)) ∧ cf1 S G 18 31 (kSa Λ RX4 28) ∧ cf1 S G 19 32 (kSa Λ RX4 37) ∧ cf1 S G 20 33 (kSa Λ RX4 42) ∧ cf1 S G 21 34 (kSa Λ RX4 47) ∧ cf1 S G 22 35 (kSa Λ RX4 51) ∧ cf1 S G 23 36 (kSa Λ RX4 55) ∧ cf1 S G 24 37 (kSa Λ RX4 60) ∧ cf1 S G 25 38 (kSa Λ RX4 65) ∧ cf1 S G 26 39 (kSa Λ RX4 70) ∧ cf1 S G 27 40 (kSa Λ RX4 74) ∧ cf1 S G 28 41 (kSa Λ RX4 79) ∧ cf1 S G 29 42 (kSa Λ RX4 84) ∧ cf1 S G 30 43 (kSa Λ RX4 89)
def cG (Λ : kL) (S : Nat → Nat) (G : Nat → kc) (g : fvs) : Prop := cF Λ S G ∧ tS S G 31 16 2000 (fv g 0) ∧ tS S G 32 16 2000 (fv g 1) ∧ tS S G 33 16 2000 (fv g 2) ∧ tS S G 34 16 2000 (fv g 3) ∧ tS S G 35 16 2000 (fv g 4) ∧ tS S G 36 16 2000 (fv g 5) ∧ tS S G 37 16 2000 (fv g 6) ∧ tS S G 38 16 2000 (fv g 7) ∧ tS S G 39 16 2000 (fv g 8) ∧ tS S G 40 16 2000 (fv g 9) ∧ tS S G 41 16 2000 (fv g 10) ∧ tS S G 42 16 2000 (fv g 11) ∧ tS S G 43 16 2000 (fv g 12)
def cH (S : Nat → Nat) (G : Nat → kc) : Prop := (∃ f, G 47 = aI 8 f) ∧ (∃ f, G 48 = aI 64 f) ∧ ∃ (n : Nat) (f : Nat → Int32), n ≤ 43 ∧ G 49 = oT (S 50) (nI 0) (nI n) ∧ G 50 = aB 43 f
/-- CLIENTS -/
def cC1 (D : kh) (a rl c : Nat) (id sec : List Int32) (cf : Bool) (x : Int32) (mr : Bool) : Prop := ∃ (i : Nat) (s : Value), D a = some (oCl (nI c) i s x mr rl) ∧ tx D i id ∧ if cf = true then ∃ q, s = .ref q ∧ tx D q sec else s = .null
def cC (D : kh) (l rl : List Nat) (T3 T4 T5 : List (List Int32)) : Prop := l.length = T3.length ∧ rl.length = T3.length ∧ ∀ c, c < T3.length → cC1 D (l.getD c 0) (rl.getD c 0) c (T3.getD c []) (T4.getD c []) (cfS T5 c) (ro T5 c 1) (decide (ro T5 c 2 = 1))
def cRd (D : kh) (rl : List Nat) (A : Nat → List Nat) (R : Nat → List (List Int32)) : Prop := nd rl ∧ ∀ c, c < rl.length → D (rl.getD c 0) = some (kLi (rv (A c))) ∧ txs D (A c) (R c)
/-- REQUESTS -/
def cQ1 (D : kh) (a cl : Nat) (rd ch st : List Int32) (x : Int32) (op : Bool) : Prop := ∃ r c s : Nat, D a = some (oRq cl r x c s op) ∧ tx D r rd ∧ tx D c ch ∧ tx D s st
def cQs (D : kh) (l lc : List Nat) (Q H S : List (List Int32)) (R : Nat → List (List Int32)) : Prop := l.length = Q.length ∧ nd l ∧ ∀ n, n < Q.length → cQ1 D (l.getD n 0) (lc.getD (rn Q n 0) 0) (rdT Q R n) (H.getD n []) (S.getD n []) (ro Q n 2) (decide (ro Q n 3 = 1))
def famRef (lf : List Nat) (K : List (List Int32)) (n : Nat) : Value := if ro K n 5 < 0 then .null else .ref (lf.getD (rn K n 5) 0)
def cCo (D : kh) (l lq lf : List Nat) (K : List (List Int32)) : Prop := l.length = K.length ∧ nd l ∧ ∀ n, n < K.length → D (l.getD n 0) = some (oCo (lq.getD (rn K n 1) 0) (ro K n 2) (ro K n 3) (ro K n 4) (famRef lf K n))
def cFm (D : kh) (l : List Nat) (F : List (List Int32)) : Prop := l.length = F.length ∧ nd l ∧ ∀ n, n < F.length → D (l.getD n 0) = some (oFa (nI n) (ro F n 0) (ro F n 1) (ro F n 2) (decide (ro F n 4 = 1)) (ro F n 3))
def cTo (D : kh) (la lr lf : List Nat) (E G : List (List Int32)) : Prop := la.length = E.length ∧ lr.length = G.length ∧ nd la ∧ nd lr ∧ (∀ i j, i < la.length → j < lr.length → la.getD i 0 ≠ lr.getD j 0) ∧ (∀ n, n < E.length → D (la.getD n 0) = some (oTo (lf.getD (rn E n 1) 0) (ro E n 2) (ro E n 3) (decide (ro E n 4 = 1)))) ∧ ∀ n, n < G.length → ∃ sc, D (lr.getD n 0) = some (oTo (lf.getD (rn G n 1) 0) sc (ro G n 2) (decide (ro G n 3 = 1)))
def hd1 (D : kh) (a : Nat) (d : List Int32) (kd k : Int32) : Prop := ∃ (ns sg : Nat) (g : Nat → Int32), D a = some (oHa ns sg kd k) ∧ D ns = some (aI 4 g) ∧ tl g 0 4 = d ∧ tx D sg (b64 d 22)
def cHs (D : kh) (lw lm : List Nat) (W U M : List (List Int32)) : Prop := lw.length = W.length ∧ lm.length = U.length ∧ nd lw ∧ nd lm ∧ (∀ i j, i < lw.length → j < lm.length → lw.getD i 0 ≠ lm.getD j 0) ∧ (∀ n, n < W.length → hd1 D (lw.getD n 0) (W.getD n []) (-1) (-1)) ∧ ∀ n, n < U.length → hd1 D (lm.getD n 0) (U.getD n []) (ro M n 0) (ro M n 1)
theorem cC1.mono {D D' : kh} {a rl c : Nat} {id sec : List Int32} {cf : Bool} {x : Int32} {mr : Bool} (h : cC1 D a rl c id sec cf x mr) (hd : dm D D') : cC1 D' a rl c id sec cf x mr := by
  obtain ⟨i, s, h1, h2, h3⟩ := h
  refine ⟨i, s, hd _ _ h1, h2.mono hd, ?_⟩
  cases cf with
  | true => obtain ⟨q, e, h4⟩ := h3; exact ⟨q, e, h4.mono hd⟩
  | false => exact h3
theorem cC1.dk {ci : Nat} {D D' : kh} {a rl c : Nat} {id sec : List Int32} {cf : Bool} {x : Int32} {mr : Bool} (h : cC1 D a rl c id sec cf x mr) (hd : dk ci D D') (h0 : 1 ≠ ci) (h1 : 10 ≠ ci) (h2 : 1000 ≠ ci) : cC1 D' a rl c id sec cf x mr := by
  obtain ⟨i, s, g1, g2, g3⟩ := h
  refine ⟨i, s, hd _ _ g1 h0, g2.dk hd h1 h2, ?_⟩
  cases cf with
  | true => obtain ⟨q, e, h4⟩ := g3; exact ⟨q, e, h4.dk hd h1 h2⟩
  | false => exact g3
theorem cC.mono {D D' : kh} {l rl : List Nat} {T3 T4 T5 : List (List Int32)} (h : cC D l rl T3 T4 T5) (hd : dm D D') : cC D' l rl T3 T4 T5 := ⟨h.1, h.2.1, fun c hc => (h.2.2 c hc).mono hd⟩
theorem cC.dk {ci : Nat} {D D' : kh} {l rl : List Nat} {T3 T4 T5 : List (List Int32)} (h : cC D l rl T3 T4 T5) (hd : dk ci D D') (h0 : 1 ≠ ci) (h1 : 10 ≠ ci) (h2 : 1000 ≠ ci) : cC D' l rl T3 T4 T5 := ⟨h.1, h.2.1, fun c hc => (h.2.2 c hc).dk hd h0 h1 h2⟩
theorem cRd.mono {D D' : kh} {rl : List Nat} {A : Nat → List Nat} {R : Nat → List (List Int32)} (h : cRd D rl A R) (hd : dm D D') : cRd D' rl A R := ⟨h.1, fun c hc => ⟨hd _ _ (h.2 c hc).1, (h.2 c hc).2.mono hd⟩⟩
theorem cRd.dk {ci : Nat} {D D' : kh} {rl : List Nat} {A : Nat → List Nat} {R : Nat → List (List Int32)} (h : cRd D rl A R) (hd : dk ci D D') (h0 : 100 ≠ ci) (h1 : 10 ≠ ci) (h2 : 1000 ≠ ci) : cRd D' rl A R := ⟨h.1, fun c hc => ⟨hd _ _ (h.2 c hc).1 h0, (h.2 c hc).2.dk hd h1 h2⟩⟩
theorem cQ1.mono {D D' : kh} {a cl : Nat} {rd ch st : List Int32} {x : Int32} {op : Bool} (h : cQ1 D a cl rd ch st x op) (hd : dm D D') : cQ1 D' a cl rd ch st x op := by
  obtain ⟨r, c, s, h1, h2, h3, h4⟩ := h
  exact ⟨r, c, s, hd _ _ h1, h2.mono hd, h3.mono hd, h4.mono hd⟩
theorem cQ1.dk {ci : Nat} {D D' : kh} {a cl : Nat} {rd ch st : List Int32} {x : Int32} {op : Bool} (h : cQ1 D a cl rd ch st x op) (hd : dk ci D D') (h0 : 8 ≠ ci) (h1 : 10 ≠ ci) (h2 : 1000 ≠ ci) : cQ1 D' a cl rd ch st x op := by
  obtain ⟨r, c, s, g1, g2, g3, g4⟩ := h
  exact ⟨r, c, s, hd _ _ g1 h0, g2.dk hd h1 h2, g3.dk hd h1 h2, g4.dk hd h1 h2⟩
theorem cQs.mono {D D' : kh} {l lc : List Nat} {Q H S : List (List Int32)} {R : Nat → List (List Int32)} (h : cQs D l lc Q H S R) (hd : dm D D') : cQs D' l lc Q H S R := ⟨h.1, h.2.1, fun n hn => (h.2.2 n hn).mono hd⟩
theorem cQs.dk {ci : Nat} {D D' : kh} {l lc : List Nat} {Q H S : List (List Int32)} {R : Nat → List (List Int32)} (h : cQs D l lc Q H S R) (hd : dk ci D D') (h0 : 8 ≠ ci) (h1 : 10 ≠ ci) (h2 : 1000 ≠ ci) : cQs D' l lc Q H S R := ⟨h.1, h.2.1, fun n hn => (h.2.2 n hn).dk hd h0 h1 h2⟩
theorem cCo.mono {D D' : kh} {l lq lf : List Nat} {K : List (List Int32)} (h : cCo D l lq lf K) (hd : dm D D') : cCo D' l lq lf K := ⟨h.1, h.2.1, fun n hn => hd _ _ (h.2.2 n hn)⟩
theorem cCo.dk {ci : Nat} {D D' : kh} {l lq lf : List Nat} {K : List (List Int32)} (h : cCo D l lq lf K) (hd : dk ci D D') (h0 : 2 ≠ ci) : cCo D' l lq lf K := ⟨h.1, h.2.1, fun n hn => hd _ _ (h.2.2 n hn) h0⟩
theorem cFm.mono {D D' : kh} {l : List Nat} {F : List (List Int32)} (h : cFm D l F) (hd : dm D D') : cFm D' l F := ⟨h.1, h.2.1, fun n hn => hd _ _ (h.2.2 n hn)⟩
theorem cFm.dk {ci : Nat} {D D' : kh} {l : List Nat} {F : List (List Int32)} (h : cFm D l F) (hd : dk ci D D') (h0 : 3 ≠ ci) : cFm D' l F := ⟨h.1, h.2.1, fun n hn => hd _ _ (h.2.2 n hn) h0⟩
theorem cTo.mono {D D' : kh} {la lr lf : List Nat} {E G : List (List Int32)} (h : cTo D la lr lf E G) (hd : dm D D') : cTo D' la lr lf E G := by
  obtain ⟨h1, h2, h3, h4, h5, h6, h7⟩ := h
  refine ⟨h1, h2, h3, h4, h5, fun n hn => hd _ _ (h6 n hn), fun n hn => ?_⟩
  obtain ⟨sc, h8⟩ := h7 n hn
  exact ⟨sc, hd _ _ h8⟩
theorem cTo.dk {ci : Nat} {D D' : kh} {la lr lf : List Nat} {E G : List (List Int32)} (h : cTo D la lr lf E G) (hd : dk ci D D') (h0 : 11 ≠ ci) : cTo D' la lr lf E G := by
  obtain ⟨h1, h2, h3, h4, h5, h6, h7⟩ := h
  refine ⟨h1, h2, h3, h4, h5, fun n hn => hd _ _ (h6 n hn) h0, fun n hn => ?_⟩
  obtain ⟨sc, h8⟩ := h7 n hn
  exact ⟨sc, hd _ _ h8 h0⟩
theorem hd1.mono {D D' : kh} {a : Nat} {d : List Int32} {kd k : Int32} (h : hd1 D a d kd k) (hd : dm D D') : hd1 D' a d kd k := by
  obtain ⟨ns, sg, g, h1, h2, h3, h4⟩ := h
  exact ⟨ns, sg, g, hd _ _ h1, hd _ _ h2, h3, h4.mono hd⟩
theorem hd1.dk {ci : Nat} {D D' : kh} {a : Nat} {d : List Int32} {kd k : Int32} (h : hd1 D a d kd k) (hd : dk ci D D') (h0 : 6 ≠ ci) (h3 : 1001 ≠ ci) (h1 : 10 ≠ ci) (h2 : 1000 ≠ ci) : hd1 D' a d kd k := by
  obtain ⟨ns, sg, g, g1, g2, g3, g4⟩ := h
  exact ⟨ns, sg, g, hd _ _ g1 h0, hd _ _ g2 h3, g3, g4.dk hd h1 h2⟩
theorem cHs.mono {D D' : kh} {lw lm : List Nat} {W U M : List (List Int32)} (h : cHs D lw lm W U M) (hd : dm D D') : cHs D' lw lm W U M := by
  obtain ⟨h1, h2, h3, h4, h5, h6, h7⟩ := h
  exact ⟨h1, h2, h3, h4, h5, fun n hn => (h6 n hn).mono hd, fun n hn => (h7 n hn).mono hd⟩
theorem cHs.dk {ci : Nat} {D D' : kh} {lw lm : List Nat} {W U M : List (List Int32)} (h : cHs D lw lm W U M) (hd : dk ci D D') (h0 : 6 ≠ ci) (g3 : 1001 ≠ ci) (g1 : 10 ≠ ci) (g2 : 1000 ≠ ci) : cHs D' lw lm W U M := by
  obtain ⟨h1, h2, h3, h4, h5, h6, h7⟩ := h
  exact ⟨h1, h2, h3, h4, h5, fun n hn => (h6 n hn).dk hd h0 g3 g1 g2, fun n hn => (h7 n hn).dk hd h0 g3 g1 g2⟩
def setA (A : Nat → List Nat) (k : Nat) (l : List Nat) : Nat → List Nat := fun j => if j = k then l else A j
/-- A: addresses of WORDS 6, CLIENTS 7, REQUESTS 8, CODES 9, FAMILIES 10, ACCESS 11, REFRESH 12, lists of REDIRECTS 13, HANDLES that wait 45, that are made 46; L: of each CLIENT's REDIRECTS -/
abbrev cR (Λ : kL) (S : Nat → Nat) (G : Nat → kc) (D : kh) (A L : Nat → List Nat) (N : Nat → Int32) (B : Nat → List Int32) (T R : Nat → List (List Int32)) : Prop := tO S G 1 13 2000 (B 0) ∧ tO S G 2 14 6200 (B 1) ∧ G 0 = oGs S N ∧ cK S G ∧ cF Λ S G ∧ cH S G ∧ (G 6 = kLi (rv (A 6)) ∧ txs D (A 6) (T 2)) ∧ (G 7 = kLi (rv (A 7)) ∧ cC D (A 7) (A 13) (T 3) (T 4) (T 5)) ∧ cRd D (A 13) L R ∧ (G 8 = kLi (rv (A 8)) ∧ cQs D (A 8) (A 7) (T 23) (T 25) (T 26) R) ∧ (G 9 = kLi (rv (A 9)) ∧ cCo D (A 9) (A 8) (A 10) (T 27)) ∧ (G 10 = kLi (rv (A 10)) ∧ cFm D (A 10) (T 28)) ∧ (G 11 = kLi (rv (A 11)) ∧ G 12 = kLi (rv (A 12)) ∧ cTo D (A 11) (A 12) (A 10) (T 29) (T 30)) ∧ (G 45 = kLi (rv (A 45)) ∧ G 46 = kLi (rv (A 46)) ∧ cHs D (A 45) (A 46) (T 20) (T 21) (T 22))
/-- a call of the class answers so -/
def cP (Λ : kL) (S : Nat → Nat) (o : rx) : Option Value → (Nat → kc) → kh → Prop := fun r G' D' => r = some (.int o.1) ∧ ∃ A' L', cR Λ S G' D' A' L' o.2.2.1 o.2.2.2.1 o.2.2.2.2.1 o.2.2.2.2.2
