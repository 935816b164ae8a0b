/-! the class: the FORM -/
theorem C.aconst_null {Λ : kL} {X : kX} {μ : kMi} {mc ms : Nat} {S : Nat → Nat} {Q : Option Value → (Nat → kc) → kh → Prop} {bc bs : Nat} {G : Nat → kc} {D : kh} {pc : Nat} {L : List (Option Value)} {st : List Value} (hd : decode μ.2.1 pc = .ok (.aconst_null, 1)) (k : C Λ X μ mc ms S Q bc bs G D (pc + 1) L (.null :: st)) : C Λ X μ mc ms S Q bc bs G D pc L st := fun hS D0 σ0 σ h1 h2 => J.aconst_null hd (k hS D0 σ0 σ h1 h2)
theorem gW_id {S : Nat → Nat} {G : Nat → kc} {k j cap n : Nat} {f : Nat → Int32} (h1 : G k = oT (S j) (nI 0) (nI n)) (h2 : G j = aB cap f) : gW S G k j cap f n = G := by
  rw [gW, ← h2, updG_id, ← h1, updG_id]
theorem hexn : ∀ j, j < 256 → hexd (nI j) = hexd (b8 (nI j)) ∧ (hexd (nI j) < 0 → hexd (nI j) = -1) := by decide +kernel
theorem v_atg {Λ : kL} {σ : kh} {t : Nat} {l : List Int32} (h : tx σ t l) (j : Nat) (hj : j < 2 ^ 31) : jCt Λ mX9_at 0 0 [.ref t, .int (nI j)] σ (fun v σ' => v = some (.int (if j < l.length then l.getD j 0 &&& 255 else -1)) ∧ σ' = σ) := by
  obtain ⟨r, b, cap, f, h1, h2, h3, h4, h5, h6⟩ := h
  have h9 := c_Text_at (Λ := Λ) h1 h2 h3 h4 (nI j)
  by_cases hl : j < l.length
  · rw [tat_in hl (by omega), tl_bs.mp h5 j hl] at h9
    rw [if_pos hl]; exact h9
  · rw [tat_out (by omega) hj] at h9
    rw [if_neg hl]; exact h9
theorem hx_at {v : List Int32} (hb : bts v) (j : Nat) : hexd (if j < v.length then v.getD j 0 &&& 255 else -1) = hexd (gD v j) ∧ (hexd (gD v j) < 0 → hexd (gD v j) = -1) := by
  by_cases h : j < v.length
  · rw [if_pos h]
    obtain ⟨n, hn, e1, e2⟩ := byt_n _ (bts_at hb h)
    have h9 := hexn n hn
    rw [e2, gD, e1]
    exact ⟨h9.1, fun q => by rw [← h9.1] at q ⊢; exact h9.2 q⟩
  · rw [if_neg h, gD, List.getD_eq_getElem?_getD, List.getElem?_eq_none (by omega)]
    exact ⟨by decide, fun _ => by decide⟩
/-- what stands behind a part is no sign of hexadecimal -/
def nhx (v : List Int32) (e : Nat) : Prop := e = v.length ∨ gD v e = 38 ∨ gD v e = 61
theorem nhx.neg {v : List Int32} {e : Nat} (h : nhx v e) : hexd (gD v e) < 0 := by
  rcases h with h | h | h
  · rw [gD, List.getD_eq_getElem?_getD, List.getElem?_eq_none (by omega)]; decide
  · rw [h]; decide
  · rw [h]; decide
theorem vis_b8 : ∀ j, j < 256 → visb (nI j) = true → b8 (nI j) = nI j := by decide +kernel
/-- how the class reads a FORM: acc is what is decoded so far -/
def ff1 (S : Nat → Nat) (G : Nat → kc) (acc : List Int32) (o : Option (List Int32)) (k j nm : Nat) : Prop := G k = oFi nm (S j) o.isSome ∧ match o with
  | none => ∃ b, b ≤ 2000 ∧ G j = oT (S 16) (nI b) (nI 0)
  | some v => ∃ b, b + v.length ≤ acc.length ∧ G j = oT (S 16) (nI b) (nI v.length) ∧ (acc.drop b).take v.length = v ∧ bts v
theorem ff1.grow {S : Nat → Nat} {G G' : Nat → kc} {acc l : List Int32} {o : Option (List Int32)} {k j nm : Nat} (h : ff1 S G acc o k j nm) (hk : G' k = G k) (hj : G' j = G j) : ff1 S G' (acc ++ l) o k j nm := by
  refine ⟨hk.trans h.1, ?_⟩
  have h2 := h.2
  cases o with
  | none => obtain ⟨b, h3, h4⟩ := h2; exact ⟨b, h3, hj.trans h4⟩
  | some v =>
    obtain ⟨b, h3, h4, h5, h6⟩ := h2
    refine ⟨b, by rw [List.length_append]; omega, hj.trans h4, ?_, h6⟩
    rw [List.drop_append_of_le_length (by omega), List.take_append_of_le_length (by rw [List.length_drop]; omega)]
    exact h5
theorem ff1.cf {S : Nat → Nat} {G : Nat → kc} {acc : List Int32} {o : Option (List Int32)} {k j nm : Nat} (h : ff1 S G acc o k j nm) (ha : acc.length ≤ 2000) : cf1 S G k j nm := by
  obtain ⟨h1, h2⟩ := h
  cases o with
  | none => obtain ⟨b, h3, h4⟩ := h2; exact ⟨_, b, 0, h1, h4, by omega⟩
  | some v => obtain ⟨b, h3, h4, -⟩ := h2; exact ⟨_, b, v.length, h1, h4, by omega⟩
theorem ff1.ts {S : Nat → Nat} {G : Nat → kc} {acc : List Int32} {g : fvs} {i k j nm : Nat} (h : ff1 S G acc (g i) k j nm) (ha : tO S G 15 16 2000 acc) : tS S G j 16 2000 (fv g i) := by
  obtain ⟨h1, h2⟩ := h
  obtain ⟨f, a1, a2, a3, a4, a5, a6⟩ := ha
  rw [fv]
  cases e : g i with
  | none =>
    rw [e] at h2
    obtain ⟨b, h3, h4⟩ := h2
    exact ⟨b, f, h4, a2, by show b + 0 ≤ 2000; omega, by decide, rfl, bts_nil⟩
  | some v =>
    rw [e] at h2
    obtain ⟨b, h3, h4, h5, h6⟩ := h2
    refine ⟨b, f, h4, a2, by show b + v.length ≤ 2000; omega, by decide, ?_, h6⟩
    have h9 := tl_dt (b := 0) (g := b) (m := v.length) a5 (by omega)
    rw [Nat.zero_add, h5] at h9
    exact h9
theorem hits {f : Nat → Int32} {n p i : Nat} (h : atI f 38 p n = atI f 38 i n) (hi : i < n) (hc : f i = 38) : atI f 38 p n = i := h.trans (atI_t hi hc)
theorem atI_n {f : Nat → Int32} {c : Int32} {n : Nat} : atI f c n n = n := atI_end (Nat.le_refl n)

def ffA (Λ : kL) (S : Nat → Nat) (G : Nat → kc) (acc : List Int32) (g : fvs) : Prop := ff1 S G acc (g 0) 18 31 (kSa Λ RX4 28) ∧ ff1 S G acc (g 1) 19 32 (kSa Λ RX4 37) ∧ ff1 S G acc (g 2) 20 33 (kSa Λ RX4 42) ∧ ff1 S G acc (g 3) 21 34 (kSa Λ RX4 47) ∧ ff1 S G acc (g 4) 22 35 (kSa Λ RX4 51) ∧ ff1 S G acc (g 5) 23 36 (kSa Λ RX4 55) ∧ ff1 S G acc (g 6) 24 37 (kSa Λ RX4 60) ∧ ff1 S G acc (g 7) 25 38 (kSa Λ RX4 65) ∧ ff1 S G acc (g 8) 26 39 (kSa Λ RX4 70) ∧ ff1 S G acc (g 9) 27 40 (kSa Λ RX4 74) ∧ ff1 S G acc (g 10) 28 41 (kSa Λ RX4 79) ∧ ff1 S G acc (g 11) 29 42 (kSa Λ RX4 84) ∧ ff1 S G acc (g 12) 30 43 (kSa Λ RX4 89)
def ffG (Λ : kL) (S : Nat → Nat) (G : Nat → kc) (acc : List Int32) (g : fvs) : Prop := tO S G 15 16 2000 acc ∧ (∃ b n, b + n ≤ 2000 ∧ G 17 = oT (S 16) (nI b) (nI n)) ∧ ffA Λ S G acc g
theorem ffG.cG {Λ : kL} {S : Nat → Nat} {G : Nat → kc} {acc : List Int32} {g : fvs} (h : ffG Λ S G acc g) : cG Λ S G g := by
  obtain ⟨h1, h2, f0, f1, f2, f3, f4, f5, f6, f7, f8, f9, f10, f11, f12⟩ := h
  have h1' := h1
  obtain ⟨f, a1, a2, a3, a4, a5, a6⟩ := h1'
  exact ⟨⟨⟨f, a2⟩, ⟨acc.length, a3, a1⟩, h2, f0.cf a3, f1.cf a3, f2.cf a3, f3.cf a3, f4.cf a3, f5.cf a3, f6.cf a3, f7.cf a3, f8.cf a3, f9.cf a3, f10.cf a3, f11.cf a3, f12.cf a3⟩, f0.ts h1, f1.ts h1, f2.ts h1, f3.ts h1, f4.ts h1, f5.ts h1, f6.ts h1, f7.ts h1, f8.ts h1, f9.ts h1, f10.ts h1, f11.ts h1, f12.ts h1⟩
theorem ffA.grow {Λ : kL} {S : Nat → Nat} {G G' : Nat → kc} {acc : List Int32} {g : fvs} (h : ffA Λ S G acc g) (l : List Int32) (he : ∀ k, 18 ≤ k → k < 44 → G' k = G k) : ffA Λ S G' (acc ++ l) g := by
  obtain ⟨f0, f1, f2, f3, f4, f5, f6, f7, f8, f9, f10, f11, f12⟩ := h
  exact ⟨f0.grow (he 18 (by decide) (by decide)) (he 31 (by decide) (by decide)), f1.grow (he 19 (by decide) (by decide)) (he 32 (by decide) (by decide)), f2.grow (he 20 (by decide) (by decide)) (he 33 (by decide) (by decide)), f3.grow (he 21 (by decide) (by decide)) (he 34 (by decide) (by decide)), f4.grow (he 22 (by decide) (by decide)) (he 35 (by decide) (by decide)), f5.grow (he 23 (by decide) (by decide)) (he 36 (by decide) (by decide)), f6.grow (he 24 (by decide) (by decide)) (he 37 (by decide) (by decide)), f7.grow (he 25 (by decide) (by decide)) (he 38 (by decide) (by decide)), f8.grow (he 26 (by decide) (by decide)) (he 39 (by decide) (by decide)), f9.grow (he 27 (by decide) (by decide)) (he 40 (by decide) (by decide)), f10.grow (he 28 (by decide) (by decide)) (he 41 (by decide) (by decide)), f11.grow (he 29 (by decide) (by decide)) (he 42 (by decide) (by decide)), f12.grow (he 30 (by decide) (by decide)) (he 43 (by decide) (by decide))⟩

def fgG (Λ : kL) (S : Nat → Nat) (G : Nat → kc) (b0 b1 b2 b3 b4 b5 b6 b7 b8 b9 b10 b11 b12 : Nat) : Nat → kc := (updG (updG (updG (updG (updG (updG (updG (updG (updG (updG (updG (updG (updG (updG (updG (updG (updG (updG (updG (updG (updG (updG (updG (updG (updG (updG (updG G 15 (oT (S 16) (nI 0) 0)) 18 (oFi (kSa Λ RX4 28) (S 31) false)) 31 (oT (S 16) (nI b0) 0)) 19 (oFi (kSa Λ RX4 37) (S 32) false)) 32 (oT (S 16) (nI b1) 0)) 20 (oFi (kSa Λ RX4 42) (S 33) false)) 33 (oT (S 16) (nI b2) 0)) 21 (oFi (kSa Λ RX4 47) (S 34) false)) 34 (oT (S 16) (nI b3) 0)) 22 (oFi (kSa Λ RX4 51) (S 35) false)) 35 (oT (S 16) (nI b4) 0)) 23 (oFi (kSa Λ RX4 55) (S 36) false)) 36 (oT (S 16) (nI b5) 0)) 24 (oFi (kSa Λ RX4 60) (S 37) false)) 37 (oT (S 16) (nI b6) 0)) 25 (oFi (kSa Λ RX4 65) (S 38) false)) 38 (oT (S 16) (nI b7) 0)) 26 (oFi (kSa Λ RX4 70) (S 39) false)) 39 (oT (S 16) (nI b8) 0)) 27 (oFi (kSa Λ RX4 74) (S 40) false)) 40 (oT (S 16) (nI b9) 0)) 28 (oFi (kSa Λ RX4 79) (S 41) false)) 41 (oT (S 16) (nI b10) 0)) 29 (oFi (kSa Λ RX4 84) (S 42) false)) 42 (oT (S 16) (nI b11) 0)) 30 (oFi (kSa Λ RX4 89) (S 43) false)) 43 (oT (S 16) (nI b12) 0))
theorem fgG_n {Λ : kL} {S : Nat → Nat} {G : Nat → kc} {b0 b1 b2 b3 b4 b5 b6 b7 b8 b9 b10 b11 b12 : Nat} {k : Nat} (h : ¬ (k = 15 ∨ (18 ≤ k ∧ k < 44))) : fgG Λ S G b0 b1 b2 b3 b4 b5 b6 b7 b8 b9 b10 b11 b12 k = G k := by
  unfold fgG
  rw [updG_n _ _ (show k ≠ 43 by omega), updG_n _ _ (show k ≠ 30 by omega), updG_n _ _ (show k ≠ 42 by omega), updG_n _ _ (show k ≠ 29 by omega), updG_n _ _ (show k ≠ 41 by omega), updG_n _ _ (show k ≠ 28 by omega), updG_n _ _ (show k ≠ 40 by omega), updG_n _ _ (show k ≠ 27 by omega), updG_n _ _ (show k ≠ 39 by omega), updG_n _ _ (show k ≠ 26 by omega), updG_n _ _ (show k ≠ 38 by omega), updG_n _ _ (show k ≠ 25 by omega), updG_n _ _ (show k ≠ 37 by omega), updG_n _ _ (show k ≠ 24 by omega), updG_n _ _ (show k ≠ 36 by omega), updG_n _ _ (show k ≠ 23 by omega), updG_n _ _ (show k ≠ 35 by omega), updG_n _ _ (show k ≠ 22 by omega), updG_n _ _ (show k ≠ 34 by omega), updG_n _ _ (show k ≠ 21 by omega), updG_n _ _ (show k ≠ 33 by omega), updG_n _ _ (show k ≠ 20 by omega), updG_n _ _ (show k ≠ 32 by omega), updG_n _ _ (show k ≠ 19 by omega), updG_n _ _ (show k ≠ 31 by omega), updG_n _ _ (show k ≠ 18 by omega), updG_n _ _ (show k ≠ 15 by omega)]
theorem fgG_ff {Λ : kL} {S : Nat → Nat} {G : Nat → kc} {b0 b1 b2 b3 b4 b5 b6 b7 b8 b9 b10 b11 b12 : Nat} {f : Nat → Int32} (h16 : G 16 = aB 2000 f) (h17 : ∃ b n, b + n ≤ 2000 ∧ G 17 = oT (S 16) (nI b) (nI n)) (l0 : b0 ≤ 2000) (l1 : b1 ≤ 2000) (l2 : b2 ≤ 2000) (l3 : b3 ≤ 2000) (l4 : b4 ≤ 2000) (l5 : b5 ≤ 2000) (l6 : b6 ≤ 2000) (l7 : b7 ≤ 2000) (l8 : b8 ≤ 2000) (l9 : b9 ≤ 2000) (l10 : b10 ≤ 2000) (l11 : b11 ≤ 2000) (l12 : b12 ≤ 2000) : ffG Λ S (fgG Λ S G b0 b1 b2 b3 b4 b5 b6 b7 b8 b9 b10 b11 b12) [] vf0 := by
  refine ⟨⟨f, rfl, h16, Nat.zero_le _, by decide, rfl, bts_nil⟩, h17, ?_, ?_, ?_, ?_, ?_, ?_, ?_, ?_, ?_, ?_, ?_, ?_, ?_⟩
  · exact ⟨rfl, b0, l0, rfl⟩
  · exact ⟨rfl, b1, l1, rfl⟩
  · exact ⟨rfl, b2, l2, rfl⟩
  · exact ⟨rfl, b3, l3, rfl⟩
  · exact ⟨rfl, b4, l4, rfl⟩
  · exact ⟨rfl, b5, l5, rfl⟩
  · exact ⟨rfl, b6, l6, rfl⟩
  · exact ⟨rfl, b7, l7, rfl⟩
  · exact ⟨rfl, b8, l8, rfl⟩
  · exact ⟨rfl, b9, l9, rfl⟩
  · exact ⟨rfl, b10, l10, rfl⟩
  · exact ⟨rfl, b11, l11, rfl⟩
  · exact ⟨rfl, b12, l12, rfl⟩

theorem k_forget0 {Λ : kL} {S : Nat → Nat} {G : Nat → kc} {D : kh} (hS : cInj S) (hK : cK S G) {fr : Nat → Int32} (h16 : G 16 = aB 2000 fr) {n15 : Nat} (h15 : G 15 = oT (S 16) (nI 0) (nI n15)) {to0 : Bool} {b0 n0 : Nat} (fe0 : G 18 = oFi (kSa Λ RX4 28) (S 31) to0) (ve0 : G 31 = oT (S 16) (nI b0) (nI n0)) {to1 : Bool} {b1 n1 : Nat} (fe1 : G 19 = oFi (kSa Λ RX4 37) (S 32) to1) (ve1 : G 32 = oT (S 16) (nI b1) (nI n1)) {to2 : Bool} {b2 n2 : Nat} (fe2 : G 20 = oFi (kSa Λ RX4 42) (S 33) to2) (ve2 : G 33 = oT (S 16) (nI b2) (nI n2)) {to3 : Bool} {b3 n3 : Nat} (fe3 : G 21 = oFi (kSa Λ RX4 47) (S 34) to3) (ve3 : G 34 = oT (S 16) (nI b3) (nI n3)) {to4 : Bool} {b4 n4 : Nat} (fe4 : G 22 = oFi (kSa Λ RX4 51) (S 35) to4) (ve4 : G 35 = oT (S 16) (nI b4) (nI n4)) {to5 : Bool} {b5 n5 : Nat} (fe5 : G 23 = oFi (kSa Λ RX4 55) (S 36) to5) (ve5 : G 36 = oT (S 16) (nI b5) (nI n5)) {to6 : Bool} {b6 n6 : Nat} (fe6 : G 24 = oFi (kSa Λ RX4 60) (S 37) to6) (ve6 : G 37 = oT (S 16) (nI b6) (nI n6)) {to7 : Bool} {b7 n7 : Nat} (fe7 : G 25 = oFi (kSa Λ RX4 65) (S 38) to7) (ve7 : G 38 = oT (S 16) (nI b7) (nI n7)) {to8 : Bool} {b8 n8 : Nat} (fe8 : G 26 = oFi (kSa Λ RX4 70) (S 39) to8) (ve8 : G 39 = oT (S 16) (nI b8) (nI n8)) {to9 : Bool} {b9 n9 : Nat} (fe9 : G 27 = oFi (kSa Λ RX4 74) (S 40) to9) (ve9 : G 40 = oT (S 16) (nI b9) (nI n9)) {to10 : Bool} {b10 n10 : Nat} (fe10 : G 28 = oFi (kSa Λ RX4 79) (S 41) to10) (ve10 : G 41 = oT (S 16) (nI b10) (nI n10)) {to11 : Bool} {b11 n11 : Nat} (fe11 : G 29 = oFi (kSa Λ RX4 84) (S 42) to11) (ve11 : G 42 = oT (S 16) (nI b11) (nI n11)) {to12 : Bool} {b12 n12 : Nat} (fe12 : G 30 = oFi (kSa Λ RX4 89) (S 43) to12) (ve12 : G 43 = oT (S 16) (nI b12) (nI n12)) : cCt Λ mX4_forget 0 0 S [.ref (S 3)] G D (fun r G' D' => r = none ∧ G' = fgG Λ S G b0 b1 b2 b3 b4 b5 b6 b7 b8 b9 b10 b11 b12 ∧ D' = D) := by
  refine cCt.of hS pn_X4 [some (.ref (S 3)), none] rfl (Nat.le_of_ble_eq_true rfl) fun X => ?_
  refine C.aload_nR dX4_forget_0 rfl ?_
  refine C.getS (k9 := 3) (fs := [.ref (S 15), .ref (S 17), .ref (S 18), .ref (S 19), .ref (S 20), .ref (S 21), .ref (S 22), .ref (S 23), .ref (S 24), .ref (S 25), .ref (S 26), .ref (S 27), .ref (S 28), .ref (S 29), .ref (S 30), .ref (S 44)]) dX4_forget_1 fl_X4_14 rfl hK.1 rfl ?_
  refine C.callVS0 (k9 := 15) [] dX4_forget_4 mdX9_clear imX9_clear seX9_clear kc_10 rfl h15 lk_X4_119 rfl rfl rfl rfl (cCt.w1 (R := fun r => r = none) (i := 15) hS (by decide) fun σ9 h9 => c_Text_clear (h9.at (k := 15) rfl h15)) ?_
  rintro _ _ D9 ⟨rfl, rfl, e8⟩; have e8 := e8.symm; subst e8
  refine C.iconst (v := 0) dX4_forget_7 (by decide) ?_
  refine C.istore_n (L' := [some (.ref (S 3)), some (.int 0)]) dX4_forget_8 (by decide) rfl rfl ?_
  refine C.iload_n dX4_forget_9 rfl ?_
  refine C.aload_nR dX4_forget_10 rfl ?_
  refine C.getS (k9 := 3) (fs := [.ref (S 15), .ref (S 17), .ref (S 18), .ref (S 19), .ref (S 20), .ref (S 21), .ref (S 22), .ref (S 23), .ref (S 24), .ref (S 25), .ref (S 26), .ref (S 27), .ref (S 28), .ref (S 29), .ref (S 30), .ref (S 44)]) dX4_forget_11 fl_X4_96 rfl hK.1 rfl ?_
  refine C.callLS0 (k9 := 44) [] dX4_forget_14 mdJx4a65c_size_8abf5 imJx4a65c_size_8abf5 seJx4a65c_size_8abf5 rfl hK.2.2.2 lk_X4_122 rfl rfl rfl rfl (cCt.w0 (R := fun r => r = some (.int (nI (rv (fl13 S)).length))) fun σ9 h9 => c_list_size (h9.at (k := 44) rfl hK.2.2.2)) ?_
  rintro _ G9 D9 ⟨rfl, e9, e8⟩
  have e9 := e9.symm; subst e9; have e8 := e8.symm; subst e8
  refine C.icmp_ge (tgt := 40) dX4_forget_17 (by decide) (fun c_17 => absurd c_17 (show ¬ (13 : Int32) ≤ 0 by decide)) (fun c_17 => ?_)
  refine C.aload_nR dX4_forget_20 rfl ?_
  refine C.getS (k9 := 3) (fs := [.ref (S 15), .ref (S 17), .ref (S 18), .ref (S 19), .ref (S 20), .ref (S 21), .ref (S 22), .ref (S 23), .ref (S 24), .ref (S 25), .ref (S 26), .ref (S 27), .ref (S 28), .ref (S 29), .ref (S 30), .ref (S 44)]) dX4_forget_21 fl_X4_96 rfl hK.1 rfl ?_
  refine C.iload_n dX4_forget_24 rfl ?_
  refine C.callLS0 (k9 := 44) [.int 0] dX4_forget_25 mdJx4a65c_get_915e3 imJx4a65c_get_915e3 seJx4a65c_get_915e3 rfl hK.2.2.2 lk_X4_123 rfl rfl rfl rfl (cCt.w0 (R := fun r => r = some (.ref (S 18))) fun σ9 h9 => c_list_get (h9.at (k := 44) rfl hK.2.2.2) (show (rv (fl13 S))[0]? = some (.ref (S 18)) from rfl)) ?_
  rintro _ G9 D9 ⟨rfl, e9, e8⟩
  have e9 := e9.symm; subst e9; have e8 := e8.symm; subst e8
  refine C.castS (k9 := 18) dX4_forget_28 cl_X4_26 cs_4 kc_4 rfl fe0 ?_
  refine C.callVS0 (k9 := 18) [] dX4_forget_31 mdX3_forget imX3_forget seX3_forget kc_4 rfl fe0 lk_X4_127 rfl rfl rfl rfl (cCt.w2 (R := fun r => r = none) (i := 31) (j := 18) hS (by decide) (by decide) fun σ9 h9 => c_Field_forget (told := to0) (n := n0) (h9.at (k := 18) rfl fe0) (h9.at (k := 31) rfl ve0)) ?_
  rintro _ _ D9 ⟨rfl, rfl, e8⟩; have e8 := e8.symm; subst e8
  refine C.iinc (v := 1) (L' := [some (.ref (S 3)), some (.int 1)]) dX4_forget_34 rfl rfl (by decide) rfl rfl ?_
  refine C.goto (tgt := 9) dX4_forget_37 (by decide) ?_
  refine C.iload_n dX4_forget_9 rfl ?_
  refine C.aload_nR dX4_forget_10 rfl ?_
  refine C.getS (k9 := 3) (fs := [.ref (S 15), .ref (S 17), .ref (S 18), .ref (S 19), .ref (S 20), .ref (S 21), .ref (S 22), .ref (S 23), .ref (S 24), .ref (S 25), .ref (S 26), .ref (S 27), .ref (S 28), .ref (S 29), .ref (S 30), .ref (S 44)]) dX4_forget_11 fl_X4_96 rfl hK.1 rfl ?_
  refine C.callLS0 (k9 := 44) [] dX4_forget_14 mdJx4a65c_size_8abf5 imJx4a65c_size_8abf5 seJx4a65c_size_8abf5 rfl hK.2.2.2 lk_X4_122 rfl rfl rfl rfl (cCt.w0 (R := fun r => r = some (.int (nI (rv (fl13 S)).length))) fun σ9 h9 => c_list_size (h9.at (k := 44) rfl hK.2.2.2)) ?_
  rintro _ G9 D9 ⟨rfl, e9, e8⟩
  have e9 := e9.symm; subst e9; have e8 := e8.symm; subst e8
  refine C.icmp_ge (tgt := 40) dX4_forget_17 (by decide) (fun c_17 => absurd c_17 (show ¬ (13 : Int32) ≤ 1 by decide)) (fun c_17 => ?_)
  refine C.aload_nR dX4_forget_20 rfl ?_
  refine C.getS (k9 := 3) (fs := [.ref (S 15), .ref (S 17), .ref (S 18), .ref (S 19), .ref (S 20), .ref (S 21), .ref (S 22), .ref (S 23), .ref (S 24), .ref (S 25), .ref (S 26), .ref (S 27), .ref (S 28), .ref (S 29), .ref (S 30), .ref (S 44)]) dX4_forget_21 fl_X4_96 rfl hK.1 rfl ?_
  refine C.iload_n dX4_forget_24 rfl ?_
  refine C.callLS0 (k9 := 44) [.int 1] dX4_forget_25 mdJx4a65c_get_915e3 imJx4a65c_get_915e3 seJx4a65c_get_915e3 rfl hK.2.2.2 lk_X4_123 rfl rfl rfl rfl (cCt.w0 (R := fun r => r = some (.ref (S 19))) fun σ9 h9 => c_list_get (h9.at (k := 44) rfl hK.2.2.2) (show (rv (fl13 S))[1]? = some (.ref (S 19)) from rfl)) ?_
  rintro _ G9 D9 ⟨rfl, e9, e8⟩
  have e9 := e9.symm; subst e9; have e8 := e8.symm; subst e8
  refine C.castS (k9 := 19) dX4_forget_28 cl_X4_26 cs_4 kc_4 rfl fe1 ?_
  refine C.callVS0 (k9 := 19) [] dX4_forget_31 mdX3_forget imX3_forget seX3_forget kc_4 rfl fe1 lk_X4_127 rfl rfl rfl rfl (cCt.w2 (R := fun r => r = none) (i := 32) (j := 19) hS (by decide) (by decide) fun σ9 h9 => c_Field_forget (told := to1) (n := n1) (h9.at (k := 19) rfl fe1) (h9.at (k := 32) rfl ve1)) ?_
  rintro _ _ D9 ⟨rfl, rfl, e8⟩; have e8 := e8.symm; subst e8
  refine C.iinc (v := 2) (L' := [some (.ref (S 3)), some (.int 2)]) dX4_forget_34 rfl rfl (by decide) rfl rfl ?_
  refine C.goto (tgt := 9) dX4_forget_37 (by decide) ?_
  refine C.iload_n dX4_forget_9 rfl ?_
  refine C.aload_nR dX4_forget_10 rfl ?_
  refine C.getS (k9 := 3) (fs := [.ref (S 15), .ref (S 17), .ref (S 18), .ref (S 19), .ref (S 20), .ref (S 21), .ref (S 22), .ref (S 23), .ref (S 24), .ref (S 25), .ref (S 26), .ref (S 27), .ref (S 28), .ref (S 29), .ref (S 30), .ref (S 44)]) dX4_forget_11 fl_X4_96 rfl hK.1 rfl ?_
  refine C.callLS0 (k9 := 44) [] dX4_forget_14 mdJx4a65c_size_8abf5 imJx4a65c_size_8abf5 seJx4a65c_size_8abf5 rfl hK.2.2.2 lk_X4_122 rfl rfl rfl rfl (cCt.w0 (R := fun r => r = some (.int (nI (rv (fl13 S)).length))) fun σ9 h9 => c_list_size (h9.at (k := 44) rfl hK.2.2.2)) ?_
  rintro _ G9 D9 ⟨rfl, e9, e8⟩
  have e9 := e9.symm; subst e9; have e8 := e8.symm; subst e8
  refine C.icmp_ge (tgt := 40) dX4_forget_17 (by decide) (fun c_17 => absurd c_17 (show ¬ (13 : Int32) ≤ 2 by decide)) (fun c_17 => ?_)
  refine C.aload_nR dX4_forget_20 rfl ?_
  refine C.getS (k9 := 3) (fs := [.ref (S 15), .ref (S 17), .ref (S 18), .ref (S 19), .ref (S 20), .ref (S 21), .ref (S 22), .ref (S 23), .ref (S 24), .ref (S 25), .ref (S 26), .ref (S 27), .ref (S 28), .ref (S 29), .ref (S 30), .ref (S 44)]) dX4_forget_21 fl_X4_96 rfl hK.1 rfl ?_
  refine C.iload_n dX4_forget_24 rfl ?_
  refine C.callLS0 (k9 := 44) [.int 2] dX4_forget_25 mdJx4a65c_get_915e3 imJx4a65c_get_915e3 seJx4a65c_get_915e3 rfl hK.2.2.2 lk_X4_123 rfl rfl rfl rfl (cCt.w0 (R := fun r => r = some (.ref (S 20))) fun σ9 h9 => c_list_get (h9.at (k := 44) rfl hK.2.2.2) (show (rv (fl13 S))[2]? = some (.ref (S 20)) from rfl)) ?_
  rintro _ G9 D9 ⟨rfl, e9, e8⟩
  have e9 := e9.symm; subst e9; have e8 := e8.symm; subst e8
  refine C.castS (k9 := 20) dX4_forget_28 cl_X4_26 cs_4 kc_4 rfl fe2 ?_
  refine C.callVS0 (k9 := 20) [] dX4_forget_31 mdX3_forget imX3_forget seX3_forget kc_4 rfl fe2 lk_X4_127 rfl rfl rfl rfl (cCt.w2 (R := fun r => r = none) (i := 33) (j := 20) hS (by decide) (by decide) fun σ9 h9 => c_Field_forget (told := to2) (n := n2) (h9.at (k := 20) rfl fe2) (h9.at (k := 33) rfl ve2)) ?_
  rintro _ _ D9 ⟨rfl, rfl, e8⟩; have e8 := e8.symm; subst e8
  refine C.iinc (v := 3) (L' := [some (.ref (S 3)), some (.int 3)]) dX4_forget_34 rfl rfl (by decide) rfl rfl ?_
  refine C.goto (tgt := 9) dX4_forget_37 (by decide) ?_
  refine C.iload_n dX4_forget_9 rfl ?_
  refine C.aload_nR dX4_forget_10 rfl ?_
  refine C.getS (k9 := 3) (fs := [.ref (S 15), .ref (S 17), .ref (S 18), .ref (S 19), .ref (S 20), .ref (S 21), .ref (S 22), .ref (S 23), .ref (S 24), .ref (S 25), .ref (S 26), .ref (S 27), .ref (S 28), .ref (S 29), .ref (S 30), .ref (S 44)]) dX4_forget_11 fl_X4_96 rfl hK.1 rfl ?_
  refine C.callLS0 (k9 := 44) [] dX4_forget_14 mdJx4a65c_size_8abf5 imJx4a65c_size_8abf5 seJx4a65c_size_8abf5 rfl hK.2.2.2 lk_X4_122 rfl rfl rfl rfl (cCt.w0 (R := fun r => r = some (.int (nI (rv (fl13 S)).length))) fun σ9 h9 => c_list_size (h9.at (k := 44) rfl hK.2.2.2)) ?_
  rintro _ G9 D9 ⟨rfl, e9, e8⟩
  have e9 := e9.symm; subst e9; have e8 := e8.symm; subst e8
  refine C.icmp_ge (tgt := 40) dX4_forget_17 (by decide) (fun c_17 => absurd c_17 (show ¬ (13 : Int32) ≤ 3 by decide)) (fun c_17 => ?_)
  refine C.aload_nR dX4_forget_20 rfl ?_
  refine C.getS (k9 := 3) (fs := [.ref (S 15), .ref (S 17), .ref (S 18), .ref (S 19), .ref (S 20), .ref (S 21), .ref (S 22), .ref (S 23), .ref (S 24), .ref (S 25), .ref (S 26), .ref (S 27), .ref (S 28), .ref (S 29), .ref (S 30), .ref (S 44)]) dX4_forget_21 fl_X4_96 rfl hK.1 rfl ?_
  refine C.iload_n dX4_forget_24 rfl ?_
  refine C.callLS0 (k9 := 44) [.int 3] dX4_forget_25 mdJx4a65c_get_915e3 imJx4a65c_get_915e3 seJx4a65c_get_915e3 rfl hK.2.2.2 lk_X4_123 rfl rfl rfl rfl (cCt.w0 (R := fun r => r = some (.ref (S 21))) fun σ9 h9 => c_list_get (h9.at (k := 44) rfl hK.2.2.2) (show (rv (fl13 S))[3]? = some (.ref (S 21)) from rfl)) ?_
  rintro _ G9 D9 ⟨rfl, e9, e8⟩
  have e9 := e9.symm; subst e9; have e8 := e8.symm; subst e8
  refine C.castS (k9 := 21) dX4_forget_28 cl_X4_26 cs_4 kc_4 rfl fe3 ?_
  refine C.callVS0 (k9 := 21) [] dX4_forget_31 mdX3_forget imX3_forget seX3_forget kc_4 rfl fe3 lk_X4_127 rfl rfl rfl rfl (cCt.w2 (R := fun r => r = none) (i := 34) (j := 21) hS (by decide) (by decide) fun σ9 h9 => c_Field_forget (told := to3) (n := n3) (h9.at (k := 21) rfl fe3) (h9.at (k := 34) rfl ve3)) ?_
  rintro _ _ D9 ⟨rfl, rfl, e8⟩; have e8 := e8.symm; subst e8
  refine C.iinc (v := 4) (L' := [some (.ref (S 3)), some (.int 4)]) dX4_forget_34 rfl rfl (by decide) rfl rfl ?_
  refine C.goto (tgt := 9) dX4_forget_37 (by decide) ?_
  refine C.iload_n dX4_forget_9 rfl ?_
  refine C.aload_nR dX4_forget_10 rfl ?_
  refine C.getS (k9 := 3) (fs := [.ref (S 15), .ref (S 17), .ref (S 18), .ref (S 19), .ref (S 20), .ref (S 21), .ref (S 22), .ref (S 23), .ref (S 24), .ref (S 25), .ref (S 26), .ref (S 27), .ref (S 28), .ref (S 29), .ref (S 30), .ref (S 44)]) dX4_forget_11 fl_X4_96 rfl hK.1 rfl ?_
  refine C.callLS0 (k9 := 44) [] dX4_forget_14 mdJx4a65c_size_8abf5 imJx4a65c_size_8abf5 seJx4a65c_size_8abf5 rfl hK.2.2.2 lk_X4_122 rfl rfl rfl rfl (cCt.w0 (R := fun r => r = some (.int (nI (rv (fl13 S)).length))) fun σ9 h9 => c_list_size (h9.at (k := 44) rfl hK.2.2.2)) ?_
  rintro _ G9 D9 ⟨rfl, e9, e8⟩
  have e9 := e9.symm; subst e9; have e8 := e8.symm; subst e8
  refine C.icmp_ge (tgt := 40) dX4_forget_17 (by decide) (fun c_17 => absurd c_17 (show ¬ (13 : Int32) ≤ 4 by decide)) (fun c_17 => ?_)
  refine C.aload_nR dX4_forget_20 rfl ?_
  refine C.getS (k9 := 3) (fs := [.ref (S 15), .ref (S 17), .ref (S 18), .ref (S 19), .ref (S 20), .ref (S 21), .ref (S 22), .ref (S 23), .ref (S 24), .ref (S 25), .ref (S 26), .ref (S 27), .ref (S 28), .ref (S 29), .ref (S 30), .ref (S 44)]) dX4_forget_21 fl_X4_96 rfl hK.1 rfl ?_
  refine C.iload_n dX4_forget_24 rfl ?_
  refine C.callLS0 (k9 := 44) [.int 4] dX4_forget_25 mdJx4a65c_get_915e3 imJx4a65c_get_915e3 seJx4a65c_get_915e3 rfl hK.2.2.2 lk_X4_123 rfl rfl rfl rfl (cCt.w0 (R := fun r => r = some (.ref (S 22))) fun σ9 h9 => c_list_get (h9.at (k := 44) rfl hK.2.2.2) (show (rv (fl13 S))[4]? = some (.ref (S 22)) from rfl)) ?_
  rintro _ G9 D9 ⟨rfl, e9, e8⟩
  have e9 := e9.symm; subst e9; have e8 := e8.symm; subst e8
  refine C.castS (k9 := 22) dX4_forget_28 cl_X4_26 cs_4 kc_4 rfl fe4 ?_
  refine C.callVS0 (k9 := 22) [] dX4_forget_31 mdX3_forget imX3_forget seX3_forget kc_4 rfl fe4 lk_X4_127 rfl rfl rfl rfl (cCt.w2 (R := fun r => r = none) (i := 35) (j := 22) hS (by decide) (by decide) fun σ9 h9 => c_Field_forget (told := to4) (n := n4) (h9.at (k := 22) rfl fe4) (h9.at (k := 35) rfl ve4)) ?_
  rintro _ _ D9 ⟨rfl, rfl, e8⟩; have e8 := e8.symm; subst e8
  refine C.iinc (v := 5) (L' := [some (.ref (S 3)), some (.int 5)]) dX4_forget_34 rfl rfl (by decide) rfl rfl ?_
  refine C.goto (tgt := 9) dX4_forget_37 (by decide) ?_
  refine C.iload_n dX4_forget_9 rfl ?_
  refine C.aload_nR dX4_forget_10 rfl ?_
  refine C.getS (k9 := 3) (fs := [.ref (S 15), .ref (S 17), .ref (S 18), .ref (S 19), .ref (S 20), .ref (S 21), .ref (S 22), .ref (S 23), .ref (S 24), .ref (S 25), .ref (S 26), .ref (S 27), .ref (S 28), .ref (S 29), .ref (S 30), .ref (S 44)]) dX4_forget_11 fl_X4_96 rfl hK.1 rfl ?_
  refine C.callLS0 (k9 := 44) [] dX4_forget_14 mdJx4a65c_size_8abf5 imJx4a65c_size_8abf5 seJx4a65c_size_8abf5 rfl hK.2.2.2 lk_X4_122 rfl rfl rfl rfl (cCt.w0 (R := fun r => r = some (.int (nI (rv (fl13 S)).length))) fun σ9 h9 => c_list_size (h9.at (k := 44) rfl hK.2.2.2)) ?_
  rintro _ G9 D9 ⟨rfl, e9, e8⟩
  have e9 := e9.symm; subst e9; have e8 := e8.symm; subst e8
  refine C.icmp_ge (tgt := 40) dX4_forget_17 (by decide) (fun c_17 => absurd c_17 (show ¬ (13 : Int32) ≤ 5 by decide)) (fun c_17 => ?_)
  refine C.aload_nR dX4_forget_20 rfl ?_
  refine C.getS (k9 := 3) (fs := [.ref (S 15), .ref (S 17), .ref (S 18), .ref (S 19), .ref (S 20), .ref (S 21), .ref (S 22), .ref (S 23), .ref (S 24), .ref (S 25), .ref (S 26), .ref (S 27), .ref (S 28), .ref (S 29), .ref (S 30), .ref (S 44)]) dX4_forget_21 fl_X4_96 rfl hK.1 rfl ?_
  refine C.iload_n dX4_forget_24 rfl ?_
  refine C.callLS0 (k9 := 44) [.int 5] dX4_forget_25 mdJx4a65c_get_915e3 imJx4a65c_get_915e3 seJx4a65c_get_915e3 rfl hK.2.2.2 lk_X4_123 rfl rfl rfl rfl (cCt.w0 (R := fun r => r = some (.ref (S 23))) fun σ9 h9 => c_list_get (h9.at (k := 44) rfl hK.2.2.2) (show (rv (fl13 S))[5]? = some (.ref (S 23)) from rfl)) ?_
  rintro _ G9 D9 ⟨rfl, e9, e8⟩
  have e9 := e9.symm; subst e9; have e8 := e8.symm; subst e8
  refine C.castS (k9 := 23) dX4_forget_28 cl_X4_26 cs_4 kc_4 rfl fe5 ?_
  refine C.callVS0 (k9 := 23) [] dX4_forget_31 mdX3_forget imX3_forget seX3_forget kc_4 rfl fe5 lk_X4_127 rfl rfl rfl rfl (cCt.w2 (R := fun r => r = none) (i := 36) (j := 23) hS (by decide) (by decide) fun σ9 h9 => c_Field_forget (told := to5) (n := n5) (h9.at (k := 23) rfl fe5) (h9.at (k := 36) rfl ve5)) ?_
  rintro _ _ D9 ⟨rfl, rfl, e8⟩; have e8 := e8.symm; subst e8
  refine C.iinc (v := 6) (L' := [some (.ref (S 3)), some (.int 6)]) dX4_forget_34 rfl rfl (by decide) rfl rfl ?_
  refine C.goto (tgt := 9) dX4_forget_37 (by decide) ?_
  refine C.iload_n dX4_forget_9 rfl ?_
  refine C.aload_nR dX4_forget_10 rfl ?_
  refine C.getS (k9 := 3) (fs := [.ref (S 15), .ref (S 17), .ref (S 18), .ref (S 19), .ref (S 20), .ref (S 21), .ref (S 22), .ref (S 23), .ref (S 24), .ref (S 25), .ref (S 26), .ref (S 27), .ref (S 28), .ref (S 29), .ref (S 30), .ref (S 44)]) dX4_forget_11 fl_X4_96 rfl hK.1 rfl ?_
  refine C.callLS0 (k9 := 44) [] dX4_forget_14 mdJx4a65c_size_8abf5 imJx4a65c_size_8abf5 seJx4a65c_size_8abf5 rfl hK.2.2.2 lk_X4_122 rfl rfl rfl rfl (cCt.w0 (R := fun r => r = some (.int (nI (rv (fl13 S)).length))) fun σ9 h9 => c_list_size (h9.at (k := 44) rfl hK.2.2.2)) ?_
  rintro _ G9 D9 ⟨rfl, e9, e8⟩
  have e9 := e9.symm; subst e9; have e8 := e8.symm; subst e8
  refine C.icmp_ge (tgt := 40) dX4_forget_17 (by decide) (fun c_17 => absurd c_17 (show ¬ (13 : Int32) ≤ 6 by decide)) (fun c_17 => ?_)
  refine C.aload_nR dX4_forget_20 rfl ?_
  refine C.getS (k9 := 3) (fs := [.ref (S 15), .ref (S 17), .ref (S 18), .ref (S 19), .ref (S 20), .ref (S 21), .ref (S 22), .ref (S 23), .ref (S 24), .ref (S 25), .ref (S 26), .ref (S 27), .ref (S 28), .ref (S 29), .ref (S 30), .ref (S 44)]) dX4_forget_21 fl_X4_96 rfl hK.1 rfl ?_
  refine C.iload_n dX4_forget_24 rfl ?_
  refine C.callLS0 (k9 := 44) [.int 6] dX4_forget_25 mdJx4a65c_get_915e3 imJx4a65c_get_915e3 seJx4a65c_get_915e3 rfl hK.2.2.2 lk_X4_123 rfl rfl rfl rfl (cCt.w0 (R := fun r => r = some (.ref (S 24))) fun σ9 h9 => c_list_get (h9.at (k := 44) rfl hK.2.2.2) (show (rv (fl13 S))[6]? = some (.ref (S 24)) from rfl)) ?_
  rintro _ G9 D9 ⟨rfl, e9, e8⟩
  have e9 := e9.symm; subst e9; have e8 := e8.symm; subst e8
  refine C.castS (k9 := 24) dX4_forget_28 cl_X4_26 cs_4 kc_4 rfl fe6 ?_
  refine C.callVS0 (k9 := 24) [] dX4_forget_31 mdX3_forget imX3_forget seX3_forget kc_4 rfl fe6 lk_X4_127 rfl rfl rfl rfl (cCt.w2 (R := fun r => r = none) (i := 37) (j := 24) hS (by decide) (by decide) fun σ9 h9 => c_Field_forget (told := to6) (n := n6) (h9.at (k := 24) rfl fe6) (h9.at (k := 37) rfl ve6)) ?_
  rintro _ _ D9 ⟨rfl, rfl, e8⟩; have e8 := e8.symm; subst e8
  refine C.iinc (v := 7) (L' := [some (.ref (S 3)), some (.int 7)]) dX4_forget_34 rfl rfl (by decide) rfl rfl ?_
  refine C.goto (tgt := 9) dX4_forget_37 (by decide) ?_
  refine C.iload_n dX4_forget_9 rfl ?_
  refine C.aload_nR dX4_forget_10 rfl ?_
  refine C.getS (k9 := 3) (fs := [.ref (S 15), .ref (S 17), .ref (S 18), .ref (S 19), .ref (S 20), .ref (S 21), .ref (S 22), .ref (S 23), .ref (S 24), .ref (S 25), .ref (S 26), .ref (S 27), .ref (S 28), .ref (S 29), .ref (S 30), .ref (S 44)]) dX4_forget_11 fl_X4_96 rfl hK.1 rfl ?_
  refine C.callLS0 (k9 := 44) [] dX4_forget_14 mdJx4a65c_size_8abf5 imJx4a65c_size_8abf5 seJx4a65c_size_8abf5 rfl hK.2.2.2 lk_X4_122 rfl rfl rfl rfl (cCt.w0 (R := fun r => r = some (.int (nI (rv (fl13 S)).length))) fun σ9 h9 => c_list_size (h9.at (k := 44) rfl hK.2.2.2)) ?_
  rintro _ G9 D9 ⟨rfl, e9, e8⟩
  have e9 := e9.symm; subst e9; have e8 := e8.symm; subst e8
  refine C.icmp_ge (tgt := 40) dX4_forget_17 (by decide) (fun c_17 => absurd c_17 (show ¬ (13 : Int32) ≤ 7 by decide)) (fun c_17 => ?_)
  refine C.aload_nR dX4_forget_20 rfl ?_
  refine C.getS (k9 := 3) (fs := [.ref (S 15), .ref (S 17), .ref (S 18), .ref (S 19), .ref (S 20), .ref (S 21), .ref (S 22), .ref (S 23), .ref (S 24), .ref (S 25), .ref (S 26), .ref (S 27), .ref (S 28), .ref (S 29), .ref (S 30), .ref (S 44)]) dX4_forget_21 fl_X4_96 rfl hK.1 rfl ?_
  refine C.iload_n dX4_forget_24 rfl ?_
  refine C.callLS0 (k9 := 44) [.int 7] dX4_forget_25 mdJx4a65c_get_915e3 imJx4a65c_get_915e3 seJx4a65c_get_915e3 rfl hK.2.2.2 lk_X4_123 rfl rfl rfl rfl (cCt.w0 (R := fun r => r = some (.ref (S 25))) fun σ9 h9 => c_list_get (h9.at (k := 44) rfl hK.2.2.2) (show (rv (fl13 S))[7]? = some (.ref (S 25)) from rfl)) ?_
  rintro _ G9 D9 ⟨rfl, e9, e8⟩
  have e9 := e9.symm; subst e9; have e8 := e8.symm; subst e8
  refine C.castS (k9 := 25) dX4_forget_28 cl_X4_26 cs_4 kc_4 rfl fe7 ?_
  refine C.callVS0 (k9 := 25) [] dX4_forget_31 mdX3_forget imX3_forget seX3_forget kc_4 rfl fe7 lk_X4_127 rfl rfl rfl rfl (cCt.w2 (R := fun r => r = none) (i := 38) (j := 25) hS (by decide) (by decide) fun σ9 h9 => c_Field_forget (told := to7) (n := n7) (h9.at (k := 25) rfl fe7) (h9.at (k := 38) rfl ve7)) ?_
  rintro _ _ D9 ⟨rfl, rfl, e8⟩; have e8 := e8.symm; subst e8
  refine C.iinc (v := 8) (L' := [some (.ref (S 3)), some (.int 8)]) dX4_forget_34 rfl rfl (by decide) rfl rfl ?_
  refine C.goto (tgt := 9) dX4_forget_37 (by decide) ?_
  refine C.iload_n dX4_forget_9 rfl ?_
  refine C.aload_nR dX4_forget_10 rfl ?_
  refine C.getS (k9 := 3) (fs := [.ref (S 15), .ref (S 17), .ref (S 18), .ref (S 19), .ref (S 20), .ref (S 21), .ref (S 22), .ref (S 23), .ref (S 24), .ref (S 25), .ref (S 26), .ref (S 27), .ref (S 28), .ref (S 29), .ref (S 30), .ref (S 44)]) dX4_forget_11 fl_X4_96 rfl hK.1 rfl ?_
  refine C.callLS0 (k9 := 44) [] dX4_forget_14 mdJx4a65c_size_8abf5 imJx4a65c_size_8abf5 seJx4a65c_size_8abf5 rfl hK.2.2.2 lk_X4_122 rfl rfl rfl rfl (cCt.w0 (R := fun r => r = some (.int (nI (rv (fl13 S)).length))) fun σ9 h9 => c_list_size (h9.at (k := 44) rfl hK.2.2.2)) ?_
  rintro _ G9 D9 ⟨rfl, e9, e8⟩
  have e9 := e9.symm; subst e9; have e8 := e8.symm; subst e8
  refine C.icmp_ge (tgt := 40) dX4_forget_17 (by decide) (fun c_17 => absurd c_17 (show ¬ (13 : Int32) ≤ 8 by decide)) (fun c_17 => ?_)
  refine C.aload_nR dX4_forget_20 rfl ?_
  refine C.getS (k9 := 3) (fs := [.ref (S 15), .ref (S 17), .ref (S 18), .ref (S 19), .ref (S 20), .ref (S 21), .ref (S 22), .ref (S 23), .ref (S 24), .ref (S 25), .ref (S 26), .ref (S 27), .ref (S 28), .ref (S 29), .ref (S 30), .ref (S 44)]) dX4_forget_21 fl_X4_96 rfl hK.1 rfl ?_
  refine C.iload_n dX4_forget_24 rfl ?_
  refine C.callLS0 (k9 := 44) [.int 8] dX4_forget_25 mdJx4a65c_get_915e3 imJx4a65c_get_915e3 seJx4a65c_get_915e3 rfl hK.2.2.2 lk_X4_123 rfl rfl rfl rfl (cCt.w0 (R := fun r => r = some (.ref (S 26))) fun σ9 h9 => c_list_get (h9.at (k := 44) rfl hK.2.2.2) (show (rv (fl13 S))[8]? = some (.ref (S 26)) from rfl)) ?_
  rintro _ G9 D9 ⟨rfl, e9, e8⟩
  have e9 := e9.symm; subst e9; have e8 := e8.symm; subst e8
  refine C.castS (k9 := 26) dX4_forget_28 cl_X4_26 cs_4 kc_4 rfl fe8 ?_
  refine C.callVS0 (k9 := 26) [] dX4_forget_31 mdX3_forget imX3_forget seX3_forget kc_4 rfl fe8 lk_X4_127 rfl rfl rfl rfl (cCt.w2 (R := fun r => r = none) (i := 39) (j := 26) hS (by decide) (by decide) fun σ9 h9 => c_Field_forget (told := to8) (n := n8) (h9.at (k := 26) rfl fe8) (h9.at (k := 39) rfl ve8)) ?_
  rintro _ _ D9 ⟨rfl, rfl, e8⟩; have e8 := e8.symm; subst e8
  refine C.iinc (v := 9) (L' := [some (.ref (S 3)), some (.int 9)]) dX4_forget_34 rfl rfl (by decide) rfl rfl ?_
  refine C.goto (tgt := 9) dX4_forget_37 (by decide) ?_
  refine C.iload_n dX4_forget_9 rfl ?_
  refine C.aload_nR dX4_forget_10 rfl ?_
  refine C.getS (k9 := 3) (fs := [.ref (S 15), .ref (S 17), .ref (S 18), .ref (S 19), .ref (S 20), .ref (S 21), .ref (S 22), .ref (S 23), .ref (S 24), .ref (S 25), .ref (S 26), .ref (S 27), .ref (S 28), .ref (S 29), .ref (S 30), .ref (S 44)]) dX4_forget_11 fl_X4_96 rfl hK.1 rfl ?_
  refine C.callLS0 (k9 := 44) [] dX4_forget_14 mdJx4a65c_size_8abf5 imJx4a65c_size_8abf5 seJx4a65c_size_8abf5 rfl hK.2.2.2 lk_X4_122 rfl rfl rfl rfl (cCt.w0 (R := fun r => r = some (.int (nI (rv (fl13 S)).length))) fun σ9 h9 => c_list_size (h9.at (k := 44) rfl hK.2.2.2)) ?_
  rintro _ G9 D9 ⟨rfl, e9, e8⟩
  have e9 := e9.symm; subst e9; have e8 := e8.symm; subst e8
  refine C.icmp_ge (tgt := 40) dX4_forget_17 (by decide) (fun c_17 => absurd c_17 (show ¬ (13 : Int32) ≤ 9 by decide)) (fun c_17 => ?_)
  refine C.aload_nR dX4_forget_20 rfl ?_
  refine C.getS (k9 := 3) (fs := [.ref (S 15), .ref (S 17), .ref (S 18), .ref (S 19), .ref (S 20), .ref (S 21), .ref (S 22), .ref (S 23), .ref (S 24), .ref (S 25), .ref (S 26), .ref (S 27), .ref (S 28), .ref (S 29), .ref (S 30), .ref (S 44)]) dX4_forget_21 fl_X4_96 rfl hK.1 rfl ?_
  refine C.iload_n dX4_forget_24 rfl ?_
  refine C.callLS0 (k9 := 44) [.int 9] dX4_forget_25 mdJx4a65c_get_915e3 imJx4a65c_get_915e3 seJx4a65c_get_915e3 rfl hK.2.2.2 lk_X4_123 rfl rfl rfl rfl (cCt.w0 (R := fun r => r = some (.ref (S 27))) fun σ9 h9 => c_list_get (h9.at (k := 44) rfl hK.2.2.2) (show (rv (fl13 S))[9]? = some (.ref (S 27)) from rfl)) ?_
  rintro _ G9 D9 ⟨rfl, e9, e8⟩
  have e9 := e9.symm; subst e9; have e8 := e8.symm; subst e8
  refine C.castS (k9 := 27) dX4_forget_28 cl_X4_26 cs_4 kc_4 rfl fe9 ?_
  refine C.callVS0 (k9 := 27) [] dX4_forget_31 mdX3_forget imX3_forget seX3_forget kc_4 rfl fe9 lk_X4_127 rfl rfl rfl rfl (cCt.w2 (R := fun r => r = none) (i := 40) (j := 27) hS (by decide) (by decide) fun σ9 h9 => c_Field_forget (told := to9) (n := n9) (h9.at (k := 27) rfl fe9) (h9.at (k := 40) rfl ve9)) ?_
  rintro _ _ D9 ⟨rfl, rfl, e8⟩; have e8 := e8.symm; subst e8
  refine C.iinc (v := 10) (L' := [some (.ref (S 3)), some (.int 10)]) dX4_forget_34 rfl rfl (by decide) rfl rfl ?_
  refine C.goto (tgt := 9) dX4_forget_37 (by decide) ?_
  refine C.iload_n dX4_forget_9 rfl ?_
  refine C.aload_nR dX4_forget_10 rfl ?_
  refine C.getS (k9 := 3) (fs := [.ref (S 15), .ref (S 17), .ref (S 18), .ref (S 19), .ref (S 20), .ref (S 21), .ref (S 22), .ref (S 23), .ref (S 24), .ref (S 25), .ref (S 26), .ref (S 27), .ref (S 28), .ref (S 29), .ref (S 30), .ref (S 44)]) dX4_forget_11 fl_X4_96 rfl hK.1 rfl ?_
  refine C.callLS0 (k9 := 44) [] dX4_forget_14 mdJx4a65c_size_8abf5 imJx4a65c_size_8abf5 seJx4a65c_size_8abf5 rfl hK.2.2.2 lk_X4_122 rfl rfl rfl rfl (cCt.w0 (R := fun r => r = some (.int (nI (rv (fl13 S)).length))) fun σ9 h9 => c_list_size (h9.at (k := 44) rfl hK.2.2.2)) ?_
  rintro _ G9 D9 ⟨rfl, e9, e8⟩
  have e9 := e9.symm; subst e9; have e8 := e8.symm; subst e8
  refine C.icmp_ge (tgt := 40) dX4_forget_17 (by decide) (fun c_17 => absurd c_17 (show ¬ (13 : Int32) ≤ 10 by decide)) (fun c_17 => ?_)
  refine C.aload_nR dX4_forget_20 rfl ?_
  refine C.getS (k9 := 3) (fs := [.ref (S 15), .ref (S 17), .ref (S 18), .ref (S 19), .ref (S 20), .ref (S 21), .ref (S 22), .ref (S 23), .ref (S 24), .ref (S 25), .ref (S 26), .ref (S 27), .ref (S 28), .ref (S 29), .ref (S 30), .ref (S 44)]) dX4_forget_21 fl_X4_96 rfl hK.1 rfl ?_
  refine C.iload_n dX4_forget_24 rfl ?_
  refine C.callLS0 (k9 := 44) [.int 10] dX4_forget_25 mdJx4a65c_get_915e3 imJx4a65c_get_915e3 seJx4a65c_get_915e3 rfl hK.2.2.2 lk_X4_123 rfl rfl rfl rfl (cCt.w0 (R := fun r => r = some (.ref (S 28))) fun σ9 h9 => c_list_get (h9.at (k := 44) rfl hK.2.2.2) (show (rv (fl13 S))[10]? = some (.ref (S 28)) from rfl)) ?_
  rintro _ G9 D9 ⟨rfl, e9, e8⟩
  have e9 := e9.symm; subst e9; have e8 := e8.symm; subst e8
  refine C.castS (k9 := 28) dX4_forget_28 cl_X4_26 cs_4 kc_4 rfl fe10 ?_
  refine C.callVS0 (k9 := 28) [] dX4_forget_31 mdX3_forget imX3_forget seX3_forget kc_4 rfl fe10 lk_X4_127 rfl rfl rfl rfl (cCt.w2 (R := fun r => r = none) (i := 41) (j := 28) hS (by decide) (by decide) fun σ9 h9 => c_Field_forget (told := to10) (n := n10) (h9.at (k := 28) rfl fe10) (h9.at (k := 41) rfl ve10)) ?_
  rintro _ _ D9 ⟨rfl, rfl, e8⟩; have e8 := e8.symm; subst e8
  refine C.iinc (v := 11) (L' := [some (.ref (S 3)), some (.int 11)]) dX4_forget_34 rfl rfl (by decide) rfl rfl ?_
  refine C.goto (tgt := 9) dX4_forget_37 (by decide) ?_
  refine C.iload_n dX4_forget_9 rfl ?_
  refine C.aload_nR dX4_forget_10 rfl ?_
  refine C.getS (k9 := 3) (fs := [.ref (S 15), .ref (S 17), .ref (S 18), .ref (S 19), .ref (S 20), .ref (S 21), .ref (S 22), .ref (S 23), .ref (S 24), .ref (S 25), .ref (S 26), .ref (S 27), .ref (S 28), .ref (S 29), .ref (S 30), .ref (S 44)]) dX4_forget_11 fl_X4_96 rfl hK.1 rfl ?_
  refine C.callLS0 (k9 := 44) [] dX4_forget_14 mdJx4a65c_size_8abf5 imJx4a65c_size_8abf5 seJx4a65c_size_8abf5 rfl hK.2.2.2 lk_X4_122 rfl rfl rfl rfl (cCt.w0 (R := fun r => r = some (.int (nI (rv (fl13 S)).length))) fun σ9 h9 => c_list_size (h9.at (k := 44) rfl hK.2.2.2)) ?_
  rintro _ G9 D9 ⟨rfl, e9, e8⟩
  have e9 := e9.symm; subst e9; have e8 := e8.symm; subst e8
  refine C.icmp_ge (tgt := 40) dX4_forget_17 (by decide) (fun c_17 => absurd c_17 (show ¬ (13 : Int32) ≤ 11 by decide)) (fun c_17 => ?_)
  refine C.aload_nR dX4_forget_20 rfl ?_
  refine C.getS (k9 := 3) (fs := [.ref (S 15), .ref (S 17), .ref (S 18), .ref (S 19), .ref (S 20), .ref (S 21), .ref (S 22), .ref (S 23), .ref (S 24), .ref (S 25), .ref (S 26), .ref (S 27), .ref (S 28), .ref (S 29), .ref (S 30), .ref (S 44)]) dX4_forget_21 fl_X4_96 rfl hK.1 rfl ?_
  refine C.iload_n dX4_forget_24 rfl ?_
  refine C.callLS0 (k9 := 44) [.int 11] dX4_forget_25 mdJx4a65c_get_915e3 imJx4a65c_get_915e3 seJx4a65c_get_915e3 rfl hK.2.2.2 lk_X4_123 rfl rfl rfl rfl (cCt.w0 (R := fun r => r = some (.ref (S 29))) fun σ9 h9 => c_list_get (h9.at (k := 44) rfl hK.2.2.2) (show (rv (fl13 S))[11]? = some (.ref (S 29)) from rfl)) ?_
  rintro _ G9 D9 ⟨rfl, e9, e8⟩
  have e9 := e9.symm; subst e9; have e8 := e8.symm; subst e8
  refine C.castS (k9 := 29) dX4_forget_28 cl_X4_26 cs_4 kc_4 rfl fe11 ?_
  refine C.callVS0 (k9 := 29) [] dX4_forget_31 mdX3_forget imX3_forget seX3_forget kc_4 rfl fe11 lk_X4_127 rfl rfl rfl rfl (cCt.w2 (R := fun r => r = none) (i := 42) (j := 29) hS (by decide) (by decide) fun σ9 h9 => c_Field_forget (told := to11) (n := n11) (h9.at (k := 29) rfl fe11) (h9.at (k := 42) rfl ve11)) ?_
  rintro _ _ D9 ⟨rfl, rfl, e8⟩; have e8 := e8.symm; subst e8
  refine C.iinc (v := 12) (L' := [some (.ref (S 3)), some (.int 12)]) dX4_forget_34 rfl rfl (by decide) rfl rfl ?_
  refine C.goto (tgt := 9) dX4_forget_37 (by decide) ?_
  refine C.iload_n dX4_forget_9 rfl ?_
  refine C.aload_nR dX4_forget_10 rfl ?_
  refine C.getS (k9 := 3) (fs := [.ref (S 15), .ref (S 17), .ref (S 18), .ref (S 19), .ref (S 20), .ref (S 21), .ref (S 22), .ref (S 23), .ref (S 24), .ref (S 25), .ref (S 26), .ref (S 27), .ref (S 28), .ref (S 29), .ref (S 30), .ref (S 44)]) dX4_forget_11 fl_X4_96 rfl hK.1 rfl ?_
  refine C.callLS0 (k9 := 44) [] dX4_forget_14 mdJx4a65c_size_8abf5 imJx4a65c_size_8abf5 seJx4a65c_size_8abf5 rfl hK.2.2.2 lk_X4_122 rfl rfl rfl rfl (cCt.w0 (R := fun r => r = some (.int (nI (rv (fl13 S)).length))) fun σ9 h9 => c_list_size (h9.at (k := 44) rfl hK.2.2.2)) ?_
  rintro _ G9 D9 ⟨rfl, e9, e8⟩
  have e9 := e9.symm; subst e9; have e8 := e8.symm; subst e8
  refine C.icmp_ge (tgt := 40) dX4_forget_17 (by decide) (fun c_17 => absurd c_17 (show ¬ (13 : Int32) ≤ 12 by decide)) (fun c_17 => ?_)
  refine C.aload_nR dX4_forget_20 rfl ?_
  refine C.getS (k9 := 3) (fs := [.ref (S 15), .ref (S 17), .ref (S 18), .ref (S 19), .ref (S 20), .ref (S 21), .ref (S 22), .ref (S 23), .ref (S 24), .ref (S 25), .ref (S 26), .ref (S 27), .ref (S 28), .ref (S 29), .ref (S 30), .ref (S 44)]) dX4_forget_21 fl_X4_96 rfl hK.1 rfl ?_
  refine C.iload_n dX4_forget_24 rfl ?_
  refine C.callLS0 (k9 := 44) [.int 12] dX4_forget_25 mdJx4a65c_get_915e3 imJx4a65c_get_915e3 seJx4a65c_get_915e3 rfl hK.2.2.2 lk_X4_123 rfl rfl rfl rfl (cCt.w0 (R := fun r => r = some (.ref (S 30))) fun σ9 h9 => c_list_get (h9.at (k := 44) rfl hK.2.2.2) (show (rv (fl13 S))[12]? = some (.ref (S 30)) from rfl)) ?_
  rintro _ G9 D9 ⟨rfl, e9, e8⟩
  have e9 := e9.symm; subst e9; have e8 := e8.symm; subst e8
  refine C.castS (k9 := 30) dX4_forget_28 cl_X4_26 cs_4 kc_4 rfl fe12 ?_
  refine C.callVS0 (k9 := 30) [] dX4_forget_31 mdX3_forget imX3_forget seX3_forget kc_4 rfl fe12 lk_X4_127 rfl rfl rfl rfl (cCt.w2 (R := fun r => r = none) (i := 43) (j := 30) hS (by decide) (by decide) fun σ9 h9 => c_Field_forget (told := to12) (n := n12) (h9.at (k := 30) rfl fe12) (h9.at (k := 43) rfl ve12)) ?_
  rintro _ _ D9 ⟨rfl, rfl, e8⟩; have e8 := e8.symm; subst e8
  refine C.iinc (v := 13) (L' := [some (.ref (S 3)), some (.int 13)]) dX4_forget_34 rfl rfl (by decide) rfl rfl ?_
  refine C.goto (tgt := 9) dX4_forget_37 (by decide) ?_
  refine C.iload_n dX4_forget_9 rfl ?_
  refine C.aload_nR dX4_forget_10 rfl ?_
  refine C.getS (k9 := 3) (fs := [.ref (S 15), .ref (S 17), .ref (S 18), .ref (S 19), .ref (S 20), .ref (S 21), .ref (S 22), .ref (S 23), .ref (S 24), .ref (S 25), .ref (S 26), .ref (S 27), .ref (S 28), .ref (S 29), .ref (S 30), .ref (S 44)]) dX4_forget_11 fl_X4_96 rfl hK.1 rfl ?_
  refine C.callLS0 (k9 := 44) [] dX4_forget_14 mdJx4a65c_size_8abf5 imJx4a65c_size_8abf5 seJx4a65c_size_8abf5 rfl hK.2.2.2 lk_X4_122 rfl rfl rfl rfl (cCt.w0 (R := fun r => r = some (.int (nI (rv (fl13 S)).length))) fun σ9 h9 => c_list_size (h9.at (k := 44) rfl hK.2.2.2)) ?_
  rintro _ G9 D9 ⟨rfl, e9, e8⟩
  have e9 := e9.symm; subst e9; have e8 := e8.symm; subst e8
  refine C.icmp_ge (tgt := 40) dX4_forget_17 (by decide) (fun c_17 => ?_) (fun c_17 => absurd (show (13 : Int32) ≤ 13 by decide) c_17)
  refine C.vret dX4_forget_40 rfl ?_
  exact ⟨rfl, rfl, rfl⟩

theorem k_forget {Λ : kL} {S : Nat → Nat} {G : Nat → kc} {D : kh} (hS : cInj S) (hK : cK S G) (hF : cF Λ S G) : cCt Λ mX4_forget 0 0 S [.ref (S 3)] G D (fun r G' D' => r = none ∧ ffG Λ S G' [] vf0 ∧ (∀ k, ¬ (k = 15 ∨ (18 ≤ k ∧ k < 44)) → G' k = G k) ∧ D' = D) := by
  obtain ⟨⟨fr, h16⟩, ⟨n15, hn15, h15⟩, ⟨b17, n17, hn17, h17⟩, ⟨to0, b0, n0, fe0, ve0, l0⟩, ⟨to1, b1, n1, fe1, ve1, l1⟩, ⟨to2, b2, n2, fe2, ve2, l2⟩, ⟨to3, b3, n3, fe3, ve3, l3⟩, ⟨to4, b4, n4, fe4, ve4, l4⟩, ⟨to5, b5, n5, fe5, ve5, l5⟩, ⟨to6, b6, n6, fe6, ve6, l6⟩, ⟨to7, b7, n7, fe7, ve7, l7⟩, ⟨to8, b8, n8, fe8, ve8, l8⟩, ⟨to9, b9, n9, fe9, ve9, l9⟩, ⟨to10, b10, n10, fe10, ve10, l10⟩, ⟨to11, b11, n11, fe11, ve11, l11⟩, ⟨to12, b12, n12, fe12, ve12, l12⟩⟩ := hF
  refine (k_forget0 hS hK h16 h15 fe0 ve0 fe1 ve1 fe2 ve2 fe3 ve3 fe4 ve4 fe5 ve5 fe6 ve6 fe7 ve7 fe8 ve8 fe9 ve9 fe10 ve10 fe11 ve11 fe12 ve12).mono fun r G' D' ⟨e1, e2, e3⟩ => ?_
  subst e1; subst e2
  exact ⟨rfl, fgG_ff h16 ⟨b17, n17, hn17, h17⟩ (Nat.le_trans (Nat.le_add_right _ _) l0) (Nat.le_trans (Nat.le_add_right _ _) l1) (Nat.le_trans (Nat.le_add_right _ _) l2) (Nat.le_trans (Nat.le_add_right _ _) l3) (Nat.le_trans (Nat.le_add_right _ _) l4) (Nat.le_trans (Nat.le_add_right _ _) l5) (Nat.le_trans (Nat.le_add_right _ _) l6) (Nat.le_trans (Nat.le_add_right _ _) l7) (Nat.le_trans (Nat.le_add_right _ _) l8) (Nat.le_trans (Nat.le_add_right _ _) l9) (Nat.le_trans (Nat.le_add_right _ _) l10) (Nat.le_trans (Nat.le_add_right _ _) l11) (Nat.le_trans (Nat.le_add_right _ _) l12), fun k hk => fgG_n hk, e3⟩
