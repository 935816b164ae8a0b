/-! the class: the FORM -/
theorem C.aconst_null {Λ : kL} {X : kX} {μ : kMi} {mc ms : Nat} {S : Nat → Nat} {Q : Option Value → (Nat → kc) → kh → Prop} {bc bs : Nat} {G : Nat → kc} {D : kh} {pc : Nat} {L : List (Option Value)} {st : List Value} (hd : decode μ.2.1 pc = .ok (.aconst_null, 1)) (k : C Λ X μ mc ms S Q bc bs G D (pc + 1) L (.null :: st)) : C Λ X μ mc ms S Q bc bs G D pc L st := fun hS D0 σ0 σ h1 h2 => J.aconst_null hd (k hS D0 σ0 σ h1 h2)
theorem gW_id {S : Nat → Nat} {G : Nat → kc} {k j cap n : Nat} {f : Nat → Int32} (h1 : G k = oT (S j) (nI 0) (nI n)) (h2 : G j = aB cap f) : gW S G k j cap f n = G := by
  rw [gW, ← h2, updG_id, ← h1, updG_id]
theorem hexn : ∀ j, j < 256 → hexd (nI j) = hexd (b8 (nI j)) ∧ (hexd (nI j) < 0 → hexd (nI j) = -1) := by decide +kernel
theorem v_atg {Λ : kL} {σ : kh} {t : Nat} {l : List Int32} (h : tx σ t l) (j : Nat) (hj : j < 2 ^ 31) : jCt Λ mX9_at 0 0 [.ref t, .int (nI j)] σ (fun v σ' => v = some (.int (if j < l.length then l.getD j 0 &&& 255 else -1)) ∧ σ' = σ) := by
  obtain ⟨r, b, cap, f, h1, h2, h3, h4, h5, h6⟩ := h
  have h9 := c_Text_at (Λ := Λ) h1 h2 h3 h4 (nI j)
  by_cases hl : j < l.length
  · rw [tat_in hl (by omega), tl_bs.mp h5 j hl] at h9
    rw [if_pos hl]; exact h9
  · rw [tat_out (by omega) hj] at h9
    rw [if_neg hl]; exact h9
theorem hx_at {v : List Int32} (hb : bts v) (j : Nat) : hexd (if j < v.length then v.getD j 0 &&& 255 else -1) = hexd (gD v j) ∧ (hexd (gD v j) < 0 → hexd (gD v j) = -1) := by
  by_cases h : j < v.length
  · rw [if_pos h]
    obtain ⟨n, hn, e1, e2⟩ := byt_n _ (bts_at hb h)
    have h9 := hexn n hn
    rw [e2, gD, e1]
    exact ⟨h9.1, fun q => by rw [← h9.1] at q ⊢; exact h9.2 q⟩
  · rw [if_neg h, gD, List.getD_eq_getElem?_getD, List.getElem?_eq_none (by omega)]
    exact ⟨by decide, fun _ => by decide⟩
/-- what stands behind a part is no sign of hexadecimal -/
def nhx (v : List Int32) (e : Nat) : Prop := e = v.length ∨ gD v e = 38 ∨ gD v e = 61
theorem nhx.neg {v : List Int32} {e : Nat} (h : nhx v e) : hexd (gD v e) < 0 := by
  rcases h with h | h | h
  · rw [gD, List.getD_eq_getElem?_getD, List.getElem?_eq_none (by omega)]; decide
  · rw [h]; decide
  · rw [h]; decide
theorem vis_b8 : ∀ j, j < 256 → visb (nI j) = true → b8 (nI j) = nI j := by decide +kernel
/-- how the class reads a FORM: acc is what is decoded so far -/
def ff1 (S : Nat → Nat) (G : Nat → kc) (acc : List Int32) (o : Option (List Int32)) (k j nm : Nat) : Prop := G k = oFi nm (S j) o.isSome ∧ match o with
  | none => ∃ b, b ≤ 2000 ∧ G j = oT (S 16) (nI b) (nI 0)
  | some v => ∃ b, b + v.length ≤ acc.length ∧ G j = oT (S 16) (nI b) (nI v.length) ∧ (acc.drop b).take v.length = v ∧ bts v
theorem ff1.grow {S : Nat → Nat} {G G' : Nat → kc} {acc l : List Int32} {o : Option (List Int32)} {k j nm : Nat} (h : ff1 S G acc o k j nm) (hk : G' k = G k) (hj : G' j = G j) : ff1 S G' (acc ++ l) o k j nm := by
  refine ⟨hk.trans h.1, ?_⟩
  have h2 := h.2
  cases o with
  | none => obtain ⟨b, h3, h4⟩ := h2; exact ⟨b, h3, hj.trans h4⟩
  | some v =>
    obtain ⟨b, h3, h4, h5, h6⟩ := h2
    refine ⟨b, by rw [List.length_append]; omega, hj.trans h4, ?_, h6⟩
    rw [List.drop_append_of_le_length (by omega), List.take_append_of_le_length (by rw [List.length_drop]; omega)]
    exact h5
theorem ff1.cf {S : Nat → Nat} {G : Nat → kc} {acc : List Int32} {o : Option (List Int32)} {k j nm : Nat} (h : ff1 S G acc o k j nm) (ha : acc.length ≤ 2000) : cf1 S G k j nm := by
  obtain ⟨h1, h2⟩ := h
  cases o with
  | none => obtain ⟨b, h3, h4⟩ := h2; exact ⟨_, b, 0, h1, h4, by omega⟩
  | some v => obtain ⟨b, h3, h4, -⟩ := h2; exact ⟨_, b, v.length, h1, h4, by omega⟩
theorem ff1.ts {S : Nat → Nat} {G : Nat → kc} {acc : List Int32} {g : fvs} {i k j nm : Nat} (h : ff1 S G acc (g i) k j nm) (ha : tO S G 15 16 2000 acc) : tS S G j 16 2000 (fv g i) := by
  obtain ⟨h1, h2⟩ := h
  obtain ⟨f, a1, a2, a3, a4, a5, a6⟩ := ha
  rw [fv]
  cases e : g i with
  | none =>
    rw [e] at h2
    obtain ⟨b, h3, h4⟩ := h2
    exact ⟨b, f, h4, a2, by show b + 0 ≤ 2000; omega, by decide, rfl, bts_nil⟩
  | some v =>
    rw [e] at h2
    obtain ⟨b, h3, h4, h5, h6⟩ := h2
    refine ⟨b, f, h4, a2, by show b + v.length ≤ 2000; omega, by decide, ?_, h6⟩
    have h9 := tl_dt (b := 0) (g := b) (m := v.length) a5 (by omega)
    rw [Nat.zero_add, h5] at h9
    exact h9
theorem hits {f : Nat → Int32} {n p i : Nat} (h : atI f 38 p n = atI f 38 i n) (hi : i < n) (hc : f i = 38) : atI f 38 p n = i := h.trans (atI_t hi hc)
theorem atI_n {f : Nat → Int32} {c : Int32} {n : Nat} : atI f c n n = n := atI_end (Nat.le_refl n)

def ffA (Λ : kL) (S : Nat → Nat) (G : Nat → kc) (acc : List Int32) (g : fvs) : Prop := ff1 S G acc (g 0) 18 31 (kSa Λ RX4 28) ∧ ff1 S G acc (g 1) 19 32 (kSa Λ RX4 37) ∧ ff1 S G acc (g 2) 20 33 (kSa Λ RX4 42) ∧ ff1 S G acc (g 3) 21 34 (kSa Λ RX4 47) ∧ ff1 S G acc (g 4) 22 35 (kSa Λ RX4 51) ∧ ff1 S G acc (g 5) 23 36 (kSa Λ RX4 55) ∧ ff1 S G acc (g 6) 24 37 (kSa Λ RX4 60) ∧ ff1 S G acc (g 7) 25 38 (kSa Λ RX4 65) ∧ ff1 S G acc (g 8) 26 39 (kSa Λ RX4 70) ∧ ff1 S G acc (g 9) 27 40 (kSa Λ RX4 74) ∧ ff1 S G acc (g 10) 28 41 (kSa Λ RX4 79) ∧ ff1 S G acc (g 11) 29 42 (kSa Λ RX4 84) ∧ ff1 S G acc (g 12) 30 43 (kSa Λ RX4 89)
def ffG (Λ : kL) (S : Nat → Nat) (G : Nat → kc) (acc : List Int32) (g : fvs) : Prop := tO S G 15 16 2000 acc ∧ (∃ b n, b + n ≤ 2000 ∧ G 17 = oT (S 16) (nI b) (nI n)) ∧ ffA Λ S G acc g
theorem ffG.cG {Λ : kL} {S : Nat → Nat} {G : Nat → kc} {acc : List Int32} {g : fvs} (h : ffG Λ S G acc g) : cG Λ S G g := by
  obtain ⟨h1, h2, f0, f1, f2, f3, f4, f5, f6, f7, f8, f9, f10, f11, f12⟩ := h
  have h1' := h1
  obtain ⟨f, a1, a2, a3, a4, a5, a6⟩ := h1'
  exact ⟨⟨⟨f, a2⟩, ⟨acc.length, a3, a1⟩, h2, f0.cf a3, f1.cf a3, f2.cf a3, f3.cf a3, f4.cf a3, f5.cf a3, f6.cf a3, f7.cf a3, f8.cf a3, f9.cf a3, f10.cf a3, f11.cf a3, f12.cf a3⟩, f0.ts h1, f1.ts h1, f2.ts h1, f3.ts h1, f4.ts h1, f5.ts h1, f6.ts h1, f7.ts h1, f8.ts h1, f9.ts h1, f10.ts h1, f11.ts h1, f12.ts h1⟩
theorem ffA.grow {Λ : kL} {S : Nat → Nat} {G G' : Nat → kc} {acc : List Int32} {g : fvs} (h : ffA Λ S G acc g) (l : List Int32) (he : ∀ k, 18 ≤ k → k < 44 → G' k = G k) : ffA Λ S G' (acc ++ l) g := by
  obtain ⟨f0, f1, f2, f3, f4, f5, f6, f7, f8, f9, f10, f11, f12⟩ := h
  exact ⟨f0.grow (he 18 (by decide) (by decide)) (he 31 (by decide) (by decide)), f1.grow (he 19 (by decide) (by decide)) (he 32 (by decide) (by decide)), f2.grow (he 20 (by decide) (by decide)) (he 33 (by decide) (by decide)), f3.grow (he 21 (by decide) (by decide)) (he 34 (by decide) (by decide)), f4.grow (he 22 (by decide) (by decide)) (he 35 (by decide) (by decide)), f5.grow (he 23 (by decide) (by decide)) (he 36 (by decide) (by decide)), f6.grow (he 24 (by decide) (by decide)) (he 37 (by decide) (by decide)), f7.grow (he 25 (by decide) (by decide)) (he 38 (by decide) (by decide)), f8.grow (he 26 (by decide) (by decide)) (he 39 (by decide) (by decide)), f9.grow (he 27 (by decide) (by decide)) (he 40 (by decide) (by decide)), f10.grow (he 28 (by decide) (by decide)) (he 41 (by decide) (by decide)), f11.grow (he 29 (by decide) (by decide)) (he 42 (by decide) (by decide)), f12.grow (he 30 (by decide) (by decide)) (he 43 (by decide) (by decide))⟩

