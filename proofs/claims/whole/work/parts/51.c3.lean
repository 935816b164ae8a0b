/-! the class: Texts wherever they are -/
theorem C.callVX0 {Λ : kL} {X : kX} {μ : kMi} {mc ms : Nat} {S : Nat → Nat} {Q : Option Value → (Nat → kc) → kh → Prop} {bc bs : Nat} {G : Nat → kc} {D : kh} {pc : Nat} {L : List (Option Value)} {st : List Value} {ν : kMi} {ix n b : Nat} {rest : List Value} {Q' : Option Value → (Nat → kc) → kh → Prop} (As : List Value) (hd : decode μ.2.1 pc = .ok (.invokevirtual ix, 3)) (hm : kMd ν n) {C9 : String} {T : u_T} {N ci : Nat} (hi : Cond.instanceMethod ν.1 ∈ lw_tbl) (hsel : Cond.selects C9 ν.1 ν.1 ∈ lw_tbl) {ty : Nat → FieldType} (hcl : kCls ci C9 T N ty) (hb : ∀ σ, cHas σ S G D → ∃ fs, σ b = some (.inr (ci, fs))) (hlk : kLk μ.1.cls ix ν.1) (hfr : kFit ν μ = true) (hn : As.length = n) (hst : As.reverse ++ .ref b :: rest = st) (hc : kCat rest = true) (hct : cCt Λ ν 0 0 S (.ref b :: As) G D Q') (kk : ∀ (r : Option Value) (G' : Nat → kc) (D' : kh), Q' r G' D' → C Λ X μ mc ms S Q bc bs G' D' (pc + 3) L (r.toList ++ rest)) : C Λ X μ mc ms S Q bc bs G D pc L st := fun hS D0 σ0 σ h1 h2 => by
  obtain ⟨fs, hf⟩ := hb σ h2
  exact J.callV0 As hd hm hi hsel hcl hf hlk hfr hn hst hc (hct σ h2) fun r σ' ⟨G', D', hq, h3, h4⟩ => kk r G' D' hq hS D0 σ0 σ' (h1.tr h4 h3.2.2) h3
theorem C.callVX {Λ : kL} {X : kX} {μ : kMi} {mc ms : Nat} {S : Nat → Nat} {Q : Option Value → (Nat → kc) → kh → Prop} {bc bs : Nat} {G : Nat → kc} {D : kh} {pc : Nat} {L : List (Option Value)} {st : List Value} {ν : kMi} {ix n b c1 s1 : Nat} {rest : List Value} {Q' : Option Value → (Nat → kc) → kh → Prop} (As : List Value) (hd : decode μ.2.1 pc = .ok (.invokevirtual ix, 3)) (hm : kMd ν n) {C9 : String} {T : u_T} {N ci : Nat} (hi : Cond.instanceMethod ν.1 ∈ lw_tbl) (hsel : Cond.selects C9 ν.1 ν.1 ∈ lw_tbl) {ty : Nat → FieldType} (hcl : kCls ci C9 T N ty) (hb : ∀ σ, cHas σ S G D → ∃ fs, σ b = some (.inr (ci, fs))) (hlk : kLk μ.1.cls ix ν.1) (hfr : kFit ν μ = true) (hn : As.length = n) (hst : As.reverse ++ .ref b :: rest = st) (hc : kCat rest = true) (hct : cCt Λ ν c1 s1 S (.ref b :: As) G D Q') (kk : ∀ (r : Option Value) (G' : Nat → kc) (D' : kh), Q' r G' D' → C Λ X μ mc ms S Q bc bs G' D' (pc + 3) L (r.toList ++ rest)) : C Λ X μ mc ms S Q (bc + c1) (bs + s1) G D pc L st := fun hS D0 σ0 σ h1 h2 => by
  obtain ⟨fs, hf⟩ := hb σ h2
  exact J.callV As hd hm hi hsel hcl hf hlk hfr hn hst hc (hct σ h2) fun r σ' ⟨G', D', hq, h3, h4⟩ => kk r G' D' hq hS D0 σ0 σ' (h1.tr h4 h3.2.2) h3
/-- a Text that was made, or a VALUE of the FORM -/
def tV (S : Nat → Nat) (G : Nat → kc) (D : kh) (u : Nat) (x : List Int32) : Prop := tx D u x ∨ ∃ k, 31 ≤ k ∧ k < 44 ∧ u = S k ∧ tS S G k 16 2000 x
theorem tS.v {S : Nat → Nat} {G : Nat → kc} {D : kh} {k : Nat} {x : List Int32} (h : tS S G k 16 2000 x) (a : 31 ≤ k) (b : k < 44) : tV S G D (S k) x := Or.inr ⟨k, a, b, rfl, h⟩
theorem tS.keep {S : Nat → Nat} {G G' : Nat → kc} {k j cap : Nat} {x : List Int32} (h : tS S G k j cap x) (h1 : G' k = G k) (h2 : G' j = G j) : tS S G' k j cap x := by
  obtain ⟨b, f, a1, a2, a3⟩ := h
  exact ⟨b, f, h1.trans a1, h2.trans a2, a3⟩
theorem tV.keep {S : Nat → Nat} {G G' : Nat → kc} {D : kh} {u : Nat} {x : List Int32} (h : tV S G D u x) (he : ∀ k, 15 ≤ k → k < 44 → G' k = G k) : tV S G' D u x := by
  rcases h with h | ⟨k, a, b, e, h⟩
  · exact Or.inl h
  · exact Or.inr ⟨k, a, b, e, h.keep (he k (by omega) b) (he 16 (by decide) (by decide))⟩
theorem tV.mono {S : Nat → Nat} {G : Nat → kc} {D D' : kh} {u : Nat} {x : List Int32} (h : tV S G D u x) (hd : dm D D') : tV S G D' u x := by
  rcases h with h | h
  · exact Or.inl (h.mono hd)
  · exact Or.inr h
theorem tV.tx {S : Nat → Nat} {G : Nat → kc} {D σ : kh} {u : Nat} {x : List Int32} (h : tV S G D u x) (h9 : cHas σ S G D) : tx σ u x := by
  rcases h with h | ⟨k, a, b, e, h⟩
  · exact h.mono h9.2.1
  · rw [e]; exact h.tx h9 (Nat.ble_eq_true_of_le (show k < 51 by omega)) rfl
theorem tV.ob {S : Nat → Nat} {G : Nat → kc} {D : kh} {u : Nat} {x : List Int32} (h : tV S G D u x) : ∀ σ, cHas σ S G D → ∃ fs, σ u = some (.inr (10, fs)) := fun σ h9 => by
  obtain ⟨r, b, cap, f, a1, -⟩ := h.tx h9
  exact ⟨_, a1⟩
theorem tV.len {S : Nat → Nat} {G : Nat → kc} {D σ : kh} {u : Nat} {x : List Int32} (h : tV S G D u x) (h9 : cHas σ S G D) : x.length ≤ 100000 := by
  obtain ⟨r, b, cap, f, a1, a2, a3, a4, -⟩ := h.tx h9
  omega
theorem tV.le {S : Nat → Nat} {G : Nat → kc} {D : kh} {u : Nat} {x : List Int32} (h : tV S G D u x) : x.length ≤ 100000 := by
  rcases h with ⟨r, b, cap, f, a1, a2, a3, a4, -⟩ | ⟨k, a, b, e, _, _, _, _, h3, h4, -⟩ <;> omega
theorem tV.bt {S : Nat → Nat} {G : Nat → kc} {D : kh} {u : Nat} {x : List Int32} (h : tV S G D u x) : bts x := by
  rcases h with ⟨_, _, _, _, _, _, _, _, _, h⟩ | ⟨_, _, _, _, _, _, _, _, _, _, _, h⟩ <;> exact h
theorem tV.u {S : Nat → Nat} {G : Nat → kc} {D : kh} {u : Nat} {x : List Int32} (hS : cInj S) (h : tV S G D u x) {k j : Nat} (hk : k < 15) (hj : j < 15) : ∀ σ, cHas σ S G D → ∃ (r b c9 : Nat) (f : Nat → Int32), σ u = some (oT r (nI b) (nI x.length)) ∧ σ r = some (aB c9 f) ∧ b + x.length ≤ c9 ∧ c9 ≤ 100000 ∧ tl f b x.length = x ∧ bts x ∧ u ≠ S k ∧ r ≠ S j := by
  rcases h with h | ⟨k2, a, b, e, h⟩
  · exact h.u (by omega) (by omega)
  · rw [e]
    exact h.u hS (Nat.ble_eq_true_of_le (show k2 < 51 by omega)) rfl (by omega) (by omega) (by omega) (by omega)
theorem gW_same {S : Nat → Nat} {G : Nat → kc} {k j cap n : Nat} {f : Nat → Int32} (h1 : G k = oT (S j) (nI 0) (nI n)) (h2 : G j = aB cap f) : gW S G k j cap f n = G := by
  rw [gW, ← h1, ← h2, updG_id, updG_id]
theorem keep_gW {S : Nat → Nat} {G : Nat → kc} {cap n : Nat} {f : Nat → Int32} : ∀ k, 15 ≤ k → k < 44 → gW S G 2 14 cap f n k = G k := fun k a b => (updG_n _ _ (by omega)).trans (updG_n _ _ (by omega))
theorem keep_gA {S : Nat → Nat} {G : Nat → kc} {N : Nat → Int32} {x y : Int32} : ∀ k, 15 ≤ k → k < 44 → gA S G N x y k = G k := fun k a b => (updG_n _ _ (by omega)).trans (updG_n _ _ (by omega))
theorem tV.gW {S : Nat → Nat} {G : Nat → kc} {D : kh} {u : Nat} {x : List Int32} (h : tV S G D u x) {cap n : Nat} {f : Nat → Int32} : tV S (gW S G 2 14 cap f n) D u x := h.keep keep_gW
theorem tV.gA {S : Nat → Nat} {G : Nat → kc} {D : kh} {u : Nat} {x : List Int32} (h : tV S G D u x) {N : Nat → Int32} {s e : Int32} : tV S (gA S G N s e) D u x := h.keep keep_gA
theorem chb_eq (x : Int32) : chb x = (unres x && !decide (x = 46) && !decide (x = 126)) := by
  rw [chb, unres]
  by_cases h1 : x = 46
  · subst h1; decide
  · by_cases h2 : x = 126
    · subst h2; decide
    · rw [decide_eq_false h1, decide_eq_false h2]
      cases aldg x <;> cases decide (x = 45) <;> cases decide (x = 95) <;> rfl
theorem all3 (v : List Int32) (p q r : Int32 → Bool) : v.all (fun x => p x && !q x && !r x) = (v.all p && !v.any q && !v.any r) := by
  induction v with
  | nil => rfl
  | cons a v ih =>
    rw [List.all_cons, List.all_cons, List.any_cons, List.any_cons, ih]
    cases p a <;> cases q a <;> cases r a <;> cases v.all p <;> cases v.any q <;> cases v.any r <;> rfl
theorem all_chb (v : List Int32) : v.all chb = (v.all unres && !v.any (fun x => decide (x = 46)) && !v.any (fun x => decide (x = 126))) := by
  rw [← all3, show chb = fun x => unres x && !decide (x = 46) && !decide (x = 126) from funext chb_eq]
/-- the SCOPES that are told -/
def tld (T : List (List Int32)) (v : List Int32) (a : Int32) : Int32 := if 0 < v.length then oI (scpS T v) else a
theorem or_255 : ∀ j, j < 256 → ∀ k, k < 8 → nI j ||| (1 <<< (nI k &&& 31)) = nI (j ||| 2 ^ k) := by decide +kernel
theorem or_256 (j : Nat) (hj : j < 256) (k : Nat) (hk : k < 8) : ∃ i, i < 256 ∧ nI j ||| (1 <<< (nI k &&& 31)) = nI i := ⟨j ||| 2 ^ k, Nat.or_lt_two_pow (n := 8) hj (Nat.pow_lt_pow_right (by decide) hk), or_255 j hj k hk⟩
theorem scpI_small {T : List (List Int32)} {f : Nat → Int32} {e : Nat} (hT : T.length ≤ 8) (n : Nat) : ∀ (p j : Nat), e - p ≤ n → j < 256 → scpI T f e p (nI j) = none ∨ ∃ i, i < 256 ∧ scpI T f e p (nI j) = some (nI i) := by
  induction n with
  | zero => intro p j h hj; rw [scpI_end (by omega)]; exact Or.inr ⟨j, hj, rfl⟩
  | succ n ih =>
    intro p j h hj
    by_cases h0 : e ≤ p
    · rw [scpI_end h0]; exact Or.inr ⟨j, hj, rfl⟩
    · have hg := atI_ge f 32 (p := p) (e := e) (by omega)
      by_cases h1 : atI f 32 p e = p
      · rw [scpI_skip (by omega) h1]; exact ih _ _ (by omega) hj
      · by_cases h2 : fnd T (tl f p (atI f 32 p e - p)) < T.length
        · rw [scpI_go (by omega) h1 h2]
          obtain ⟨i, hi, e9⟩ := or_256 j hj _ (Nat.lt_of_lt_of_le h2 hT)
          rw [e9]
          exact ih _ _ (by omega) hi
        · rw [scpI_no (by omega) h1 h2]; exact Or.inl rfl
theorem scpS_small {T : List (List Int32)} (hT : T.length ≤ 8) (v : List Int32) : oI (scpS T v) = -1 ∨ ∃ i, i < 256 ∧ oI (scpS T v) = nI i := by
  rcases scpI_small (f := gD v) (e := v.length) hT v.length 0 0 (by omega) (by decide) with h | ⟨i, hi, h⟩
  · exact Or.inl (by rw [scpS]; exact congrArg oI h)
  · exact Or.inr ⟨i, hi, by rw [scpS]; exact congrArg oI h⟩
theorem tld_small {T : List (List Int32)} (hT : T.length ≤ 8) (v : List Int32) {a : Int32} (ha : ∃ i, i < 256 ∧ a = nI i) : tld T v a = -1 ∨ ∃ i, i < 256 ∧ tld T v a = nI i := by
  rw [tld]
  by_cases h : 0 < v.length
  · rw [if_pos h]; exact scpS_small hT v
  · rw [if_neg h]; exact Or.inr ha
theorem sm_neg {x : Int32} (h : x = -1 ∨ ∃ i, i < 256 ∧ x = nI i) : x < 0 ↔ x = -1 := by
  rcases h with h | ⟨i, hi, h⟩
  · rw [h]; decide
  · rw [h]
    constructor
    · intro q; exact absurd q (nI_pos (by omega))
    · intro q; exact absurd (show nI i < 0 by rw [q]; decide) (nI_pos (by omega))
theorem nI_neg {i : Nat} (hi : i < 2 ^ 31) : ¬ nI i = -1 := fun q => absurd (show nI i < 0 by rw [q]; decide) (nI_pos hi)
theorem wthn_self (x : Int32) : wthn x x = true := by
  rw [wthn]
  apply decide_eq_true
  apply Int32.toBitVec_inj.mp
  apply BitVec.eq_of_getLsbD_eq
  intro i hi
  rw [Int32.toBitVec_and, BitVec.getLsbD_and, Int32.toBitVec_xor, BitVec.getLsbD_xor]
  rw [show (-1 : Int32).toBitVec = BitVec.allOnes 32 from by decide, BitVec.getLsbD_allOnes, decide_eq_true hi]
  show _ = (BitVec.ofNat 32 0).getLsbD i
  rw [BitVec.getLsbD_ofNat, Nat.zero_testBit, Bool.and_false]
  cases x.toBitVec.getLsbD i <;> rfl
theorem ask_neg {T : List (List Int32)} (hT : T.length ≤ 8) {v : List Int32} {a : Int32} (ha : ∃ i, i < 256 ∧ a = nI i) : askS T v a < 0 ↔ (tld T v a = -1 ∨ ¬ wthn (tld T v a) a = true) ∨ (¬ 0 < v.length ∧ a = 0) := by
  have hs := sm_neg (tld_small hT v ha)
  rw [askS]
  by_cases h : 0 < v.length
  · rw [if_pos h]
    have e : oI (scpS T v) = tld T v a := by rw [tld, if_pos h]
    rw [e]
    by_cases h2 : tld T v a < 0 ∨ ¬ wthn (tld T v a) a = true
    · rw [if_pos h2]
      exact ⟨fun _ => Or.inl (h2.imp hs.mp id), fun _ => by decide⟩
    · rw [if_neg h2]
      exact ⟨fun q => absurd (Or.inl q) h2, fun q => q.elim (fun q => absurd (q.imp hs.mpr id) h2) (fun q => absurd h q.1)⟩
  · rw [if_neg h]
    have e : tld T v a = a := by rw [tld, if_neg h]
    rw [e]
    by_cases h3 : a = 0
    · rw [if_pos h3]
      exact ⟨fun _ => Or.inr ⟨h, h3⟩, fun _ => by decide⟩
    · rw [if_neg h3]
      rw [e] at hs
      exact ⟨fun q => Or.inl (Or.inl (hs.mp q)), fun q => q.elim (fun q => q.elim hs.mpr (fun q => absurd (wthn_self a) q)) (fun q => absurd q.2 h3)⟩
theorem ask_tld {T : List (List Int32)} {v : List Int32} {a : Int32} (h : ¬ askS T v a < 0) : askS T v a = tld T v a := by
  rw [askS] at h ⊢
  rw [tld]
  by_cases h1 : 0 < v.length
  · rw [if_pos h1] at h ⊢
    rw [if_pos h1]
    by_cases h2 : oI (scpS T v) < 0 ∨ ¬ wthn (oI (scpS T v)) a = true
    · rw [if_pos h2] at h; exact absurd (by decide) h
    · rw [if_neg h2]
  · rw [if_neg h1] at h ⊢
    rw [if_neg h1]
    by_cases h3 : a = 0
    · rw [if_pos h3] at h; exact absurd (by decide) h
    · rw [if_neg h3]
theorem ior0 (x : Int32) : x ||| 0 = x := by
  apply Int32.toBitVec_inj.mp
  rw [Int32.toBitVec_or]
  exact BitVec.or_zero
theorem scp_nil {T : List (List Int32)} (h : ft T 1 12) : ¬ fnd T [] < T.length := fun q => by
  have h9 : decide ([] = T.getD (fnd T []) []) = true := fsti_yes (p := fun k => decide ([] = T.getD k [])) (k := T.length) (i := 0) (by rw [fnd] at q; omega)
  have := (h _ q).1
  rw [← of_decide_eq_true h9] at this
  exact absurd this (by decide)
theorem fnd_yes {T : List (List Int32)} {v : List Int32} (q : fnd T v < T.length) : v = T.getD (fnd T v) [] := of_decide_eq_true (fsti_yes (p := fun k => decide (v = T.getD k [])) (k := T.length) (i := 0) (by rw [fnd] at q; omega))
theorem atI_is {f : Nat → Int32} {c : Int32} {p i e : Nat} (hp : p ≤ i) (hi : i ≤ e) (hn : ∀ j, p ≤ j → j < i → f j ≠ c) (hh : i = e ∨ f i = c) : atI f c p e = i := by
  obtain ⟨n, rfl⟩ : ∃ n, i = p + n := ⟨i - p, by omega⟩
  induction n generalizing p with
  | zero =>
    rw [atI, Nat.add_zero] at *
    rcases hh with h | h
    · rw [h, Nat.sub_self]; rfl
    · by_cases h2 : e = p
      · rw [h2, Nat.sub_self]; rfl
      · rw [show e - p = (e - (p + 1)) + 1 by omega, fsti_t (p := fun j => decide (f j = c)) (decide_eq_true h)]
  | succ n ih =>
    have h0 := hn p (Nat.le_refl _) (by omega)
    have h1 := ih (p := p + 1) (by omega) (by omega) (fun j a b => hn j (by omega) (by omega)) (by rw [show p + 1 + n = p + (n + 1) by omega]; exact hh)
    rw [atI] at h1 ⊢
    rw [show e - p = (e - (p + 1)) + 1 by omega, fsti_f (p := fun j => decide (f j = c)) (decide_eq_false h0), h1]
    omega

theorem k_isChallenge {Λ : kL} {S : Nat → Nat} {G : Nat → kc} {D : kh} (hS : cInj S) {u : Nat} {v : List Int32} (hT : tV S G D u v) : cCt Λ mX11_isChallenge 0 0 S [.ref u] G D (fun r G' D' => r = some (.int (bI (decide (v.length = 43) && v.all chb))) ∧ G' = G ∧ D' = D) := by
  refine cCt.of hS pn_X11 [some (.ref u)] rfl (Nat.le_of_ble_eq_true rfl) fun X => ?_
  refine C.aload_nR dX11_isChallenge_0 rfl ?_
  refine C.callVX0 [] dX11_isChallenge_1 mdX9_size imX9_size seX9_size kc_10 (show tV S G D u v from hT).ob lk_X11_86 rfl rfl rfl rfl (cCt.w0 (R := fun r => r = some (.int (nI v.length))) fun σ9 h9 => v_size ((show tV S G D u v from hT).tx h9)) ?_
  rintro _ G9 D9 ⟨rfl, e9, e8⟩
  have e9 := e9.symm; subst e9; have e8 := e8.symm; subst e8
  refine C.bipush (v := 43) dX11_isChallenge_4 (by decide) ?_
  refine C.icmp_ne (tgt := 38) dX11_isChallenge_6 (by decide) (fun c_6 => ?_) (fun c_6 => ?_)
  · skip
    refine C.iconst (v := 0) dX11_isChallenge_38 (by decide) ?_
    refine C.zret dX11_isChallenge_39 rfl rfl ?_
    refine ⟨congrArg (fun z => some (Value.int z)) ?_, rfl, rfl⟩
    rw [all_chb]
    first | (rw [decide_eq_false (fun q => c_6 (by rw [q]; rfl))]; rfl) | (rw [(bI_eq0 _).mp c_13]; cases decide (v.length = 43) <;> rfl) | (rw [bt1 c_22]; cases decide (v.length = 43) <;> cases v.all unres <;> rfl) | (rw [bt1 c_31]; cases decide (v.length = 43) <;> cases v.all unres <;> cases (v.any fun x => decide (x = 46)) <;> rfl)
  · skip
    refine C.aload_nR dX11_isChallenge_9 rfl ?_
    refine C.callVX0 [] dX11_isChallenge_10 mdX9_isUnreservedAll imX9_isUnreservedAll seX9_isUnreservedAll kc_10 (show tV S G D u v from hT).ob lk_X11_434 rfl rfl rfl rfl (cCt.w0 (R := fun r => r = some (.int (bI (v.all unres)))) fun σ9 h9 => v_isUnreservedAll ((show tV S G D u v from hT).tx h9)) ?_
    rintro _ G9 D9 ⟨rfl, e9, e8⟩
    have e9 := e9.symm; subst e9; have e8 := e8.symm; subst e8
    refine C.if_eq (tgt := 38) dX11_isChallenge_13 (by decide) (fun c_13 => ?_) (fun c_13 => ?_)
    · skip
      refine C.iconst (v := 0) dX11_isChallenge_38 (by decide) ?_
      refine C.zret dX11_isChallenge_39 rfl rfl ?_
      refine ⟨congrArg (fun z => some (Value.int z)) ?_, rfl, rfl⟩
      rw [all_chb]
      first | (rw [decide_eq_false (fun q => c_6 (by rw [q]; rfl))]; rfl) | (rw [(bI_eq0 _).mp c_13]; cases decide (v.length = 43) <;> rfl) | (rw [bt1 c_22]; cases decide (v.length = 43) <;> cases v.all unres <;> rfl) | (rw [bt1 c_31]; cases decide (v.length = 43) <;> cases v.all unres <;> cases (v.any fun x => decide (x = 46)) <;> rfl)
    · skip
      refine C.aload_nR dX11_isChallenge_16 rfl ?_
      refine C.bipush (v := 46) dX11_isChallenge_17 (by decide) ?_
      refine C.callVX0 [.int 46] dX11_isChallenge_19 mdX9_has imX9_has seX9_has kc_10 (show tV S G D u v from hT).ob lk_X11_393 rfl rfl rfl rfl (cCt.w0 (R := fun r => r = some (.int (bI (v.any fun x => decide (x = 46))))) fun σ9 h9 => v_has ((show tV S G D u v from hT).tx h9) (c := 46) (by decide)) ?_
      rintro _ G9 D9 ⟨rfl, e9, e8⟩
      have e9 := e9.symm; subst e9; have e8 := e8.symm; subst e8
      refine C.if_ne (tgt := 38) dX11_isChallenge_22 (by decide) (fun c_22 => ?_) (fun c_22 => ?_)
      · skip
        refine C.iconst (v := 0) dX11_isChallenge_38 (by decide) ?_
        refine C.zret dX11_isChallenge_39 rfl rfl ?_
        refine ⟨congrArg (fun z => some (Value.int z)) ?_, rfl, rfl⟩
        rw [all_chb]
        first | (rw [decide_eq_false (fun q => c_6 (by rw [q]; rfl))]; rfl) | (rw [(bI_eq0 _).mp c_13]; cases decide (v.length = 43) <;> rfl) | (rw [bt1 c_22]; cases decide (v.length = 43) <;> cases v.all unres <;> rfl) | (rw [bt1 c_31]; cases decide (v.length = 43) <;> cases v.all unres <;> cases (v.any fun x => decide (x = 46)) <;> rfl)
      · skip
        refine C.aload_nR dX11_isChallenge_25 rfl ?_
        refine C.bipush (v := 126) dX11_isChallenge_26 (by decide) ?_
        refine C.callVX0 [.int 126] dX11_isChallenge_28 mdX9_has imX9_has seX9_has kc_10 (show tV S G D u v from hT).ob lk_X11_393 rfl rfl rfl rfl (cCt.w0 (R := fun r => r = some (.int (bI (v.any fun x => decide (x = 126))))) fun σ9 h9 => v_has ((show tV S G D u v from hT).tx h9) (c := 126) (by decide)) ?_
        rintro _ G9 D9 ⟨rfl, e9, e8⟩
        have e9 := e9.symm; subst e9; have e8 := e8.symm; subst e8
        refine C.if_ne (tgt := 38) dX11_isChallenge_31 (by decide) (fun c_31 => ?_) (fun c_31 => ?_)
        · skip
          refine C.iconst (v := 0) dX11_isChallenge_38 (by decide) ?_
          refine C.zret dX11_isChallenge_39 rfl rfl ?_
          refine ⟨congrArg (fun z => some (Value.int z)) ?_, rfl, rfl⟩
          rw [all_chb]
          first | (rw [decide_eq_false (fun q => c_6 (by rw [q]; rfl))]; rfl) | (rw [(bI_eq0 _).mp c_13]; cases decide (v.length = 43) <;> rfl) | (rw [bt1 c_22]; cases decide (v.length = 43) <;> cases v.all unres <;> rfl) | (rw [bt1 c_31]; cases decide (v.length = 43) <;> cases v.all unres <;> cases (v.any fun x => decide (x = 46)) <;> rfl)
        · skip
          refine C.iconst (v := 1) dX11_isChallenge_34 (by decide) ?_
          refine C.goto (tgt := 39) dX11_isChallenge_35 (by decide) ?_
          refine C.zret dX11_isChallenge_39 rfl rfl ?_
          refine ⟨congrArg (fun z => some (Value.int z)) ?_, rfl, rfl⟩
          have e1 : v.length = 43 := (nI_eq (b := 43) (by have := hT.le; omega) (by decide)).mp c_6
          rw [all_chb, bt1 c_13, decide_eq_true e1, (bI_eq0 _).mp c_22, (bI_eq0 _).mp c_31]
          rfl

theorem k_isVerifier {Λ : kL} {S : Nat → Nat} {G : Nat → kc} {D : kh} (hS : cInj S) {u : Nat} {v : List Int32} (hT : tV S G D u v) : cCt Λ mX11_isVerifier 0 0 S [.ref u] G D (fun r G' D' => r = some (.int (bI (verS v))) ∧ G' = G ∧ D' = D) := by
  refine cCt.of hS pn_X11 [some (.ref u)] rfl (Nat.le_of_ble_eq_true rfl) fun X => ?_
  refine C.aload_nR dX11_isVerifier_0 rfl ?_
  refine C.callVX0 [] dX11_isVerifier_1 mdX9_size imX9_size seX9_size kc_10 (show tV S G D u v from hT).ob lk_X11_86 rfl rfl rfl rfl (cCt.w0 (R := fun r => r = some (.int (nI v.length))) fun σ9 h9 => v_size ((show tV S G D u v from hT).tx h9)) ?_
  rintro _ G9 D9 ⟨rfl, e9, e8⟩
  have e9 := e9.symm; subst e9; have e8 := e8.symm; subst e8
  refine C.bipush (v := 43) dX11_isVerifier_4 (by decide) ?_
  refine C.icmp_lt (tgt := 30) dX11_isVerifier_6 (by decide) (fun c_6 => ?_) (fun c_6 => ?_)
  · skip
    refine C.iconst (v := 0) dX11_isVerifier_30 (by decide) ?_
    refine C.zret dX11_isVerifier_31 rfl rfl ?_
    refine ⟨congrArg (fun z => some (Value.int z)) ?_, rfl, rfl⟩
    have hle := hT.le
    rw [verS]
    first | (rw [decide_eq_false (fun (q : 43 ≤ v.length ∧ v.length ≤ 128) => absurd ((nI_ltI (b := 43) (by omega) (by decide)).mp c_6) (by omega))]; rfl) | (rw [decide_eq_false (fun (q : 43 ≤ v.length ∧ v.length ≤ 128) => absurd ((nI_ltI (a := 128) (by decide) (by omega)).mp c_16) (by omega))]; rfl) | (rw [(bI_eq0 _).mp c_23, Bool.and_false]; rfl)
  · skip
    refine C.aload_nR dX11_isVerifier_9 rfl ?_
    refine C.callVX0 [] dX11_isVerifier_10 mdX9_size imX9_size seX9_size kc_10 (show tV S G D u v from hT).ob lk_X11_86 rfl rfl rfl rfl (cCt.w0 (R := fun r => r = some (.int (nI v.length))) fun σ9 h9 => v_size ((show tV S G D u v from hT).tx h9)) ?_
    rintro _ G9 D9 ⟨rfl, e9, e8⟩
    have e9 := e9.symm; subst e9; have e8 := e8.symm; subst e8
    refine C.sipush (v := 128) dX11_isVerifier_13 (by decide) ?_
    refine C.icmp_gt (tgt := 30) dX11_isVerifier_16 (by decide) (fun c_16 => ?_) (fun c_16 => ?_)
    · skip
      refine C.iconst (v := 0) dX11_isVerifier_30 (by decide) ?_
      refine C.zret dX11_isVerifier_31 rfl rfl ?_
      refine ⟨congrArg (fun z => some (Value.int z)) ?_, rfl, rfl⟩
      have hle := hT.le
      rw [verS]
      first | (rw [decide_eq_false (fun (q : 43 ≤ v.length ∧ v.length ≤ 128) => absurd ((nI_ltI (b := 43) (by omega) (by decide)).mp c_6) (by omega))]; rfl) | (rw [decide_eq_false (fun (q : 43 ≤ v.length ∧ v.length ≤ 128) => absurd ((nI_ltI (a := 128) (by decide) (by omega)).mp c_16) (by omega))]; rfl) | (rw [(bI_eq0 _).mp c_23, Bool.and_false]; rfl)
    · skip
      refine C.aload_nR dX11_isVerifier_19 rfl ?_
      refine C.callVX0 [] dX11_isVerifier_20 mdX9_isUnreservedAll imX9_isUnreservedAll seX9_isUnreservedAll kc_10 (show tV S G D u v from hT).ob lk_X11_434 rfl rfl rfl rfl (cCt.w0 (R := fun r => r = some (.int (bI (v.all unres)))) fun σ9 h9 => v_isUnreservedAll ((show tV S G D u v from hT).tx h9)) ?_
      rintro _ G9 D9 ⟨rfl, e9, e8⟩
      have e9 := e9.symm; subst e9; have e8 := e8.symm; subst e8
      refine C.if_eq (tgt := 30) dX11_isVerifier_23 (by decide) (fun c_23 => ?_) (fun c_23 => ?_)
      · skip
        refine C.iconst (v := 0) dX11_isVerifier_30 (by decide) ?_
        refine C.zret dX11_isVerifier_31 rfl rfl ?_
        refine ⟨congrArg (fun z => some (Value.int z)) ?_, rfl, rfl⟩
        have hle := hT.le
        rw [verS]
        first | (rw [decide_eq_false (fun (q : 43 ≤ v.length ∧ v.length ≤ 128) => absurd ((nI_ltI (b := 43) (by omega) (by decide)).mp c_6) (by omega))]; rfl) | (rw [decide_eq_false (fun (q : 43 ≤ v.length ∧ v.length ≤ 128) => absurd ((nI_ltI (a := 128) (by decide) (by omega)).mp c_16) (by omega))]; rfl) | (rw [(bI_eq0 _).mp c_23, Bool.and_false]; rfl)
      · skip
        refine C.iconst (v := 1) dX11_isVerifier_26 (by decide) ?_
        refine C.goto (tgt := 31) dX11_isVerifier_27 (by decide) ?_
        refine C.zret dX11_isVerifier_31 rfl rfl ?_
        refine ⟨congrArg (fun z => some (Value.int z)) ?_, rfl, rfl⟩
        have hle := hT.le
        rw [verS]
        rw [bt1 c_23, decide_eq_true (show 43 ≤ v.length ∧ v.length ≤ 128 from ⟨Nat.le_of_not_lt fun q => c_6 ((nI_ltI (b := 43) (by omega) (by decide)).mpr q), Nat.le_of_not_lt fun q => c_16 ((nI_ltI (a := 128) (by decide) (by omega)).mpr q)⟩)]
        rfl

theorem k_startLocation {Λ : kL} {S : Nat → Nat} {G : Nat → kc} {D : kh} (hS : cInj S) {N : Nat → Int32} {v : List Int32} (hP : G 0 = oGs S N) (hO : tO S G 2 14 6200 v) {u : Nat} {x : List Int32} (hT : tV S G D u x) (hl : v.length + x.length + 1 ≤ 6200) : cCt Λ mX11_startLocation 0 0 S [.ref (S 0), .ref u] G D (apQ S G D 2 14 6200 (v ++ (x ++ [plc x]))) := by
  refine cCt.of hS pn_X11 [some (.ref (S 0)), some (.ref u)] rfl (Nat.le_of_ble_eq_true rfl) fun X => ?_
  have hO9 := hO; obtain ⟨fo9, b1, b2, b3, b4, b5, b6⟩ := hO9
  refine C.aload_nR dX11_startLocation_0 rfl ?_
  refine C.getS (k9 := 0) (fs := [.ref (S 1), .ref (S 2), .ref (S 3), .ref (S 4), .ref (S 5), .ref (S 6), .ref (S 7), .ref (S 8), .ref (S 9), .ref (S 10), .ref (S 11), .ref (S 12), .int (N 26), .int (N 27), .int (N 28), .int (N 25), .int (N 5), .int (N 6)]) dX11_startLocation_1 fl_X11_18 rfl hP rfl ?_
  refine C.aload_nR dX11_startLocation_4 rfl ?_
  refine C.iconst (v := 0) dX11_startLocation_5 (by decide) ?_
  refine C.aload_nR dX11_startLocation_6 rfl ?_
  refine C.callVX0 [] dX11_startLocation_7 mdX9_size imX9_size seX9_size kc_10 (show tV S G D u x from hT).ob lk_X11_86 rfl rfl rfl rfl (cCt.w0 (R := fun r => r = some (.int (nI x.length))) fun σ9 h9 => v_size ((show tV S G D u x from hT).tx h9)) ?_
  rintro _ G9 D9 ⟨rfl, e9, e8⟩
  have e9 := e9.symm; subst e9; have e8 := e8.symm; subst e8
  have hct := o_addPart (Λ := Λ) (D := D) hS (show tO S G 2 14 6200 v from hO) rfl rfl (hT.u hS (by decide) (by decide)) (g := 0) (m := x.length) (by omega) (by omega) hT.bt
  rw [List.drop_zero, List.take_length] at hct
  refine C.callVS0 (k9 := 2) [.ref u, .int 0, .int (nI x.length)] dX11_startLocation_10 mdX9_addPart imX9_addPart seX9_addPart kc_10 rfl b1 lk_X11_97 rfl rfl rfl rfl hct ?_
  rintro _ _ D9 ⟨f9_1, h_f9_1, b_f9_1, rfl, rfl, e8⟩; have e8 := e8.symm; subst e8
  refine C.aload_nR dX11_startLocation_13 rfl ?_
  refine C.getS (k9 := 0) (fs := [.ref (S 1), .ref (S 2), .ref (S 3), .ref (S 4), .ref (S 5), .ref (S 6), .ref (S 7), .ref (S 8), .ref (S 9), .ref (S 10), .ref (S 11), .ref (S 12), .int (N 26), .int (N 27), .int (N 28), .int (N 25), .int (N 5), .int (N 6)]) dX11_startLocation_14 fl_X11_18 rfl hP rfl ?_
  refine C.aload_nR dX11_startLocation_17 rfl ?_
  refine C.bipush (v := 63) dX11_startLocation_18 (by decide) ?_
  refine C.callVX0 [.int 63] dX11_startLocation_20 mdX9_has imX9_has seX9_has kc_10 (show tV S (gW S G 2 14 6200 f9_1 (v ++ x).length) D u x from hT.gW).ob lk_X11_393 rfl rfl rfl rfl (cCt.w0 (R := fun r => r = some (.int (bI (x.any fun x => decide (x = 63))))) fun σ9 h9 => v_has ((show tV S (gW S G 2 14 6200 f9_1 (v ++ x).length) D u x from hT.gW).tx h9) (c := 63) (by decide)) ?_
  rintro _ G9 D9 ⟨rfl, e9, e8⟩
  have e9 := e9.symm; subst e9; have e8 := e8.symm; subst e8
  refine C.if_eq (tgt := 31) dX11_startLocation_23 (by decide) (fun c_23 => ?_) (fun c_23 => ?_)
  · skip
    refine C.bipush (v := 63) dX11_startLocation_31 (by decide) ?_
    refine C.callVS0 (k9 := 2) [.int 63] dX11_startLocation_33 mdX9_add imX9_add seX9_add kc_10 rfl rfl lk_X11_459 rfl rfl rfl rfl (o_add hS (show tO S (gW S G 2 14 6200 f9_1 (v ++ x).length) 2 14 6200 (v ++ x) from (tO.gW (by decide) (by rw [List.length_append]; omega) (by decide) h_f9_1 b_f9_1)) rfl rfl (by rw [List.length_append]; omega) 63) ?_
    rintro _ _ D9 ⟨f9_2, h_f9_2, b_f9_2, rfl, rfl, e8⟩; have e8 := e8.symm; subst e8
    rw [gW_gW _ _ _ _ _ _ _ (by decide)]
    refine C.vret dX11_startLocation_36 rfl ?_
    have ep : plc x = 63 := if_neg (fun q => Bool.false_ne_true (((bI_eq0 _).mp c_23).symm.trans q))
    rw [List.append_assoc] at h_f9_2 b_f9_2
    refine ⟨f9_2, ?_, ?_, rfl, ?_, rfl⟩
    · rw [ep]; exact h_f9_2
    · rw [ep]; exact b_f9_2
    · rw [ep, ← List.append_assoc]; rfl
  · skip
    refine C.bipush (v := 38) dX11_startLocation_26 (by decide) ?_
    refine C.goto (tgt := 33) dX11_startLocation_28 (by decide) ?_
    refine C.callVS0 (k9 := 2) [.int 38] dX11_startLocation_33 mdX9_add imX9_add seX9_add kc_10 rfl rfl lk_X11_459 rfl rfl rfl rfl (o_add hS (show tO S (gW S G 2 14 6200 f9_1 (v ++ x).length) 2 14 6200 (v ++ x) from (tO.gW (by decide) (by rw [List.length_append]; omega) (by decide) h_f9_1 b_f9_1)) rfl rfl (by rw [List.length_append]; omega) 38) ?_
    rintro _ _ D9 ⟨f9_3, h_f9_3, b_f9_3, rfl, rfl, e8⟩; have e8 := e8.symm; subst e8
    rw [gW_gW _ _ _ _ _ _ _ (by decide)]
    refine C.vret dX11_startLocation_36 rfl ?_
    have ep : plc x = 38 := if_pos (bt1 c_23)
    rw [List.append_assoc] at h_f9_3 b_f9_3
    refine ⟨f9_3, ?_, ?_, rfl, ?_, rfl⟩
    · rw [ep]; exact h_f9_3
    · rw [ep]; exact b_f9_3
    · rw [ep, ← List.append_assoc]; rfl

theorem k_endLocation {Λ : kL} {S : Nat → Nat} {G : Nat → kc} {D : kh} (hS : cInj S) (hSt : kSt Λ) {N : Nat → Int32} {v : List Int32} (hP : G 0 = oGs S N) (hO : tO S G 2 14 6200 v) {u : Nat} {x : List Int32} (hT : tV S G D u x) (hl : v.length + 7 + 3 * x.length ≤ 6200) : cCt Λ mX11_endLocation 0 0 S [.ref (S 0), .ref u] G D (apQ S G D 2 14 6200 (v ++ stS x)) := by
  refine cCt.of hS pn_X11 [some (.ref (S 0)), some (.ref u)] rfl (Nat.le_of_ble_eq_true rfl) fun X => ?_
  have hO9 := hO; obtain ⟨fo9, b1, b2, b3, b4, b5, b6⟩ := hO9
  refine C.aload_nR dX11_endLocation_0 rfl ?_
  refine C.callVX0 [] dX11_endLocation_1 mdX9_size imX9_size seX9_size kc_10 (show tV S G D u x from hT).ob lk_X11_86 rfl rfl rfl rfl (cCt.w0 (R := fun r => r = some (.int (nI x.length))) fun σ9 h9 => v_size ((show tV S G D u x from hT).tx h9)) ?_
  rintro _ G9 D9 ⟨rfl, e9, e8⟩
  have e9 := e9.symm; subst e9; have e8 := e8.symm; subst e8
  refine C.if_le (tgt := 25) dX11_endLocation_4 (by decide) (fun c_4 => ?_) (fun c_4 => ?_)
  · skip
    have hx0 : x.length = 0 := by have h9 := (nI_leI (b := 0) (by have := hT.le; omega) (by decide)).mp c_4; omega
    refine C.vret dX11_endLocation_25 rfl ?_
    rw [stS, if_pos hx0, List.append_nil]
    exact ⟨fo9, b5, b6, rfl, (gW_same b1 b2).symm, rfl⟩
  · skip
    have hx0 : ¬ x.length = 0 := fun q => c_4 (by rw [q]; decide)
    refine C.aload_nR dX11_endLocation_7 rfl ?_
    refine C.getS (k9 := 0) (fs := [.ref (S 1), .ref (S 2), .ref (S 3), .ref (S 4), .ref (S 5), .ref (S 6), .ref (S 7), .ref (S 8), .ref (S 9), .ref (S 10), .ref (S 11), .ref (S 12), .int (N 26), .int (N 27), .int (N 28), .int (N 25), .int (N 5), .int (N 6)]) dX11_endLocation_8 fl_X11_18 rfl hP rfl ?_
    refine C.ldcwS dX11_endLocation_11 sr_X11_461 ?_
    refine C.callVS0 (k9 := 2) [.ref (kSa Λ RX11 461)] dX11_endLocation_14 mdX9_addWord imX9_addWord seX9_addWord kc_10 rfl b1 lk_X11_443 rfl rfl rfl rfl (o_addWord hS (show tO S G 2 14 6200 v from hO) rfl rfl (st_X11_461 hSt) sb_andState_b (show v.length + 7 ≤ 6200 by omega)) ?_
    rintro _ _ D9 ⟨f9_1, h_f9_1, b_f9_1, rfl, rfl, e8⟩; have e8 := e8.symm; subst e8
    refine C.aload_nR dX11_endLocation_17 rfl ?_
    refine C.getS (k9 := 0) (fs := [.ref (S 1), .ref (S 2), .ref (S 3), .ref (S 4), .ref (S 5), .ref (S 6), .ref (S 7), .ref (S 8), .ref (S 9), .ref (S 10), .ref (S 11), .ref (S 12), .int (N 26), .int (N 27), .int (N 28), .int (N 25), .int (N 5), .int (N 6)]) dX11_endLocation_18 fl_X11_18 rfl hP rfl ?_
    refine C.aload_nR dX11_endLocation_21 rfl ?_
    refine C.callVS0 (k9 := 2) [.ref u] dX11_endLocation_22 mdX9_addEscaped imX9_addEscaped seX9_addEscaped kc_10 rfl rfl lk_X11_463 rfl rfl rfl rfl (o_addEscaped hS hSt (show tO S (gW S G 2 14 6200 f9_1 (v ++ sb_andState).length) 2 14 6200 (v ++ sb_andState) from (tO.gW (by decide) (by rw [List.length_append]; exact (show v.length + 7 ≤ 6200 by omega)) (by decide) h_f9_1 b_f9_1)) rfl rfl ((show tV S (gW S G 2 14 6200 f9_1 (v ++ sb_andState).length) D u x from hT.gW).u hS (by decide) (by decide)) (by rw [List.length_append]; exact (show v.length + 7 + 3 * x.length ≤ 6200 by omega))) ?_
    rintro _ _ D9 ⟨f9_2, h_f9_2, b_f9_2, rfl, rfl, e8⟩; have e8 := e8.symm; subst e8
    rw [gW_gW _ _ _ _ _ _ _ (by decide)]
    refine C.vret dX11_endLocation_25 rfl ?_
    rw [List.append_assoc] at h_f9_2 b_f9_2
    rw [stS, if_neg hx0]
    refine ⟨f9_2, h_f9_2, b_f9_2, rfl, ?_, rfl⟩
    rw [← List.append_assoc]
