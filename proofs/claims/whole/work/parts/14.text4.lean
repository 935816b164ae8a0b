/-! Text: Strings, makings -/
theorem kStr.O {Λ : kL} {a : Nat} {bs : List Int32} (h : kStr Λ a bs) : va_O "java/lang/String" a (kA Λ) (kS Λ) (kS Λ).heap := by
  obtain ⟨v, h1, -⟩ := h
  exact h1
theorem kStr.len {Λ : kL} {a : Nat} {bs : List Int32} (h : kStr Λ a bs) : bs.length < 1000 := by
  obtain ⟨v, -, -, -, -, h1, -⟩ := h
  exact h1
theorem J.callC0 {Λ : kL} {X : kX} {μ : kMi} {mc ms : Nat} {Z : State → Prop} {bc bs : Nat} {σ : kh} {pc : Nat} {L : List (Option Value)} {st : List Value} {ν : kMi} {ix n b : Nat} {rest : List Value} {Q : Option Value → kh → Prop} {C : String} (As : List Value) (hd : decode μ.2.1 pc = .ok (.invokevirtual ix, 3)) (hm : kMd ν n) (hi : Cond.instanceMethod ν.1 ∈ lw_tbl) (hsel : Cond.selects C ν.1 ν.1 ∈ lw_tbl) (hb : va_O C b (kA Λ) (kS Λ) (kS Λ).heap) (hlk : Cond.methodLink μ.1.cls ix ν.1 ∈ lw_tbl) (hfr : kFit ν μ = true) (hn : As.length = n) (hst : As.reverse ++ .ref b :: rest = st) (hc : kCat rest = true)
    (hct : jCt Λ ν 0 0 (.ref b :: As) σ Q) (kk : ∀ (r : Option Value) (σ' : kh), Q r σ' → J Λ X μ mc ms Z bc bs σ' (pc + 3) L (r.toList ++ rest)) : J Λ X μ mc ms Z bc bs σ pc L st := J.callC (c1 := 0) (s1 := 0) As hd hm hi hsel hb hlk hfr hn hst hc hct kk
theorem fsti_ge {p : Nat → Bool} {k i : Nat} : i ≤ fsti p k i ∧ fsti p k i ≤ i + k := by
  induction k generalizing i with
  | zero => exact ⟨Nat.le_refl _, Nat.le_refl _⟩
  | succ k ih =>
    rw [fsti]
    by_cases h : p i = true
    · rw [if_pos h]; omega
    · rw [if_neg h]
      have := @ih (i + 1)
      omega
theorem fsti_no {p : Nat → Bool} {k i : Nat} (h : fsti p k i = i + k) : ∀ j, i ≤ j → j < i + k → p j = false := by
  induction k generalizing i with
  | zero => intro j h1 h2; omega
  | succ k ih =>
    rw [fsti] at h
    by_cases hp : p i = true
    · rw [if_pos hp] at h; omega
    · rw [if_neg hp] at h
      intro j h1 h2
      by_cases e : j = i
      · subst e
        cases e1 : p j with
        | false => rfl
        | true => exact absurd e1 hp
      · exact ih (i := i + 1) (by omega) j (by omega) (by omega)
theorem fsti_yes {p : Nat → Bool} {k i : Nat} (h : fsti p k i < i + k) : p (fsti p k i) = true := by
  induction k generalizing i with
  | zero => rw [fsti] at h; omega
  | succ k ih =>
    rw [fsti] at h ⊢
    by_cases hp : p i = true
    · rw [if_pos hp]; exact hp
    · rw [if_neg hp] at h ⊢
      exact ih (by omega)
/-- a byte is among them -/
def hasb (l : List Int32) (c : Int32) : Bool := l.any fun x => decide (x &&& 255 = c)
theorem hasb_tl {f : Nat → Int32} {b n : Nat} {c : Int32} (hn : n ≤ 100000) : hasb (tl f b n) c = decide (fsti (fun j => decide (tat f b n (nI j) = c)) n 0 < n) := by
  cases e : decide (fsti (fun j => decide (tat f b n (nI j) = c)) n 0 < n) with
  | true =>
    have h1 := of_decide_eq_true e
    have h2 := of_decide_eq_true (fsti_yes (p := fun j => decide (tat f b n (nI j) = c)) (k := n) (i := 0) (by omega))
    rw [tat_in h1 (by omega)] at h2
    refine List.any_eq_true.mpr ⟨f (b + _), List.mem_map.mpr ⟨_, List.mem_range.mpr h1, rfl⟩, decide_eq_true h2⟩
  | false =>
    have h1 := of_decide_eq_false e
    have h2 := @fsti_ge (fun j => decide (tat f b n (nI j) = c)) n 0
    have h3 := fsti_no (p := fun j => decide (tat f b n (nI j) = c)) (k := n) (i := 0) (by omega)
    refine List.any_eq_false.mpr fun x hx => ?_
    obtain ⟨i, hi, rfl⟩ := List.mem_map.mp hx
    have h4 := of_decide_eq_false (h3 i (Nat.zero_le _) (by have := List.mem_range.mp hi; omega))
    rw [tat_in (List.mem_range.mp hi) (by omega)] at h4
    exact fun q => h4 (of_decide_eq_true q)

theorem c_Text_has {Λ : kL} {σ : kh} {t r b n cap : Nat} {f : Nat → Int32} (ht : σ t = some (oT r (nI b) (nI n))) (hr : σ r = some (aB cap f)) (hc : b + n ≤ cap) (hm : cap ≤ 100000) (c : Int32) : jCt Λ mX9_has 0 0 [.ref t, .int c] σ (fun v σ' => v = some (.int (bI (hasb (tl f b n) c))) ∧ σ' = σ) := by
  refine jCt.of pn_X9 [some (.ref t), some (.int c)] rfl (Nat.le_of_ble_eq_true rfl) fun X => ?_
  refine J.aload_nR dX9_has_0 rfl ?_
  refine J.iload_n dX9_has_1 rfl ?_
  refine J.iconst (v := 0) dX9_has_2 (by decide) ?_
  refine J.aload_nR dX9_has_3 rfl ?_
  refine J.getf dX9_has_4 fl_X9_15 ht rfl ?_
  refine J.callV0 [.int c, .int 0, .int (nI n)] dX9_has_7 mdX9_indexOf imX9_indexOf seX9_indexOf kc_10 ht lk_X9_73 rfl rfl rfl rfl (c_Text_indexOf ht hr hc hm c (i := 0) (e := n) (Nat.zero_le n) (by omega)) ?_
  rintro _ σ9 ⟨rfl, e9⟩
  have e9 := e9.symm; subst e9
  refine J.aload_nR dX9_has_10 rfl ?_
  refine J.getf dX9_has_11 fl_X9_15 ht rfl ?_
  refine J.icmp_ge (tgt := 21) dX9_has_14 (by decide) (fun c_14 => ?_) (fun c_14 => ?_)
  · skip
    refine J.iconst (v := 0) dX9_has_21 (by decide) ?_
    refine J.zret dX9_has_22 rfl rfl ?_
    refine ⟨?_, rfl⟩
    rw [Nat.sub_zero] at c_14
    have h9 := @fsti_ge (fun j => decide (tat f b n (nI j) = c)) n 0
    rw [hasb_tl (by omega)]
    rw [decide_eq_false (show ¬ fsti (fun j => decide (tat f b n (nI j) = c)) n 0 < n from Nat.not_lt.mpr ((nI_leI (by omega) (show fsti (fun j => decide (tat f b n (nI j) = c)) n 0 < 2 ^ 31 by omega)).mp c_14))]
    rfl
  · skip
    refine J.iconst (v := 1) dX9_has_17 (by decide) ?_
    refine J.goto (tgt := 22) dX9_has_18 (by decide) ?_
    refine J.zret dX9_has_22 rfl rfl ?_
    refine ⟨?_, rfl⟩
    rw [Nat.sub_zero] at c_14
    have h9 := @fsti_ge (fun j => decide (tat f b n (nI j) = c)) n 0
    rw [hasb_tl (by omega)]
    rw [decide_eq_true (show fsti (fun j => decide (tat f b n (nI j) = c)) n 0 < n from Nat.not_le.mp fun q => c_14 (nI_le q (by omega)))]
    rfl

theorem l_Text_spells {Λ : kL} {X : kX} {Q : Option Value → kh → Prop} {σ : kh} {t r b n cap : Nat} {f : Nat → Int32} (ht : σ t = some (oT r (nI b) (nI n))) (hr : σ r = some (aB cap f)) (hc : b + n ≤ cap) (hm : cap ≤ 100000) (hby : byt f b n) {a : Nat} {bs : List Int32} (hs : kStr Λ a bs) (hbs : byt (fun i => bs.getD i 0) 0 bs.length) (hn : n = bs.length) (hQ1 : tl f b n = bs → Q (some (.int 1)) σ) (hQ0 : ¬ tl f b n = bs → Q (some (.int 0)) σ) : ∀ (k i : Nat), i ≤ n → n + 1 ≤ i + k → (∀ j, j < i → f (b + j) = bs.getD j 0) → J Λ X mX9_spells 0 0 (jZ Λ X Q 0 0) 0 0 σ 15 [some (.ref t), some (.ref a), some (.int (nI i))] [] := by
  intro k
  induction k with
  | zero => intro i h1 h2; exact absurd h2 (by omega)
  | succ k ih =>
    intro i h1 h2
    intro hI
    refine J.iload_n dX9_spells_15 rfl ?_
    refine J.aload_nR dX9_spells_16 rfl ?_
    refine J.getf dX9_spells_17 fl_X9_15 ht rfl ?_
    refine J.icmp_ge (tgt := 44) dX9_spells_20 (by decide) (fun c_20 => ?_) (fun c_20 => ?_)
    · skip
      have hle : n ≤ i := (nI_leI (by omega) (by omega)).mp c_20
      refine J.iconst (v := 1) dX9_spells_44 (by decide) ?_
      refine J.zret dX9_spells_45 rfl rfl ?_
      exact hQ1 (by rw [hn]; exact tl_bs.mpr fun j hj => hI j (by omega))
    · skip
      have hlt : i < n := Nat.not_le.mp fun q => c_20 (nI_le q (by omega))
      refine J.aload_nR dX9_spells_23 rfl ?_
      refine J.iload_n dX9_spells_24 rfl ?_
      refine J.callV0 [.int (nI i)] dX9_spells_25 mdX9_at imX9_at seX9_at kc_10 ht lk_X9_32 rfl rfl rfl rfl (c_Text_atn ht hr hc hm (show i < n by omega)) ?_
      rintro _ σ9 ⟨rfl, e9⟩
      have e9 := e9.symm; subst e9
      refine J.aload_nR dX9_spells_28 rfl ?_
      refine J.iload_n dX9_spells_29 rfl ?_
      refine J.callC0 [.int (nI i)] dX9_spells_30 mdJ0_charAt_5068e imJ0_charAt_5068e seJ0_charAt_5068e hs.O lm_X9_42 rfl rfl rfl rfl (c_charAt hs (show i < bs.length by omega)) ?_
      rintro _ σ9 ⟨rfl, e9⟩
      have e9 := e9.symm; subst e9
      refine J.icmp_eq (tgt := 38) dX9_spells_33 (by decide) (fun c_33 => ?_) (fun c_33 => ?_)
      · skip
        refine J.iinc (v := nI (i + 1)) (L' := [some (.ref t), some (.ref a), some (.int (nI (i + 1)))]) dX9_spells_38 rfl (nI_1 i) (by decide) rfl rfl ?_
        refine J.goto (tgt := 15) dX9_spells_41 (by decide) ?_
        refine ih (i + 1) (by omega) (by omega) (fun j hj => ?_)
        rcases Nat.lt_or_ge j i with q | q
        · exact hI j q
        · have e0 : j = i := by omega
          subst e0
          have h9 := hbs j (by omega)
          rw [Nat.zero_add] at h9
          exact (b255_eq (hby j (by omega)) h9).mp c_33
      · skip
        refine J.iconst (v := 0) dX9_spells_36 (by decide) ?_
        refine J.zret dX9_spells_37 rfl rfl ?_
        refine hQ0 fun q => c_33 ?_
        rw [hn] at q
        rw [tl_bs.mp q i (by omega)]

theorem c_Text_spells {Λ : kL} {σ : kh} {t r b n cap : Nat} {f : Nat → Int32} (ht : σ t = some (oT r (nI b) (nI n))) (hr : σ r = some (aB cap f)) (hc : b + n ≤ cap) (hm : cap ≤ 100000) (hby : byt f b n) {a : Nat} {bs : List Int32} (hs : kStr Λ a bs) (hbs : byt (fun i => bs.getD i 0) 0 bs.length) : jCt Λ mX9_spells 0 0 [.ref t, .ref a] σ (fun v σ' => v = some (.int (bI (decide (tl f b n = bs)))) ∧ σ' = σ) := by
  refine jCt.of pn_X9 [some (.ref t), some (.ref a), none] rfl (Nat.le_of_ble_eq_true rfl) fun X => ?_
  refine J.aload_nR dX9_spells_0 rfl ?_
  refine J.getf dX9_spells_1 fl_X9_15 ht rfl ?_
  refine J.aload_nR dX9_spells_4 rfl ?_
  refine J.callC0 [] dX9_spells_5 mdJ0_length_8abf5 imJ0_length_8abf5 seJ0_length_8abf5 hs.O lm_X9_36 rfl rfl rfl rfl (c_length hs) ?_
  rintro _ σ9 ⟨rfl, e9⟩
  have e9 := e9.symm; subst e9
  refine J.icmp_eq (tgt := 13) dX9_spells_8 (by decide) (fun c_8 => ?_) (fun c_8 => ?_)
  · skip
    have e0 : n = bs.length := (nI_eq (by omega) (by have := hs.len; omega)).mp c_8
    refine J.iconst (v := 0) dX9_spells_13 (by decide) ?_
    refine J.istore_n (L' := [some (.ref t), some (.ref a), some (.int 0)]) dX9_spells_14 (by decide) rfl rfl ?_
    exact l_Text_spells ht hr hc hm hby hs hbs e0 (fun q => ⟨by rw [decide_eq_true q]; rfl, rfl⟩) (fun q => ⟨by rw [decide_eq_false q]; rfl, rfl⟩) (n + 1) 0 (Nat.zero_le _) (by omega) (fun j hj => absurd hj (by omega))
  · skip
    refine J.iconst (v := 0) dX9_spells_11 (by decide) ?_
    refine J.zret dX9_spells_12 rfl rfl ?_
    refine ⟨?_, rfl⟩
    rw [decide_eq_false fun q => c_8 (by rw [← q, tl_len])]
    rfl

theorem l_Text_addWord {Λ : kL} {X : kX} {Q : Option Value → kh → Prop} {σ : kh} {t r b n cap : Nat} {f : Nat → Int32} (ht : σ t = some (oT r (nI b) (nI n))) (hr : σ r = some (aB cap f)) {a : Nat} {bs : List Int32} (hs : kStr Λ a bs) (hbs : byt (fun i => bs.getD i 0) 0 bs.length) (hc : b + n + bs.length ≤ cap) (hm : cap ≤ 100000) (hQ : Q none (tapp σ t r cap f b n bs)) : ∀ (k i : Nat), i ≤ bs.length → bs.length + 1 ≤ i + k → J Λ X mX9_addWord 0 0 (jZ Λ X Q 0 0) 0 0 (tapp σ t r cap f b n (tl (fun i => bs.getD i 0) 0 i)) 2 [some (.ref t), some (.ref a), some (.int (nI i))] [] := by
  intro k
  induction k with
  | zero => intro i h1 h2; exact absurd h2 (by omega)
  | succ k ih =>
    intro i h1 h2
    have n_rt : r ≠ t := kne_ao hr ht
    have hsl := hs.len
    have h_t : (tapp σ t r cap f b n (tl (fun i => bs.getD i 0) 0 i)) t = some (oT r (nI b) (nI (n + i))) := by have h9 := @tapp_t σ t r cap f b n (tl (fun i => bs.getD i 0) 0 i); rw [tl_len] at h9; exact h9
    have h_r : (tapp σ t r cap f b n (tl (fun i => bs.getD i 0) 0 i)) r = some (aB cap (updl f (b + n) (tl (fun i => bs.getD i 0) 0 i))) := tapp_r n_rt
    refine J.iload_n dX9_addWord_2 rfl ?_
    refine J.aload_nR dX9_addWord_3 rfl ?_
    refine J.callC0 [] dX9_addWord_4 mdJ0_length_8abf5 imJ0_length_8abf5 seJ0_length_8abf5 hs.O lm_X9_36 rfl rfl rfl rfl (c_length hs) ?_
    rintro _ σ9 ⟨rfl, e9⟩
    have e9 := e9.symm; subst e9
    refine J.icmp_ge (tgt := 25) dX9_addWord_7 (by decide) (fun c_7 => ?_) (fun c_7 => ?_)
    · skip
      have hle : bs.length ≤ i := (nI_leI (by omega) (by omega)).mp c_7
      have hjm : i = bs.length := by omega
      subst hjm
      refine J.vret dX9_addWord_25 rfl ?_
      rw [show tl (fun i => bs.getD i 0) 0 bs.length = bs from tl_bs.mpr fun j _ => by rw [Nat.zero_add]]
      exact hQ
    · skip
      have hlt : i < bs.length := Nat.not_le.mp fun q => c_7 (nI_le q (by omega))
      refine J.aload_nR dX9_addWord_10 rfl ?_
      refine J.aload_nR dX9_addWord_11 rfl ?_
      refine J.iload_n dX9_addWord_12 rfl ?_
      refine J.callC0 [.int (nI i)] dX9_addWord_13 mdJ0_charAt_5068e imJ0_charAt_5068e seJ0_charAt_5068e hs.O lm_X9_42 rfl rfl rfl rfl (c_charAt hs (show i < bs.length by omega)) ?_
      rintro _ σ9 ⟨rfl, e9⟩
      have e9 := e9.symm; subst e9
      refine J.callV0 [.int (bs.getD i 0 &&& 255)] dX9_addWord_16 mdX9_add imX9_add seX9_add kc_10 h_t lk_X9_28 rfl rfl rfl rfl (c_Text_add1 h_t h_r (by omega) hm (bs.getD i 0 &&& 255)) ?_
      rintro _ _ ⟨rfl, rfl⟩
      have h9 := hbs i (by omega)
      rw [Nat.zero_add] at h9
      rw [b8_255 _ h9, show tapp (tapp σ t r cap f b n (tl (fun i => bs.getD i 0) 0 i)) t r cap (updl f (b + n) (tl (fun i => bs.getD i 0) 0 i)) b (n + i) [bs.getD i 0] = tapp σ t r cap f b n (tl (fun i => bs.getD i 0) 0 (i + 1)) from (by rw [tl_succ, ← tapp_tapp, tl_len, Nat.zero_add])]
      refine J.iinc (v := nI (i + 1)) (L' := [some (.ref t), some (.ref a), some (.int (nI (i + 1)))]) dX9_addWord_19 rfl (nI_1 i) (by decide) rfl rfl ?_
      refine J.goto (tgt := 2) dX9_addWord_22 (by decide) ?_
      exact ih (i + 1) (by omega) (by omega)

theorem c_Text_addWord {Λ : kL} {σ : kh} {t r b n cap : Nat} {f : Nat → Int32} (ht : σ t = some (oT r (nI b) (nI n))) (hr : σ r = some (aB cap f)) {a : Nat} {bs : List Int32} (hs : kStr Λ a bs) (hbs : byt (fun i => bs.getD i 0) 0 bs.length) (hc : b + n + bs.length ≤ cap) (hm : cap ≤ 100000) : jCt Λ mX9_addWord 0 0 [.ref t, .ref a] σ (fun v σ' => v = none ∧ σ' = tapp σ t r cap f b n bs) := by
  refine jCt.of pn_X9 [some (.ref t), some (.ref a), none] rfl (Nat.le_of_ble_eq_true rfl) fun X => ?_
  refine J.iconst (v := 0) dX9_addWord_0 (by decide) ?_
  refine J.istore_n (L' := [some (.ref t), some (.ref a), some (.int 0)]) dX9_addWord_1 (by decide) rfl rfl ?_
  have h0 := l_Text_addWord (Λ := Λ) (X := X) ht hr hs hbs hc hm (Q := fun v σ' => v = none ∧ σ' = tapp σ t r cap f b n bs) ⟨rfl, rfl⟩ (bs.length + 1) 0 (Nat.zero_le _) (by omega)
  rw [tl_0, tapp_nil ht hr] at h0
  exact h0
