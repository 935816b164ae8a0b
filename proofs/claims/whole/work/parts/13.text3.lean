/-! Text: comparisons and makings -/
theorem b255_eq {x y : Int32} (hx : b8 x = x) (hy : b8 y = y) : x &&& 255 = y &&& 255 ↔ x = y := ⟨fun h => by rw [← b8_255 x hx, ← b8_255 y hy, h], fun h => by rw [h]⟩
theorem tl_eq {f g : Nat → Int32} {a b n : Nat} : tl f a n = tl g b n ↔ ∀ i, i < n → f (a + i) = g (b + i) := by
  constructor
  · intro h i hi
    rw [← tl_at (f := f) hi, h, tl_at hi]
  · intro h
    exact List.map_congr_left fun i hi => h i (List.mem_range.mp hi)
theorem tl_bs {f : Nat → Int32} {a : Nat} {bs : List Int32} : tl f a bs.length = bs ↔ ∀ i, i < bs.length → f (a + i) = bs.getD i 0 := by
  constructor
  · intro h i hi
    rw [← tl_at (f := f) hi, h]
  · intro h
    apply List.ext_getElem?
    intro i
    by_cases hi : i < bs.length
    · rw [tl, List.getElem?_map, List.getElem?_range hi]
      show some (f (a + i)) = _
      rw [h i hi, List.getD_eq_getElem?_getD, List.getElem?_eq_getElem hi]
      rfl
    · rw [List.getElem?_eq_none (by rw [tl_len]; omega), List.getElem?_eq_none (by omega)]
theorem tl_all {f : Nat → Int32} {a n : Nat} {p : Int32 → Bool} : (tl f a n).all p = true ↔ ∀ i, i < n → p (f (a + i)) = true := by
  rw [tl, List.all_map, List.all_eq_true]
  exact ⟨fun h i hi => h i (List.mem_range.mpr hi), fun h i hi => h i (List.mem_range.mp hi)⟩
theorem tl_all_no {f : Nat → Int32} {a n i : Nat} {p : Int32 → Bool} (hi : i < n) (h : p (f (a + i)) = false) : (tl f a n).all p = false := by
  cases e : (tl f a n).all p with
  | false => rfl
  | true => rw [tl_all.mp e i hi] at h; cases h
theorem c_Text_atn {Λ : kL} {σ : kh} {t r b n cap : Nat} {f : Nat → Int32} (ht : σ t = some (oT r (nI b) (nI n))) (hr : σ r = some (aB cap f)) (hc : b + n ≤ cap) (hm : cap ≤ 100000) {j : Nat} (hj : j < n) : jCt Λ mX9_at 0 0 [.ref t, .int (nI j)] σ (fun v σ' => v = some (.int (f (b + j) &&& 255)) ∧ σ' = σ) :=
  (c_Text_at ht hr hc hm (nI j)).mono fun v σ' h => ⟨by rw [h.1, tat_in hj (by omega)], h.2⟩
theorem bI_nar (b : Bool) : narrow .boolean (.int (bI b)) = .int (bI b) := by cases b <;> rfl

theorem l_Text_isPart {Λ : kL} {X : kX} {Q : Option Value → kh → Prop} {σ : kh} {t r b n cap : Nat} {f : Nat → Int32} (ht : σ t = some (oT r (nI b) (nI n))) (hr : σ r = some (aB cap f)) (hc : b + n ≤ cap) (hm : cap ≤ 100000) (hby : byt f b n) {u r2 b2 n2 cap2 : Nat} {f2 : Nat → Int32} (hu : σ u = some (oT r2 (nI b2) (nI n2))) (hr2 : σ r2 = some (aB cap2 f2)) (hc2 : b2 + n2 ≤ cap2) (hm2 : cap2 ≤ 100000) (hby2 : byt f2 b2 n2) {g : Nat} (hg : g + n2 ≤ n) (hQ1 : tl f (b + g) n2 = tl f2 b2 n2 → Q (some (.int 1)) σ) (hQ0 : ¬ tl f (b + g) n2 = tl f2 b2 n2 → Q (some (.int 0)) σ) : ∀ (k i : Nat), i ≤ n2 → n2 + 1 ≤ i + k → (∀ j, j < i → f (b + (g + j)) = f2 (b2 + j)) → J Λ X mX9_isPart 0 0 (jZ Λ X Q 0 0) 0 0 σ 13 [some (.ref t), some (.int (nI g)), some (.int (nI n2)), some (.ref u), some (.int (nI i))] [] := by
  intro k
  induction k with
  | zero => intro i h1 h2; exact absurd h2 (by omega)
  | succ k ih =>
    intro i h1 h2
    intro hI
    refine J.iload dX9_isPart_13 rfl ?_
    refine J.iload_n dX9_isPart_15 rfl ?_
    refine J.icmp_ge (tgt := 44) dX9_isPart_16 (by decide) (fun c_16 => ?_) (fun c_16 => ?_)
    · skip
      have hle : n2 ≤ i := (nI_leI (by omega) (by omega)).mp c_16
      refine J.iconst (v := 1) dX9_isPart_44 (by decide) ?_
      refine J.zret dX9_isPart_45 rfl rfl ?_
      exact hQ1 (tl_eq.mpr fun j hj => by rw [Nat.add_assoc]; exact hI j (by omega))
    · skip
      have hlt : i < n2 := Nat.not_le.mp fun q => c_16 (nI_le q (by omega))
      refine J.aload_nR dX9_isPart_19 rfl ?_
      refine J.iload_n dX9_isPart_20 rfl ?_
      refine J.iload dX9_isPart_21 rfl ?_
      refine J.iadd dX9_isPart_23 ?_
      rw [show (nI g) + (nI i) = nI (g + i) from (nI_add g i)]
      refine J.callV0 [.int (nI (g + i))] dX9_isPart_24 mdX9_at imX9_at seX9_at kc_10 ht lk_X9_32 rfl rfl rfl rfl (c_Text_atn ht hr hc hm (show g + i < n by omega)) ?_
      rintro _ σ9 ⟨rfl, e9⟩
      have e9 := e9.symm; subst e9
      refine J.aload_nR dX9_isPart_27 rfl ?_
      refine J.iload dX9_isPart_28 rfl ?_
      refine J.callV0 [.int (nI i)] dX9_isPart_30 mdX9_at imX9_at seX9_at kc_10 hu lk_X9_32 rfl rfl rfl rfl (c_Text_atn hu hr2 hc2 hm2 (show i < n2 by omega)) ?_
      rintro _ σ9 ⟨rfl, e9⟩
      have e9 := e9.symm; subst e9
      refine J.icmp_eq (tgt := 38) dX9_isPart_33 (by decide) (fun c_33 => ?_) (fun c_33 => ?_)
      · skip
        refine J.iinc (v := nI (i + 1)) (L' := [some (.ref t), some (.int (nI g)), some (.int (nI n2)), some (.ref u), some (.int (nI (i + 1)))]) dX9_isPart_38 rfl (nI_1 i) (by decide) rfl rfl ?_
        refine J.goto (tgt := 13) dX9_isPart_41 (by decide) ?_
        refine ih (i + 1) (by omega) (by omega) (fun j hj => ?_)
        rcases Nat.lt_or_ge j i with q | q
        · exact hI j q
        · have e0 : j = i := by omega
          subst e0
          exact (b255_eq (hby (g + j) (by omega)) (hby2 j (by omega))).mp c_33
      · skip
        refine J.iconst (v := 0) dX9_isPart_36 (by decide) ?_
        refine J.zret dX9_isPart_37 rfl rfl ?_
        refine hQ0 fun q => c_33 ?_
        have h9 := tl_eq.mp q i hlt
        rw [Nat.add_assoc] at h9
        rw [h9]

theorem c_Text_isPart {Λ : kL} {σ : kh} {t r b n cap : Nat} {f : Nat → Int32} (ht : σ t = some (oT r (nI b) (nI n))) (hr : σ r = some (aB cap f)) (hc : b + n ≤ cap) (hm : cap ≤ 100000) (hby : byt f b n) {u r2 b2 n2 cap2 : Nat} {f2 : Nat → Int32} (hu : σ u = some (oT r2 (nI b2) (nI n2))) (hr2 : σ r2 = some (aB cap2 f2)) (hc2 : b2 + n2 ≤ cap2) (hm2 : cap2 ≤ 100000) (hby2 : byt f2 b2 n2) {g m : Nat} (hg : g + m ≤ n) : jCt Λ mX9_isPart 0 0 [.ref t, .int (nI g), .int (nI m), .ref u] σ (fun v σ' => v = some (.int (bI (decide (tl f (b + g) m = tl f2 b2 n2)))) ∧ σ' = σ) := by
  refine jCt.of pn_X9 [some (.ref t), some (.int (nI g)), some (.int (nI m)), some (.ref u), none] rfl (Nat.le_of_ble_eq_true rfl) fun X => ?_
  refine J.iload_n dX9_isPart_0 rfl ?_
  refine J.aload_nR dX9_isPart_1 rfl ?_
  refine J.getf dX9_isPart_2 fl_X9_15 hu rfl ?_
  refine J.icmp_eq (tgt := 10) dX9_isPart_5 (by decide) (fun c_5 => ?_) (fun c_5 => ?_)
  · skip
    have e0 : m = n2 := (nI_eq (by omega) (by omega)).mp c_5
    subst e0
    refine J.iconst (v := 0) dX9_isPart_10 (by decide) ?_
    refine J.istore (L' := [some (.ref t), some (.int (nI g)), some (.int (nI m)), some (.ref u), some (.int 0)]) dX9_isPart_11 (by decide) rfl rfl ?_
    exact l_Text_isPart ht hr hc hm hby hu hr2 hc2 hm2 hby2 hg (fun q => ⟨by rw [decide_eq_true q]; rfl, rfl⟩) (fun q => ⟨by rw [decide_eq_false q]; rfl, rfl⟩) (m + 1) 0 (Nat.zero_le _) (by omega) (fun j hj => absurd hj (by omega))
  · skip
    refine J.iconst (v := 0) dX9_isPart_8 (by decide) ?_
    refine J.zret dX9_isPart_9 rfl rfl ?_
    refine ⟨?_, rfl⟩
    rw [decide_eq_false fun q => c_5 (by rw [← tl_len f (b + g) m, q, tl_len])]
    rfl

theorem c_Text_same {Λ : kL} {σ : kh} {t r b n cap : Nat} {f : Nat → Int32} (ht : σ t = some (oT r (nI b) (nI n))) (hr : σ r = some (aB cap f)) (hc : b + n ≤ cap) (hm : cap ≤ 100000) (hby : byt f b n) {u r2 b2 n2 cap2 : Nat} {f2 : Nat → Int32} (hu : σ u = some (oT r2 (nI b2) (nI n2))) (hr2 : σ r2 = some (aB cap2 f2)) (hc2 : b2 + n2 ≤ cap2) (hm2 : cap2 ≤ 100000) (hby2 : byt f2 b2 n2) : jCt Λ mX9_same 0 0 [.ref t, .ref u] σ (fun v σ' => v = some (.int (bI (decide (tl f b n = tl f2 b2 n2)))) ∧ σ' = σ) := by
  refine jCt.of pn_X9 [some (.ref t), some (.ref u)] rfl (Nat.le_of_ble_eq_true rfl) fun X => ?_
  refine J.aload_nR dX9_same_0 rfl ?_
  refine J.iconst (v := 0) dX9_same_1 (by decide) ?_
  refine J.aload_nR dX9_same_2 rfl ?_
  refine J.getf dX9_same_3 fl_X9_15 ht rfl ?_
  refine J.aload_nR dX9_same_6 rfl ?_
  refine J.callV0 [.int 0, .int (nI n), .ref u] dX9_same_7 mdX9_isPart imX9_isPart seX9_isPart kc_10 ht lk_X9_66 rfl rfl rfl rfl (c_Text_isPart (g := 0) (m := n) ht hr hc hm hby hu hr2 hc2 hm2 hby2 (by omega)) ?_
  rintro _ σ9 ⟨rfl, e9⟩
  have e9 := e9.symm; subst e9
  refine J.zret dX9_same_10 rfl (bI_nar _) ?_
  exact ⟨rfl, rfl⟩

theorem l_Text_isUnreservedAll {Λ : kL} {X : kX} {Q : Option Value → kh → Prop} {σ : kh} {t r b n cap : Nat} {f : Nat → Int32} (ht : σ t = some (oT r (nI b) (nI n))) (hr : σ r = some (aB cap f)) (hc : b + n ≤ cap) (hm : cap ≤ 100000) (hQ1 : (tl f b n).all (fun x => unres (x &&& 255)) = true → Q (some (.int 1)) σ) (hQ0 : (tl f b n).all (fun x => unres (x &&& 255)) = false → Q (some (.int 0)) σ) : ∀ (k i : Nat), i ≤ n → n + 1 ≤ i + k → (∀ j, j < i → unres (f (b + j) &&& 255) = true) → J Λ X mX9_isUnreservedAll 0 0 (jZ Λ X Q 0 0) 0 0 σ 2 [some (.ref t), some (.int (nI i))] [] := by
  intro k
  induction k with
  | zero => intro i h1 h2; exact absurd h2 (by omega)
  | succ k ih =>
    intro i h1 h2
    intro hI
    refine J.iload_n dX9_isUnreservedAll_2 rfl ?_
    refine J.aload_nR dX9_isUnreservedAll_3 rfl ?_
    refine J.getf dX9_isUnreservedAll_4 fl_X9_15 ht rfl ?_
    refine J.icmp_ge (tgt := 29) dX9_isUnreservedAll_7 (by decide) (fun c_7 => ?_) (fun c_7 => ?_)
    · skip
      have hle : n ≤ i := (nI_leI (by omega) (by omega)).mp c_7
      refine J.iconst (v := 1) dX9_isUnreservedAll_29 (by decide) ?_
      refine J.zret dX9_isUnreservedAll_30 rfl rfl ?_
      exact hQ1 (tl_all.mpr fun j hj => hI j (by omega))
    · skip
      have hlt : i < n := Nat.not_le.mp fun q => c_7 (nI_le q (by omega))
      refine J.aload_nR dX9_isUnreservedAll_10 rfl ?_
      refine J.iload_n dX9_isUnreservedAll_11 rfl ?_
      refine J.callV0 [.int (nI i)] dX9_isUnreservedAll_12 mdX9_at imX9_at seX9_at kc_10 ht lk_X9_32 rfl rfl rfl rfl (c_Text_atn ht hr hc hm (show i < n by omega)) ?_
      rintro _ σ9 ⟨rfl, e9⟩
      have e9 := e9.symm; subst e9
      refine J.callS0 (b := 0) [.int (f (b + i) &&& 255)] dX9_isUnreservedAll_15 mdX11_isUnreserved ssX11_isUnreserved lk_X9_47 rfl rfl rfl rfl (c_isUnreserved (f (b + i) &&& 255)) ?_
      rintro _ σ9 ⟨rfl, e9⟩
      have e9 := e9.symm; subst e9
      refine J.if_ne (tgt := 23) dX9_isUnreservedAll_18 (by decide) (fun c_18 => ?_) (fun c_18 => ?_)
      · skip
        refine J.iinc (v := nI (i + 1)) (L' := [some (.ref t), some (.int (nI (i + 1)))]) dX9_isUnreservedAll_23 rfl (nI_1 i) (by decide) rfl rfl ?_
        refine J.goto (tgt := 2) dX9_isUnreservedAll_26 (by decide) ?_
        refine ih (i + 1) (by omega) (by omega) (fun j hj => ?_)
        rcases Nat.lt_or_ge j i with q | q
        · exact hI j q
        · have e0 : j = i := by omega
          subst e0
          cases e1 : unres (f (b + j) &&& 255) with
          | true => rfl
          | false => rw [e1] at c_18; exact absurd rfl c_18
      · skip
        refine J.iconst (v := 0) dX9_isUnreservedAll_21 (by decide) ?_
        refine J.zret dX9_isUnreservedAll_22 rfl rfl ?_
        refine hQ0 (tl_all_no hlt ?_)
        cases e1 : unres (f (b + i) &&& 255) with
        | false => rfl
        | true => rw [e1] at c_18; exact absurd c_18 (by decide)

theorem c_Text_isUnreservedAll {Λ : kL} {σ : kh} {t r b n cap : Nat} {f : Nat → Int32} (ht : σ t = some (oT r (nI b) (nI n))) (hr : σ r = some (aB cap f)) (hc : b + n ≤ cap) (hm : cap ≤ 100000) : jCt Λ mX9_isUnreservedAll 0 0 [.ref t] σ (fun v σ' => v = some (.int (bI ((tl f b n).all (fun x => unres (x &&& 255))))) ∧ σ' = σ) := by
  refine jCt.of pn_X9 [some (.ref t), none] rfl (Nat.le_of_ble_eq_true rfl) fun X => ?_
  refine J.iconst (v := 0) dX9_isUnreservedAll_0 (by decide) ?_
  refine J.istore_n (L' := [some (.ref t), some (.int 0)]) dX9_isUnreservedAll_1 (by decide) rfl rfl ?_
  exact l_Text_isUnreservedAll ht hr hc hm (fun q => ⟨by rw [q]; rfl, rfl⟩) (fun q => ⟨by rw [q]; rfl, rfl⟩) (n + 1) 0 (Nat.zero_le _) (by omega) (fun j hj => absurd hj (by omega))

theorem l_Text_isVisible {Λ : kL} {X : kX} {Q : Option Value → kh → Prop} {σ : kh} {t r b n cap : Nat} {f : Nat → Int32} (ht : σ t = some (oT r (nI b) (nI n))) (hr : σ r = some (aB cap f)) (hc : b + n ≤ cap) (hm : cap ≤ 100000) (m : Nat) (hQ1 : (tl f b n).all (fun x => visb (x &&& 255)) = true → Q (some (.int 1)) σ) (hQ0 : (tl f b n).all (fun x => visb (x &&& 255)) = false → Q (some (.int 0)) σ) : ∀ (k i : Nat), i ≤ n → n + 1 ≤ i + k → (∀ j, j < i → visb (f (b + j) &&& 255) = true) → J Λ X mX9_isVisible 0 0 (jZ Λ X Q 0 0) 0 0 σ 20 [some (.ref t), some (.int (nI m)), some (.int (nI i))] [] := by
  intro k
  induction k with
  | zero => intro i h1 h2; exact absurd h2 (by omega)
  | succ k ih =>
    intro i h1 h2
    intro hI
    refine J.iload_n dX9_isVisible_20 rfl ?_
    refine J.aload_nR dX9_isVisible_21 rfl ?_
    refine J.getf dX9_isVisible_22 fl_X9_15 ht rfl ?_
    refine J.icmp_ge (tgt := 47) dX9_isVisible_25 (by decide) (fun c_25 => ?_) (fun c_25 => ?_)
    · skip
      have hle : n ≤ i := (nI_leI (by omega) (by omega)).mp c_25
      refine J.iconst (v := 1) dX9_isVisible_47 (by decide) ?_
      refine J.zret dX9_isVisible_48 rfl rfl ?_
      exact hQ1 (tl_all.mpr fun j hj => hI j (by omega))
    · skip
      have hlt : i < n := Nat.not_le.mp fun q => c_25 (nI_le q (by omega))
      refine J.aload_nR dX9_isVisible_28 rfl ?_
      refine J.iload_n dX9_isVisible_29 rfl ?_
      refine J.callV0 [.int (nI i)] dX9_isVisible_30 mdX9_at imX9_at seX9_at kc_10 ht lk_X9_32 rfl rfl rfl rfl (c_Text_atn ht hr hc hm (show i < n by omega)) ?_
      rintro _ σ9 ⟨rfl, e9⟩
      have e9 := e9.symm; subst e9
      refine J.callS0 (b := 0) [.int (f (b + i) &&& 255)] dX9_isVisible_33 mdX11_isVisibleByte ssX11_isVisibleByte lk_X9_70 rfl rfl rfl rfl (c_isVisibleByte (f (b + i) &&& 255)) ?_
      rintro _ σ9 ⟨rfl, e9⟩
      have e9 := e9.symm; subst e9
      refine J.if_ne (tgt := 41) dX9_isVisible_36 (by decide) (fun c_36 => ?_) (fun c_36 => ?_)
      · skip
        refine J.iinc (v := nI (i + 1)) (L' := [some (.ref t), some (.int (nI m)), some (.int (nI (i + 1)))]) dX9_isVisible_41 rfl (nI_1 i) (by decide) rfl rfl ?_
        refine J.goto (tgt := 20) dX9_isVisible_44 (by decide) ?_
        refine ih (i + 1) (by omega) (by omega) (fun j hj => ?_)
        rcases Nat.lt_or_ge j i with q | q
        · exact hI j q
        · have e0 : j = i := by omega
          subst e0
          cases e1 : visb (f (b + j) &&& 255) with
          | true => rfl
          | false => rw [e1] at c_36; exact absurd rfl c_36
      · skip
        refine J.iconst (v := 0) dX9_isVisible_39 (by decide) ?_
        refine J.zret dX9_isVisible_40 rfl rfl ?_
        refine hQ0 (tl_all_no hlt ?_)
        cases e1 : visb (f (b + i) &&& 255) with
        | false => rfl
        | true => rw [e1] at c_36; exact absurd c_36 (by decide)

theorem c_Text_isVisible {Λ : kL} {σ : kh} {t r b n cap : Nat} {f : Nat → Int32} (ht : σ t = some (oT r (nI b) (nI n))) (hr : σ r = some (aB cap f)) (hc : b + n ≤ cap) (hm : cap ≤ 100000) {m : Nat} (hm9 : m ≤ 100000) : jCt Λ mX9_isVisible 0 0 [.ref t, .int (nI m)] σ (fun v σ' => v = some (.int (bI (decide (1 ≤ n ∧ n ≤ m) && (tl f b n).all (fun x => visb (x &&& 255))))) ∧ σ' = σ) := by
  refine jCt.of pn_X9 [some (.ref t), some (.int (nI m)), none] rfl (Nat.le_of_ble_eq_true rfl) fun X => ?_
  refine J.aload_nR dX9_isVisible_0 rfl ?_
  refine J.getf dX9_isVisible_1 fl_X9_15 ht rfl ?_
  refine J.iconst (v := 1) dX9_isVisible_4 (by decide) ?_
  refine J.icmp_lt (tgt := 16) dX9_isVisible_5 (by decide) (fun c_5 => ?_) (fun c_5 => ?_)
  · skip
    refine J.iconst (v := 0) dX9_isVisible_16 (by decide) ?_
    refine J.zret dX9_isVisible_17 rfl rfl ?_
    refine ⟨?_, rfl⟩
    rw [decide_eq_false, Bool.false_and]
    · rfl
    · rintro ⟨q1, q2⟩
      first | exact absurd (show nI 1 ≤ nI n from nI_le q1 (by omega)) (Int32.not_le.mpr c_5) | exact c_13 (nI_le q2 (by omega))
  · skip
    refine J.aload_nR dX9_isVisible_8 rfl ?_
    refine J.getf dX9_isVisible_9 fl_X9_15 ht rfl ?_
    refine J.iload_n dX9_isVisible_12 rfl ?_
    refine J.icmp_le (tgt := 18) dX9_isVisible_13 (by decide) (fun c_13 => ?_) (fun c_13 => ?_)
    · skip
      refine J.iconst (v := 0) dX9_isVisible_18 (by decide) ?_
      refine J.istore_n (L' := [some (.ref t), some (.int (nI m)), some (.int 0)]) dX9_isVisible_19 (by decide) rfl rfl ?_
      exact l_Text_isVisible ht hr hc hm m (fun q => ⟨by rw [q, decide_eq_true (show 1 ≤ n ∧ n ≤ m from ⟨by have := (nI_leI (a := 1) (b := n) (by omega) (by omega)).mp (Int32.not_lt.mp c_5); omega, (nI_leI (by omega) (by omega)).mp c_13⟩)]; rfl, rfl⟩) (fun q => ⟨by rw [q, Bool.and_false]; rfl, rfl⟩) (n + 1) 0 (Nat.zero_le _) (by omega) (fun j hj => absurd hj (by omega))
    · skip
      refine J.iconst (v := 0) dX9_isVisible_16 (by decide) ?_
      refine J.zret dX9_isVisible_17 rfl rfl ?_
      refine ⟨?_, rfl⟩
      rw [decide_eq_false, Bool.false_and]
      · rfl
      · rintro ⟨q1, q2⟩
        first | exact absurd (show nI 1 ≤ nI n from nI_le q1 (by omega)) (Int32.not_le.mpr c_5) | exact c_13 (nI_le q2 (by omega))
