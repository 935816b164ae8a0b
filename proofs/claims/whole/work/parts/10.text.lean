/-! Text: its cells -/
abbrev oT (r : Nat) (b n : Int32) : kc := .inr (10, [.ref r, .int b, .int n])
/-- what Text.at answers -/
def tat (f : Nat → Int32) (b n : Nat) (i : Int32) : Int32 := if 0 ≤ i ∧ i < nI n then f (b + i.toNatClampNeg) &&& 255 else -1
theorem tat_in {f : Nat → Int32} {b n j : Nat} (h : j < n) (hn : n < 2 ^ 31) : tat f b n (nI j) = f (b + j) &&& 255 := by
  rw [tat, if_pos ⟨nI_pos' (by omega), nI_lt h hn⟩, nI_clamp (by omega)]
theorem tat_out {f : Nat → Int32} {b n j : Nat} (h : n ≤ j) (hj : j < 2 ^ 31) : tat f b n (nI j) = -1 := by
  rw [tat, if_neg fun q => nI_nlt h hj q.2]

/-- the first of k places from i on where p holds; i + k if nowhere -/
def fsti (p : Nat → Bool) : Nat → Nat → Nat
  | 0, i => i
  | k + 1, i => if p i = true then i else fsti p k (i + 1)
theorem fsti_t {p : Nat → Bool} {k i : Nat} (h : p i = true) : fsti p (k + 1) i = i := if_pos h
theorem fsti_f {p : Nat → Bool} {k i : Nat} (h : p i = false) : fsti p (k + 1) i = fsti p k (i + 1) := if_neg (by rw [h]; decide)
/-- p holds on all of 0 to k - 1 -/
def alln (p : Nat → Bool) : Nat → Bool
  | 0 => true
  | k + 1 => alln p k && p k
theorem alln_iff {p : Nat → Bool} {k : Nat} : alln p k = true ↔ ∀ j, j < k → p j = true := by
  induction k with
  | zero => exact ⟨fun _ j h => absurd h (by omega), fun _ => rfl⟩
  | succ k ih =>
    rw [alln, Bool.and_eq_true, ih]
    constructor
    · rintro ⟨h1, h2⟩ j hj
      rcases Nat.lt_or_ge j k with q | q
      · exact h1 j q
      · rw [show j = k by omega]; exact h2
    · exact fun h => ⟨fun j hj => h j (by omega), h k (by omega)⟩
theorem alln_no {p : Nat → Bool} {k j : Nat} (hj : j < k) (h : p j = false) : alln p k = false := by
  cases e : alln p k with
  | false => rfl
  | true => rw [alln_iff.mp e j hj] at h; cases h
def bI (b : Bool) : Int32 := if b = true then 1 else 0
theorem bI_t {b : Bool} (h : b = true) : bI b = 1 := by rw [h]; rfl
theorem bI_f {b : Bool} (h : b = false) : bI b = 0 := by rw [h]; rfl

theorem c_Text_size {Λ : kL} {σ : kh} {t r : Nat} {b n : Int32} (ht : σ t = some (oT r b n)) : jCt Λ mX9_size 0 0 [.ref t] σ (fun v σ' => v = some (.int n) ∧ σ' = σ) := by
  refine jCt.of pn_X9 [some (.ref t)] rfl (Nat.le_of_ble_eq_true rfl) fun X => ?_
  refine J.aload_nR dX9_size_0 rfl ?_
  refine J.getf dX9_size_1 fl_X9_15 ht rfl ?_
  refine J.iret dX9_size_4 rfl ?_
  exact ⟨rfl, rfl⟩

theorem c_Text_clear {Λ : kL} {σ : kh} {t r : Nat} {b n : Int32} (ht : σ t = some (oT r b n)) : jCt Λ mX9_clear 0 0 [.ref t] σ (fun v σ' => v = none ∧ σ' = kup σ t (oT r b 0)) := by
  refine jCt.of pn_X9 [some (.ref t)] rfl (Nat.le_of_ble_eq_true rfl) fun X => ?_
  refine J.aload_nR dX9_clear_0 rfl ?_
  refine J.iconst (v := 0) dX9_clear_1 (by decide) ?_
  refine J.putf (fs' := [.ref r, .int b, .int 0]) dX9_clear_2 fp_X9_15 (fun h => by cases h) ht rfl rfl (Nat.le_of_ble_eq_true rfl) rfl ?_
  have h_1 : (kup σ t (.inr (10, [.ref r, .int b, .int 0]))) t = some (.inr (10, [.ref r, .int b, .int 0])) := kup_s _ _ _
  refine J.vret dX9_clear_5 rfl ?_
  exact ⟨rfl, rfl⟩

theorem c_Text_at {Λ : kL} {σ : kh} {t r b n cap : Nat} {f : Nat → Int32} (ht : σ t = some (oT r (nI b) (nI n))) (hr : σ r = some (aB cap f)) (hc : b + n ≤ cap) (hm : cap ≤ 100000) (i : Int32) : jCt Λ mX9_at 0 0 [.ref t, .int i] σ (fun v σ' => v = some (.int (tat f b n i)) ∧ σ' = σ) := by
  refine jCt.of pn_X9 [some (.ref t), some (.int i)] rfl (Nat.le_of_ble_eq_true rfl) fun X => ?_
  refine J.iload_n dX9_at_0 rfl ?_
  refine J.if_lt (tgt := 26) dX9_at_1 (by decide) (fun c_1 => ?_) (fun c_1 => ?_)
  · skip
    refine J.iconst (v := (-1)) dX9_at_26 (by decide) ?_
    refine J.iret dX9_at_27 rfl ?_
    refine ⟨?_, rfl⟩
    rw [tat, if_neg]
    rintro ⟨g1, g2⟩
    first | exact absurd g1 (Int32.not_le.mpr c_1) | exact absurd g2 (Int32.not_lt.mpr c_9) | (exact c_23 (by rw [nI_add]; exact nI_lt (by have := (nI_ltI (a := j) (b := n) (by omega) (by omega)).mp g2; omega) (by omega)))
  · skip
    obtain ⟨j, hj, rfl⟩ := nI_of c_1
    refine J.iload_n dX9_at_4 rfl ?_
    refine J.aload_nR dX9_at_5 rfl ?_
    refine J.getf dX9_at_6 fl_X9_15 ht rfl ?_
    refine J.icmp_ge (tgt := 26) dX9_at_9 (by decide) (fun c_9 => ?_) (fun c_9 => ?_)
    · skip
      refine J.iconst (v := (-1)) dX9_at_26 (by decide) ?_
      refine J.iret dX9_at_27 rfl ?_
      refine ⟨?_, rfl⟩
      rw [tat, if_neg]
      rintro ⟨g1, g2⟩
      first | exact absurd g1 (Int32.not_le.mpr c_1) | exact absurd g2 (Int32.not_lt.mpr c_9) | (exact c_23 (by rw [nI_add]; exact nI_lt (by have := (nI_ltI (a := j) (b := n) (by omega) (by omega)).mp g2; omega) (by omega)))
    · skip
      have hjn : j < n := Nat.not_le.mp fun q => c_9 (nI_le q hj)
      refine J.aload_nR dX9_at_12 rfl ?_
      refine J.getf dX9_at_13 fl_X9_9 ht rfl ?_
      refine J.iload_n dX9_at_16 rfl ?_
      refine J.iadd dX9_at_17 ?_
      refine J.aload_nR dX9_at_18 rfl ?_
      refine J.getf dX9_at_19 fl_X9_24 ht rfl ?_
      refine J.alen (v := nI cap) dX9_at_22 hr (by decide) rfl ?_
      refine J.icmp_lt (tgt := 28) dX9_at_23 (by decide) (fun c_23 => ?_) (fun c_23 => ?_)
      · skip
        refine J.aload_nR dX9_at_28 rfl ?_
        refine J.getf dX9_at_29 fl_X9_24 ht rfl ?_
        refine J.aload_nR dX9_at_32 rfl ?_
        refine J.getf dX9_at_33 fl_X9_9 ht rfl ?_
        refine J.iload_n dX9_at_36 rfl ?_
        refine J.iadd dX9_at_37 ?_
        refine J.baload (j := (b + j)) dX9_at_38 hr (nI_add b j) (by omega) (by omega) ?_
        refine J.sipush (v := 255) dX9_at_39 (by decide) ?_
        refine J.iand dX9_at_42 ?_
        refine J.iret dX9_at_43 rfl ?_
        refine ⟨?_, rfl⟩
        rw [tat_in hjn (by omega)]
      · skip
        refine J.iconst (v := (-1)) dX9_at_26 (by decide) ?_
        refine J.iret dX9_at_27 rfl ?_
        refine ⟨?_, rfl⟩
        rw [tat, if_neg]
        rintro ⟨g1, g2⟩
        first | exact absurd g1 (Int32.not_le.mpr c_1) | exact absurd g2 (Int32.not_lt.mpr c_9) | (exact c_23 (by rw [nI_add]; exact nI_lt (by have := (nI_ltI (a := j) (b := n) (by omega) (by omega)).mp g2; omega) (by omega)))

theorem c_Text_cutTo {Λ : kL} {σ : kh} {t r : Nat} {b n : Int32} (ht : σ t = some (oT r b n)) (i : Int32) : jCt Λ mX9_cutTo 0 0 [.ref t, .int i] σ (fun v σ' => (¬ (0 ≤ i ∧ i ≤ n) ∧ v = some (.int 0) ∧ σ' = σ) ∨ ((0 ≤ i ∧ i ≤ n) ∧ v = some (.int 1) ∧ σ' = kup σ t (oT r b i))) := by
  refine jCt.of pn_X9 [some (.ref t), some (.int i)] rfl (Nat.le_of_ble_eq_true rfl) fun X => ?_
  refine J.iload_n dX9_cutTo_0 rfl ?_
  refine J.if_lt (tgt := 12) dX9_cutTo_1 (by decide) (fun c_1 => ?_) (fun c_1 => ?_)
  · skip
    refine J.iconst (v := 0) dX9_cutTo_12 (by decide) ?_
    refine J.zret dX9_cutTo_13 rfl rfl ?_
    exact Or.inl ⟨fun q => by first | exact absurd q.1 (Int32.not_le.mpr c_1) | exact absurd q.2 (Int32.not_le.mpr (Int32.not_le.mp c_9)), rfl, rfl⟩
  · skip
    refine J.iload_n dX9_cutTo_4 rfl ?_
    refine J.aload_nR dX9_cutTo_5 rfl ?_
    refine J.getf dX9_cutTo_6 fl_X9_15 ht rfl ?_
    refine J.icmp_le (tgt := 14) dX9_cutTo_9 (by decide) (fun c_9 => ?_) (fun c_9 => ?_)
    · skip
      refine J.aload_nR dX9_cutTo_14 rfl ?_
      refine J.iload_n dX9_cutTo_15 rfl ?_
      refine J.putf (fs' := [.ref r, .int b, .int i]) dX9_cutTo_16 fp_X9_15 (fun h => by cases h) ht rfl rfl (Nat.le_of_ble_eq_true rfl) rfl ?_
      have h_1 : (kup σ t (.inr (10, [.ref r, .int b, .int i]))) t = some (.inr (10, [.ref r, .int b, .int i])) := kup_s _ _ _
      refine J.iconst (v := 1) dX9_cutTo_19 (by decide) ?_
      refine J.zret dX9_cutTo_20 rfl rfl ?_
      exact Or.inr ⟨⟨Int32.not_lt.mp c_1, c_9⟩, rfl, rfl⟩
    · skip
      refine J.iconst (v := 0) dX9_cutTo_12 (by decide) ?_
      refine J.zret dX9_cutTo_13 rfl rfl ?_
      exact Or.inl ⟨fun q => by first | exact absurd q.1 (Int32.not_le.mpr c_1) | exact absurd q.2 (Int32.not_le.mpr (Int32.not_le.mp c_9)), rfl, rfl⟩

theorem c_Text_showEnd {Λ : kL} {σ : kh} {t r : Nat} {b n : Int32} (ht : σ t = some (oT r b n)) {u r2 : Nat} {b2 n2 : Int32} (hu : σ u = some (oT r2 b2 n2)) (ne_u_t : u ≠ t) (i : Int32) : jCt Λ mX9_showEnd 0 0 [.ref t, .ref u, .int i] σ (fun v σ' => v = none ∧ σ' = kup σ t (oT r i (n2 - i))) := by
  refine jCt.of pn_X9 [some (.ref t), some (.ref u), some (.int i)] rfl (Nat.le_of_ble_eq_true rfl) fun X => ?_
  refine J.aload_nR dX9_showEnd_0 rfl ?_
  refine J.iload_n dX9_showEnd_1 rfl ?_
  refine J.putf (fs' := [.ref r, .int i, .int n]) dX9_showEnd_2 fp_X9_9 (fun h => by cases h) ht rfl rfl (Nat.le_of_ble_eq_true rfl) rfl ?_
  have h_1 : (kup σ t (.inr (10, [.ref r, .int i, .int n]))) t = some (.inr (10, [.ref r, .int i, .int n])) := kup_s _ _ _
  have h_2 : (kup σ t (.inr (10, [.ref r, .int i, .int n]))) u = some (.inr (10, [.ref r2, .int b2, .int n2])) := kup_i ne_u_t hu
  refine J.aload_nR dX9_showEnd_5 rfl ?_
  refine J.aload_nR dX9_showEnd_6 rfl ?_
  refine J.getf dX9_showEnd_7 fl_X9_15 h_2 rfl ?_
  refine J.iload_n dX9_showEnd_10 rfl ?_
  refine J.isub dX9_showEnd_11 ?_
  refine J.putf (fs' := [.ref r, .int i, .int (n2 - i)]) dX9_showEnd_12 fp_X9_15 (fun h => by cases h) h_1 rfl rfl (Nat.le_of_ble_eq_true rfl) rfl ?_
  have h_3 : (kup (kup σ t (.inr (10, [.ref r, .int i, .int n]))) t (.inr (10, [.ref r, .int i, .int (n2 - i)]))) t = some (.inr (10, [.ref r, .int i, .int (n2 - i)])) := kup_s _ _ _
  have h_4 : (kup (kup σ t (.inr (10, [.ref r, .int i, .int n]))) t (.inr (10, [.ref r, .int i, .int (n2 - i)]))) u = some (.inr (10, [.ref r2, .int b2, .int n2])) := kup_i ne_u_t h_2
  refine J.vret dX9_showEnd_15 rfl ?_
  exact ⟨rfl, by rw [kup_up]⟩

theorem c_Text_add {Λ : kL} {σ : kh} {t r b n cap : Nat} {f : Nat → Int32} (ht : σ t = some (oT r (nI b) (nI n))) (hr : σ r = some (aB cap f)) (hc : b + n < cap) (hm : cap ≤ 100000) (x : Int32) : jCt Λ mX9_add 0 0 [.ref t, .int x] σ (fun v σ' => v = none ∧ σ' = kup (kup σ r (aB cap (upd f (b + n) (vp_nar .byte x.toInt8.toInt32)))) t (oT r (nI b) (nI n + 1))) := by
  refine jCt.of pn_X9 [some (.ref t), some (.int x)] rfl (Nat.le_of_ble_eq_true rfl) fun X => ?_
  refine J.aload_nR dX9_add_0 rfl ?_
  refine J.getf dX9_add_1 fl_X9_9 ht rfl ?_
  refine J.aload_nR dX9_add_4 rfl ?_
  refine J.getf dX9_add_5 fl_X9_15 ht rfl ?_
  refine J.iadd dX9_add_8 ?_
  refine J.aload_nR dX9_add_9 rfl ?_
  refine J.getf dX9_add_10 fl_X9_24 ht rfl ?_
  refine J.alen (v := nI cap) dX9_add_13 hr (by decide) rfl ?_
  refine J.icmp_ge (tgt := 43) dX9_add_14 (by decide) (fun c_14 => absurd c_14 (by rw [nI_add]; exact nI_ge (by omega) (by omega))) (fun c_14 => ?_)
  refine J.aload_nR dX9_add_17 rfl ?_
  refine J.getf dX9_add_18 fl_X9_24 ht rfl ?_
  refine J.aload_nR dX9_add_21 rfl ?_
  refine J.getf dX9_add_22 fl_X9_9 ht rfl ?_
  refine J.aload_nR dX9_add_25 rfl ?_
  refine J.getf dX9_add_26 fl_X9_15 ht rfl ?_
  refine J.iadd dX9_add_29 ?_
  refine J.iload_n dX9_add_30 rfl ?_
  refine J.i2b dX9_add_31 ?_
  refine J.bastore (j := (b + n)) dX9_add_32 hr (nI_add b n) (by omega) (by omega) ?_
  have h_1 : (kup σ r (aB cap (upd f (b + n) (vp_nar .byte x.toInt8.toInt32)))) t = some (.inr (10, [.ref r, .int (nI b), .int (nI n)])) := kup_i (kne_oa ht hr) ht
  have h_2 : (kup σ r (aB cap (upd f (b + n) (vp_nar .byte x.toInt8.toInt32)))) r = some (aB cap (upd f (b + n) (vp_nar .byte x.toInt8.toInt32))) := kup_s _ _ _
  refine J.aload_nR dX9_add_33 rfl ?_
  refine J.dup dX9_add_34 rfl ?_
  refine J.getf dX9_add_35 fl_X9_15 h_1 rfl ?_
  refine J.iconst (v := 1) dX9_add_38 (by decide) ?_
  refine J.iadd dX9_add_39 ?_
  refine J.putf (fs' := [.ref r, .int (nI b), .int ((nI n) + 1)]) dX9_add_40 fp_X9_15 (fun h => by cases h) h_1 rfl rfl (Nat.le_of_ble_eq_true rfl) rfl ?_
  have h_3 : (kup (kup σ r (aB cap (upd f (b + n) (vp_nar .byte x.toInt8.toInt32)))) t (.inr (10, [.ref r, .int (nI b), .int ((nI n) + 1)]))) t = some (.inr (10, [.ref r, .int (nI b), .int ((nI n) + 1)])) := kup_s _ _ _
  have h_4 : (kup (kup σ r (aB cap (upd f (b + n) (vp_nar .byte x.toInt8.toInt32)))) t (.inr (10, [.ref r, .int (nI b), .int ((nI n) + 1)]))) r = some (aB cap (upd f (b + n) (vp_nar .byte x.toInt8.toInt32))) := kup_i (kne_ao h_2 h_1) h_2
  refine J.vret dX9_add_43 rfl ?_
  exact ⟨rfl, rfl⟩

theorem l_Text_indexOf {Λ : kL} {X : kX} {Q : Option Value → kh → Prop} {σ : kh} {t r b n cap : Nat} {f : Nat → Int32} (ht : σ t = some (oT r (nI b) (nI n))) (hr : σ r = some (aB cap f)) (hc : b + n ≤ cap) (hm : cap ≤ 100000) (x g : Int32) {e : Nat} (he : e ≤ 100000) : ∀ (k i : Nat), i ≤ e → e + 1 ≤ i + k → Q (some (.int (nI (fsti (fun j => decide (tat f b n (nI j) = x)) (e - i) i)))) σ → J Λ X mX9_indexOf 0 0 (jZ Λ X Q 0 0) 0 0 σ 3 [some (.ref t), some (.int x), some (.int g), some (.int (nI e)), some (.int (nI i))] [] := by
  intro k
  induction k with
  | zero => intro i h1 h2; exact absurd h2 (by omega)
  | succ k ih =>
    intro i h1 h2
    intro hQ
    refine J.iload dX9_indexOf_3 rfl ?_
    refine J.iload_n dX9_indexOf_5 rfl ?_
    refine J.icmp_ge (tgt := 28) dX9_indexOf_6 (by decide) (fun c_6 => ?_) (fun c_6 => ?_)
    · skip
      have hle : e ≤ i := (nI_leI (by omega) (by omega)).mp c_6
      refine J.iload_n dX9_indexOf_28 rfl ?_
      refine J.iret dX9_indexOf_29 rfl ?_
      rw [show e - i = 0 by omega] at hQ
      have hie : i = e := by omega
      subst hie
      exact hQ
    · skip
      have hlt : i < e := Nat.not_le.mp fun q => c_6 (nI_le q (by omega))
      refine J.aload_nR dX9_indexOf_9 rfl ?_
      refine J.iload dX9_indexOf_10 rfl ?_
      refine J.callV0 [.int (nI i)] dX9_indexOf_12 mdX9_at imX9_at seX9_at kc_10 ht lk_X9_32 rfl rfl rfl rfl (c_Text_at ht hr hc hm (nI i)) ?_
      rintro _ σ9 ⟨rfl, e9⟩
      have e9 := e9.symm; subst e9
      refine J.iload_n dX9_indexOf_15 rfl ?_
      refine J.icmp_ne (tgt := 22) dX9_indexOf_16 (by decide) (fun c_16 => ?_) (fun c_16 => ?_)
      · skip
        refine J.iinc (v := nI (i + 1)) (L' := [some (.ref t), some (.int x), some (.int g), some (.int (nI e)), some (.int (nI (i + 1)))]) dX9_indexOf_22 rfl (nI_1 i) (by decide) rfl rfl ?_
        refine J.goto (tgt := 3) dX9_indexOf_25 (by decide) ?_
        refine ih (i + 1) (by omega) (by omega) ?_
        rw [show e - i = (e - (i + 1)) + 1 by omega, fsti_f (decide_eq_false c_16)] at hQ
        exact hQ
      · skip
        have c_16 : ¬ ¬ tat f b n (nI i) = x := fun q => q c_16
        refine J.iload dX9_indexOf_19 rfl ?_
        refine J.iret dX9_indexOf_21 rfl ?_
        rw [show e - i = (e - (i + 1)) + 1 by omega, fsti_t (decide_eq_true (Classical.not_not.mp c_16))] at hQ
        exact hQ

theorem c_Text_indexOf {Λ : kL} {σ : kh} {t r b n cap : Nat} {f : Nat → Int32} (ht : σ t = some (oT r (nI b) (nI n))) (hr : σ r = some (aB cap f)) (hc : b + n ≤ cap) (hm : cap ≤ 100000) (x : Int32) {i e : Nat} (hi : i ≤ e) (he : e ≤ 100000) : jCt Λ mX9_indexOf 0 0 [.ref t, .int x, .int (nI i), .int (nI e)] σ (fun v σ' => v = some (.int (nI (fsti (fun j => decide (tat f b n (nI j) = x)) (e - i) i))) ∧ σ' = σ) := by
  refine jCt.of pn_X9 [some (.ref t), some (.int x), some (.int (nI i)), some (.int (nI e)), none] rfl (Nat.le_of_ble_eq_true rfl) fun X => ?_
  refine J.iload_n dX9_indexOf_0 rfl ?_
  refine J.istore (L' := [some (.ref t), some (.int x), some (.int (nI i)), some (.int (nI e)), some (.int (nI i))]) dX9_indexOf_1 (by decide) rfl rfl ?_
  exact l_Text_indexOf ht hr hc hm x (nI i) he (e + 1) i hi (by omega) ⟨rfl, rfl⟩
