/-! the reference: DICE -/
def mDi (g : Nat → Int32) (T : List (List Int32)) : Prop := ∀ i, i < T.length → tl g (4 * i) 4 = T.getD i []
theorem same_n {f g : Nat → Int32} {i j n : Nat} : alln (fun y => decide (f (i + y) = g (j + y))) n = decide (tl f i n = tl g j n) := by
  cases h : alln (fun y => decide (f (i + y) = g (j + y))) n with
  | true => exact (decide_eq_true (tl_eq.mpr fun y hy => of_decide_eq_true (alln_iff.mp h y hy))).symm
  | false =>
    refine (decide_eq_false fun q => ?_).symm
    rw [alln_iff.mpr fun y hy => decide_eq_true (tl_eq.mp q y hy)] at h
    cases h
theorem m_areSameT {Λ : kL} {m : Nat} {A : Nat → Nat} {I : Nat → Int32} {F : Nat → Nat → Int32} (hA : mInj A) {k1 k2 : Nat} (r1 : mRef k1 = true) (t1 : mK k1 = 1) (r2 : mRef k2 = true) (t2 : mK k2 = 1) {i j : Nat} (hi : 4 * i + 4 ≤ mN k1) (hj : 4 * j + 4 ≤ mN k2) {d e : List Int32} (hd : tl (F k1) (4 * i) 4 = d) (he : tl (F k2) (4 * j) 4 = e) : mCt Λ mX12_areSame m A [.ref (A k1), .int (nI i), .ref (A k2), .int (nI j)] I F (fun r I' F' => r = some (.int (bI (decide (d = e)))) ∧ I' = I ∧ F' = F) := by
  have h := m_areSame (Λ := Λ) (m := m) (I := I) (F := F) hA r1 t1 r2 t2 hi hj
  rw [same_n, hd, he] at h
  exact h
theorem getD_mem {T : List (List Int32)} {k : Nat} (h : k < T.length) : T.getD k [] ∈ T := by
  rw [List.getD_eq_getElem?_getD, List.getElem?_eq_getElem h]
  exact List.getElem_mem h
theorem mem_getD {T : List (List Int32)} {d : List Int32} (h : d ∈ T) : ∃ k, k < T.length ∧ T.getD k [] = d := by
  obtain ⟨k, hk, e⟩ := List.mem_iff_getElem.mp h
  refine ⟨k, hk, ?_⟩
  rw [List.getD_eq_getElem?_getD, List.getElem?_eq_getElem hk]
  exact e
def nonB (U : List (List Int32)) (d : List Int32) (x : Nat) : Bool := alln (fun k => !decide (d = U.getD k [])) x
theorem nonB_s {U : List (List Int32)} {d : List Int32} {x : Nat} : nonB U d (x + 1) = (nonB U d x && !decide (d = U.getD x [])) := rfl
theorem nonB_t {U : List (List Int32)} {d : List Int32} (h : nonB U d U.length = true) : ¬ d ∈ U := by
  intro q
  obtain ⟨k, hk, e⟩ := mem_getD q
  have h1 := alln_iff.mp h k hk
  rw [decide_eq_true e.symm] at h1
  cases h1
theorem nonB_f {U : List (List Int32)} {d : List Int32} {x : Nat} (hx : x ≤ U.length) (h : nonB U d x = false) : d ∈ U := by
  refine Classical.byContradiction fun q => ?_
  have : nonB U d x = true := alln_iff.mpr fun k hk => by rw [decide_eq_false (fun e => q (by rw [e]; exact getD_mem (by omega)))]; rfl
  rw [this] at h
  cases h
/-- the first number of the DICE that is new, and those behind it -/
def tk1 (U : List (List Int32)) : List (List Int32) → Option (List Int32 × List (List Int32))
  | [] => none
  | d :: W => if d ∈ U then tk1 U W else some (d, W)
theorem drop_at {W : List (List Int32)} {x : Nat} (h : x < W.length) : W.drop x = W.getD x [] :: W.drop (x + 1) := by
  rw [List.drop_eq_getElem_cons h, List.getD_eq_getElem?_getD, List.getElem?_eq_getElem h]
  rfl
theorem tk1_in {U W : List (List Int32)} {x : Nat} (h : x < W.length) (hm : W.getD x [] ∈ U) : tk1 U (W.drop x) = tk1 U (W.drop (x + 1)) := by
  rw [drop_at h, tk1, if_pos hm]
theorem tk1_out {U W : List (List Int32)} {x : Nat} (h : x < W.length) (hm : ¬ W.getD x [] ∈ U) : tk1 U (W.drop x) = some (W.getD x [], W.drop (x + 1)) := by
  rw [drop_at h, tk1, if_neg hm]
theorem tk1_end {U W : List (List Int32)} {x : Nat} (h : W.length ≤ x) : tk1 U (W.drop x) = none := by
  rw [List.drop_eq_nil_of_le h]
  rfl
def shf (f : Nat → Int32) (c i : Nat) : Nat → Int32 := fun j => if j < i then f (c + j) else f j
theorem shf_0 (f : Nat → Int32) (c : Nat) : shf f c 0 = f := funext fun j => if_neg (Nat.not_lt_zero j)
theorem shf_s (f : Nat → Int32) (c i : Nat) : upd (shf f c i) i (f (c + i)) = shf f c (i + 1) := by
  funext j
  by_cases e : j = i
  · rw [e, pk_us, shf, if_pos (Nat.lt_succ_self i)]
  · rw [pk_un e, shf, shf]
    by_cases h : j < i
    · rw [if_pos h, if_pos (by omega)]
    · rw [if_neg h, if_neg (by omega)]
theorem shf_hi {f : Nat → Int32} {c i : Nat} (h : 0 < c) : shf f c i (c + i) = f (c + i) := if_neg (by omega)
theorem mDi_shf {f : Nat → Int32} {W : List (List Int32)} (h : mDi f W) {x : Nat} : mDi (shf f (4 * x) (4 * (W.length - x))) (W.drop x) := by
  intro i hi
  rw [List.length_drop] at hi
  have h1 := h (x + i) (by omega)
  have e : (W.drop x).getD i [] = W.getD (x + i) [] := by rw [List.getD_eq_getElem?_getD, List.getElem?_drop, List.getD_eq_getElem?_getD]
  rw [e, ← h1]
  refine tl_eq.mpr fun y hy => ?_
  rw [shf, if_pos (by omega)]
  congr 1
  omega
theorem tl_app2 {f : Nat → Int32} {i : Nat} {l k : List Int32} : updl (updl f i l) (i + l.length) k = updl f i (l ++ k) := updl_app f i l k
theorem mDi_app {f : Nat → Int32} {U : List (List Int32)} (h : mDi f U) {d : List Int32} (hd : d.length = 4) : mDi (updl f (4 * U.length) d) (U ++ [d]) := by
  intro i hi
  rw [List.length_append] at hi
  by_cases e : i < U.length
  · have e1 : (U ++ [d]).getD i [] = U.getD i [] := by rw [List.getD_eq_getElem?_getD, List.getElem?_append_left e, List.getD_eq_getElem?_getD]
    rw [e1, ← h i e]
    exact tl_eq.mpr fun y hy => updl_out (Or.inl (by omega))
  · have hi2 : i < U.length + 1 := hi
    have e0 : i = U.length := by omega
    have e1 : (U ++ [d]).getD i [] = d := by rw [e0, List.getD_eq_getElem?_getD, List.getElem?_append_right (Nat.le_refl _), Nat.sub_self]; rfl
    rw [e1, e0]
    have := tl_in (f := f) (i := 4 * U.length) (l := d)
    rwa [hd] at this

theorem m_isUsedN {Λ : kL} {m : Nat} {A : Nat → Nat} {I : Nat → Int32} {F : Nat → Nat → Int32} (hA : mInj A) {U W : List (List Int32)} (h24 : I 24 = nI U.length) (hUl : U.length ≤ 800) (hU : mDi (F 23) U) (hWl : W.length ≤ 60) (hW : mDi (F 21) W) {a : Nat} (ha : a < W.length) : mCt Λ mX12_isUsed m A [.ref m, .int (nI a), .int (-1)] I F (fun r I' F' => r = some (.int (bI (decide (W.getD a [] ∈ U)))) ∧ I' = I ∧ F' = F) := by
  refine mCt.of hA pn_X12 [some (.ref m), some (.int (nI a)), some (.int (-1)), none, none] rfl (Nat.le_of_ble_eq_true rfl) fun X => ?_
  refine M.iconst (v := 0) dX12_isUsed_0 (by decide) ?_
  refine M.istore_n (L' := [some (.ref m), some (.int (nI a)), some (.int (-1)), some (.int 0), none]) dX12_isUsed_1 (by decide) rfl rfl ?_
  refine M.iconst (v := 0) dX12_isUsed_2 (by decide) ?_
  refine M.istore (L' := [some (.ref m), some (.int (nI a)), some (.int (-1)), some (.int 0), some (.int 0)]) dX12_isUsed_3 (by decide) rfl rfl ?_
  have cut_5 : ∀ (k_5 : Nat) (x : Nat), (x ≤ U.length) → (U.length + 1 ≤ x + k_5) → M Λ X mX12_isUsed m A (fun r I' F' => r = some (.int (bI (decide (W.getD a [] ∈ U)))) ∧ I' = I ∧ F' = F) I F 5 [some (.ref m), some (.int (nI a)), some (.int (-1)), some (.int (bI (!nonB U (W.getD a []) x))), some (.int (nI x))] [] := by
    intro k_5
    induction k_5 with
    | zero => intro x h1 h2; exact absurd h2 (by omega)
    | succ k_5 ih_5 =>
      intro x h1 h2
      refine M.iload dX12_isUsed_5 rfl ?_
      refine M.aload_nR dX12_isUsed_7 rfl ?_
      refine M.geti (v := nI U.length) dX12_isUsed_8 fl_X12_271 rfl rfl h24 ?_
      refine M.icmp_ge (tgt := 39) dX12_isUsed_11 (by decide) (fun c_11 => ?_) (fun c_11 => ?_)
      · skip
        have e1 := nI_gen c_11 h1 (by omega); subst e1
        skip
        refine M.iload_n dX12_isUsed_39 rfl ?_
        refine M.if_ne (tgt := 63) dX12_isUsed_40 (by decide) (fun c_40 => ?_) (fun c_40 => ?_)
        · skip
          have hin9 : W.getD a [] ∈ U := by first | exact hin | exact nonB_f (Nat.le_refl _) (by have := bt1 c_40; cases h9 : nonB U (W.getD a []) U.length; rfl; rw [h9] at this; cases this)
          refine M.iconst (v := 1) dX12_isUsed_63 (by decide) ?_
          refine M.goto (tgt := 68) dX12_isUsed_64 (by decide) ?_
          refine M.zret dX12_isUsed_68 rfl rfl ?_
          refine ⟨congrArg (fun z => some (Value.int z)) ?_, rfl, rfl⟩
          rw [decide_eq_true hin9]
          rfl
        · skip
          have hout : ¬ W.getD a [] ∈ U := by first | exact absurd (bt1 c_15) (by rw [(bI_eq0 _).mp c_40]; decide) | exact nonB_t (by have := (bI_eq0 _).mp c_40; cases h9 : nonB U (W.getD a []) U.length; rw [h9] at this; cases this; rfl)
          refine M.iload_n dX12_isUsed_43 rfl ?_
          refine M.if_lt (tgt := 67) dX12_isUsed_44 (by decide) (fun c_44 => ?_) (fun c_44 => absurd (by decide) c_44)
          refine M.iconst (v := 0) dX12_isUsed_67 (by decide) ?_
          refine M.zret dX12_isUsed_68 rfl rfl ?_
          refine ⟨congrArg (fun z => some (Value.int z)) ?_, rfl, rfl⟩
          rw [decide_eq_false hout]
          rfl
      · skip
        have lt_x : x < U.length := nI_ltn c_11 (by omega) (by omega)
        refine M.iload_n dX12_isUsed_14 rfl ?_
        refine M.if_ne (tgt := 39) dX12_isUsed_15 (by decide) (fun c_15 => ?_) (fun c_15 => ?_)
        · skip
          have hin : W.getD a [] ∈ U := nonB_f h1 (by have := bt1 c_15; cases h9 : nonB U (W.getD a []) x; rfl; rw [h9] at this; cases this)
          refine M.iload_n dX12_isUsed_39 rfl ?_
          refine M.if_ne (tgt := 63) dX12_isUsed_40 (by decide) (fun c_40 => ?_) (fun c_40 => ?_)
          · skip
            have hin9 : W.getD a [] ∈ U := by first | exact hin | exact nonB_f (Nat.le_refl _) (by have := bt1 c_40; cases h9 : nonB U (W.getD a []) U.length; rfl; rw [h9] at this; cases this)
            refine M.iconst (v := 1) dX12_isUsed_63 (by decide) ?_
            refine M.goto (tgt := 68) dX12_isUsed_64 (by decide) ?_
            refine M.zret dX12_isUsed_68 rfl rfl ?_
            refine ⟨congrArg (fun z => some (Value.int z)) ?_, rfl, rfl⟩
            rw [decide_eq_true hin9]
            rfl
          · skip
            have hout : ¬ W.getD a [] ∈ U := by first | exact absurd (bt1 c_15) (by rw [(bI_eq0 _).mp c_40]; decide) | exact nonB_t (by have := (bI_eq0 _).mp c_40; cases h9 : nonB U (W.getD a []) U.length; rw [h9] at this; cases this; rfl)
            refine M.iload_n dX12_isUsed_43 rfl ?_
            refine M.if_lt (tgt := 67) dX12_isUsed_44 (by decide) (fun c_44 => ?_) (fun c_44 => absurd (by decide) c_44)
            refine M.iconst (v := 0) dX12_isUsed_67 (by decide) ?_
            refine M.zret dX12_isUsed_68 rfl rfl ?_
            refine ⟨congrArg (fun z => some (Value.int z)) ?_, rfl, rfl⟩
            rw [decide_eq_false hout]
            rfl
        · skip
          have hbt : nonB U (W.getD a []) x = true := by have := (bI_eq0 _).mp c_15; cases h9 : nonB U (W.getD a []) x; rw [h9] at this; cases this; rfl
          refine M.aload_nR dX12_isUsed_18 rfl ?_
          refine M.getr dX12_isUsed_19 fl_X12_54 rfl rfl ?_
          refine M.iload_n dX12_isUsed_22 rfl ?_
          refine M.aload_nR dX12_isUsed_23 rfl ?_
          refine M.getr dX12_isUsed_24 fl_X12_57 rfl rfl ?_
          refine M.iload dX12_isUsed_27 rfl ?_
          refine M.callS [.ref (A 21), .int (nI a), .ref (A 23), .int (nI x)] dX12_isUsed_29 mdX12_areSame ssX12_areSame lk_X12_274 rfl rfl rfl rfl (m_areSameT hA (k1 := 21) (k2 := 23) rfl rfl rfl rfl (i := a) (j := x) (show 4 * a + 4 ≤ 240 by omega) (show 4 * x + 4 ≤ 3200 by omega) (hW a ha) (hU x lt_x)) ?_
          rintro _ I9 F9 ⟨rfl, e9, e8⟩
          have e9 := e9.symm; subst e9; have e8 := e8.symm; subst e8
          refine M.istore_n (L' := [some (.ref m), some (.int (nI a)), some (.int (-1)), some (.int (bI (decide (W.getD a [] = U.getD x [])))), some (.int (nI x))]) dX12_isUsed_32 (by decide) rfl rfl ?_
          refine M.iinc (v := nI (x + 1)) (L' := [some (.ref m), some (.int (nI a)), some (.int (-1)), some (.int (bI (decide (W.getD a [] = U.getD x [])))), some (.int (nI (x + 1)))]) dX12_isUsed_33 rfl (nI_1 x) (by decide) rfl rfl ?_
          refine M.goto (tgt := 5) dX12_isUsed_36 (by decide) ?_
          have t9 := ih_5 (x + 1) (by omega) (by omega)
          rw [nonB_s, hbt, Bool.true_and, Bool.not_not] at t9
          exact t9
  exact cut_5 (U.length + 1) 0 (by omega) (by omega)

theorem m_isUsedS {Λ : kL} {m : Nat} {A : Nat → Nat} {I : Nat → Int32} {F : Nat → Nat → Int32} (hA : mInj A) {U W : List (List Int32)} (h24 : I 24 = nI U.length) (hUl : U.length ≤ 800) (hU : mDi (F 23) U) (hWl : W.length ≤ 60) (hW : mDi (F 21) W) {a : Nat} (ha : a < W.length) {b9 : Nat} (hb9 : b9 < W.length) : mCt Λ mX12_isUsed m A [.ref m, .int (nI a), .int (nI b9)] I F (fun r I' F' => r = some (.int (bI (decide (W.getD a [] ∈ U ++ [W.getD b9 []])))) ∧ I' = I ∧ F' = F) := by
  refine mCt.of hA pn_X12 [some (.ref m), some (.int (nI a)), some (.int (nI b9)), none, none] rfl (Nat.le_of_ble_eq_true rfl) fun X => ?_
  refine M.iconst (v := 0) dX12_isUsed_0 (by decide) ?_
  refine M.istore_n (L' := [some (.ref m), some (.int (nI a)), some (.int (nI b9)), some (.int 0), none]) dX12_isUsed_1 (by decide) rfl rfl ?_
  refine M.iconst (v := 0) dX12_isUsed_2 (by decide) ?_
  refine M.istore (L' := [some (.ref m), some (.int (nI a)), some (.int (nI b9)), some (.int 0), some (.int 0)]) dX12_isUsed_3 (by decide) rfl rfl ?_
  have cut_5 : ∀ (k_5 : Nat) (x : Nat), (x ≤ U.length) → (U.length + 1 ≤ x + k_5) → M Λ X mX12_isUsed m A (fun r I' F' => r = some (.int (bI (decide (W.getD a [] ∈ U ++ [W.getD b9 []])))) ∧ I' = I ∧ F' = F) I F 5 [some (.ref m), some (.int (nI a)), some (.int (nI b9)), some (.int (bI (!nonB U (W.getD a []) x))), some (.int (nI x))] [] := by
    intro k_5
    induction k_5 with
    | zero => intro x h1 h2; exact absurd h2 (by omega)
    | succ k_5 ih_5 =>
      intro x h1 h2
      refine M.iload dX12_isUsed_5 rfl ?_
      refine M.aload_nR dX12_isUsed_7 rfl ?_
      refine M.geti (v := nI U.length) dX12_isUsed_8 fl_X12_271 rfl rfl h24 ?_
      refine M.icmp_ge (tgt := 39) dX12_isUsed_11 (by decide) (fun c_11 => ?_) (fun c_11 => ?_)
      · skip
        have e1 := nI_gen c_11 h1 (by omega); subst e1
        skip
        refine M.iload_n dX12_isUsed_39 rfl ?_
        refine M.if_ne (tgt := 63) dX12_isUsed_40 (by decide) (fun c_40 => ?_) (fun c_40 => ?_)
        · skip
          have hin9 : W.getD a [] ∈ U := by first | exact hin | exact nonB_f (Nat.le_refl _) (by have := bt1 c_40; cases h9 : nonB U (W.getD a []) U.length; rfl; rw [h9] at this; cases this)
          refine M.iconst (v := 1) dX12_isUsed_63 (by decide) ?_
          refine M.goto (tgt := 68) dX12_isUsed_64 (by decide) ?_
          refine M.zret dX12_isUsed_68 rfl rfl ?_
          refine ⟨congrArg (fun z => some (Value.int z)) ?_, rfl, rfl⟩
          rw [decide_eq_true (List.mem_append.mpr (by first | exact Or.inl hin9 | exact Or.inr (List.mem_singleton.mpr (of_decide_eq_true (bt1 c_60)))))]
          rfl
        · skip
          have hout : ¬ W.getD a [] ∈ U := by first | exact absurd (bt1 c_15) (by rw [(bI_eq0 _).mp c_40]; decide) | exact nonB_t (by have := (bI_eq0 _).mp c_40; cases h9 : nonB U (W.getD a []) U.length; rw [h9] at this; cases this; rfl)
          refine M.iload_n dX12_isUsed_43 rfl ?_
          refine M.if_lt (tgt := 67) dX12_isUsed_44 (by decide) (fun c_44 => absurd c_44 (nI_pos (by omega))) (fun c_44 => ?_)
          refine M.aload_nR dX12_isUsed_47 rfl ?_
          refine M.getr dX12_isUsed_48 fl_X12_54 rfl rfl ?_
          refine M.iload_n dX12_isUsed_51 rfl ?_
          refine M.aload_nR dX12_isUsed_52 rfl ?_
          refine M.getr dX12_isUsed_53 fl_X12_54 rfl rfl ?_
          refine M.iload_n dX12_isUsed_56 rfl ?_
          refine M.callS [.ref (A 21), .int (nI a), .ref (A 21), .int (nI b9)] dX12_isUsed_57 mdX12_areSame ssX12_areSame lk_X12_274 rfl rfl rfl rfl (m_areSameT hA (k1 := 21) (k2 := 21) rfl rfl rfl rfl (i := a) (j := b9) (show 4 * a + 4 ≤ 240 by omega) (show 4 * b9 + 4 ≤ 240 by omega) (hW a ha) (hW b9 hb9)) ?_
          rintro _ I9 F9 ⟨rfl, e9, e8⟩
          have e9 := e9.symm; subst e9; have e8 := e8.symm; subst e8
          refine M.if_eq (tgt := 67) dX12_isUsed_60 (by decide) (fun c_60 => ?_) (fun c_60 => ?_)
          · skip
            refine M.iconst (v := 0) dX12_isUsed_67 (by decide) ?_
            refine M.zret dX12_isUsed_68 rfl rfl ?_
            refine ⟨congrArg (fun z => some (Value.int z)) ?_, rfl, rfl⟩
            rw [decide_eq_false (fun q => (List.mem_append.mp q).elim hout (fun z => of_decide_eq_false ((bI_eq0 _).mp c_60) (List.mem_singleton.mp z)))]
            rfl
          · skip
            refine M.iconst (v := 1) dX12_isUsed_63 (by decide) ?_
            refine M.goto (tgt := 68) dX12_isUsed_64 (by decide) ?_
            refine M.zret dX12_isUsed_68 rfl rfl ?_
            refine ⟨congrArg (fun z => some (Value.int z)) ?_, rfl, rfl⟩
            rw [decide_eq_true (List.mem_append.mpr (by first | exact Or.inl hin9 | exact Or.inr (List.mem_singleton.mpr (of_decide_eq_true (bt1 c_60)))))]
            rfl
      · skip
        have lt_x : x < U.length := nI_ltn c_11 (by omega) (by omega)
        refine M.iload_n dX12_isUsed_14 rfl ?_
        refine M.if_ne (tgt := 39) dX12_isUsed_15 (by decide) (fun c_15 => ?_) (fun c_15 => ?_)
        · skip
          have hin : W.getD a [] ∈ U := nonB_f h1 (by have := bt1 c_15; cases h9 : nonB U (W.getD a []) x; rfl; rw [h9] at this; cases this)
          refine M.iload_n dX12_isUsed_39 rfl ?_
          refine M.if_ne (tgt := 63) dX12_isUsed_40 (by decide) (fun c_40 => ?_) (fun c_40 => ?_)
          · skip
            have hin9 : W.getD a [] ∈ U := by first | exact hin | exact nonB_f (Nat.le_refl _) (by have := bt1 c_40; cases h9 : nonB U (W.getD a []) U.length; rfl; rw [h9] at this; cases this)
            refine M.iconst (v := 1) dX12_isUsed_63 (by decide) ?_
            refine M.goto (tgt := 68) dX12_isUsed_64 (by decide) ?_
            refine M.zret dX12_isUsed_68 rfl rfl ?_
            refine ⟨congrArg (fun z => some (Value.int z)) ?_, rfl, rfl⟩
            rw [decide_eq_true (List.mem_append.mpr (by first | exact Or.inl hin9 | exact Or.inr (List.mem_singleton.mpr (of_decide_eq_true (bt1 c_60)))))]
            rfl
          · skip
            have hout : ¬ W.getD a [] ∈ U := by first | exact absurd (bt1 c_15) (by rw [(bI_eq0 _).mp c_40]; decide) | exact nonB_t (by have := (bI_eq0 _).mp c_40; cases h9 : nonB U (W.getD a []) U.length; rw [h9] at this; cases this; rfl)
            refine M.iload_n dX12_isUsed_43 rfl ?_
            refine M.if_lt (tgt := 67) dX12_isUsed_44 (by decide) (fun c_44 => absurd c_44 (nI_pos (by omega))) (fun c_44 => ?_)
            refine M.aload_nR dX12_isUsed_47 rfl ?_
            refine M.getr dX12_isUsed_48 fl_X12_54 rfl rfl ?_
            refine M.iload_n dX12_isUsed_51 rfl ?_
            refine M.aload_nR dX12_isUsed_52 rfl ?_
            refine M.getr dX12_isUsed_53 fl_X12_54 rfl rfl ?_
            refine M.iload_n dX12_isUsed_56 rfl ?_
            refine M.callS [.ref (A 21), .int (nI a), .ref (A 21), .int (nI b9)] dX12_isUsed_57 mdX12_areSame ssX12_areSame lk_X12_274 rfl rfl rfl rfl (m_areSameT hA (k1 := 21) (k2 := 21) rfl rfl rfl rfl (i := a) (j := b9) (show 4 * a + 4 ≤ 240 by omega) (show 4 * b9 + 4 ≤ 240 by omega) (hW a ha) (hW b9 hb9)) ?_
            rintro _ I9 F9 ⟨rfl, e9, e8⟩
            have e9 := e9.symm; subst e9; have e8 := e8.symm; subst e8
            refine M.if_eq (tgt := 67) dX12_isUsed_60 (by decide) (fun c_60 => ?_) (fun c_60 => ?_)
            · skip
              refine M.iconst (v := 0) dX12_isUsed_67 (by decide) ?_
              refine M.zret dX12_isUsed_68 rfl rfl ?_
              refine ⟨congrArg (fun z => some (Value.int z)) ?_, rfl, rfl⟩
              rw [decide_eq_false (fun q => (List.mem_append.mp q).elim hout (fun z => of_decide_eq_false ((bI_eq0 _).mp c_60) (List.mem_singleton.mp z)))]
              rfl
            · skip
              refine M.iconst (v := 1) dX12_isUsed_63 (by decide) ?_
              refine M.goto (tgt := 68) dX12_isUsed_64 (by decide) ?_
              refine M.zret dX12_isUsed_68 rfl rfl ?_
              refine ⟨congrArg (fun z => some (Value.int z)) ?_, rfl, rfl⟩
              rw [decide_eq_true (List.mem_append.mpr (by first | exact Or.inl hin9 | exact Or.inr (List.mem_singleton.mpr (of_decide_eq_true (bt1 c_60)))))]
              rfl
        · skip
          have hbt : nonB U (W.getD a []) x = true := by have := (bI_eq0 _).mp c_15; cases h9 : nonB U (W.getD a []) x; rw [h9] at this; cases this; rfl
          refine M.aload_nR dX12_isUsed_18 rfl ?_
          refine M.getr dX12_isUsed_19 fl_X12_54 rfl rfl ?_
          refine M.iload_n dX12_isUsed_22 rfl ?_
          refine M.aload_nR dX12_isUsed_23 rfl ?_
          refine M.getr dX12_isUsed_24 fl_X12_57 rfl rfl ?_
          refine M.iload dX12_isUsed_27 rfl ?_
          refine M.callS [.ref (A 21), .int (nI a), .ref (A 23), .int (nI x)] dX12_isUsed_29 mdX12_areSame ssX12_areSame lk_X12_274 rfl rfl rfl rfl (m_areSameT hA (k1 := 21) (k2 := 23) rfl rfl rfl rfl (i := a) (j := x) (show 4 * a + 4 ≤ 240 by omega) (show 4 * x + 4 ≤ 3200 by omega) (hW a ha) (hU x lt_x)) ?_
          rintro _ I9 F9 ⟨rfl, e9, e8⟩
          have e9 := e9.symm; subst e9; have e8 := e8.symm; subst e8
          refine M.istore_n (L' := [some (.ref m), some (.int (nI a)), some (.int (nI b9)), some (.int (bI (decide (W.getD a [] = U.getD x [])))), some (.int (nI x))]) dX12_isUsed_32 (by decide) rfl rfl ?_
          refine M.iinc (v := nI (x + 1)) (L' := [some (.ref m), some (.int (nI a)), some (.int (nI b9)), some (.int (bI (decide (W.getD a [] = U.getD x [])))), some (.int (nI (x + 1)))]) dX12_isUsed_33 rfl (nI_1 x) (by decide) rfl rfl ?_
          refine M.goto (tgt := 5) dX12_isUsed_36 (by decide) ?_
          have t9 := ih_5 (x + 1) (by omega) (by omega)
          rw [nonB_s, hbt, Bool.true_and, Bool.not_not] at t9
          exact t9
  exact cut_5 (U.length + 1) 0 (by omega) (by omega)

theorem m_uses {Λ : kL} {m : Nat} {A : Nat → Nat} {I : Nat → Int32} {F : Nat → Nat → Int32} (hA : mInj A) {u a : Nat} (h24 : I 24 = nI u) (hu : u < 800) (ha : a < 60) {d : List Int32} (hd : tl (F 21) (4 * a) 4 = d) : mCt Λ mX12_uses m A [.ref m, .int (nI a)] I F (fun r I' F' => r = none ∧ I' = upd I 24 (nI (u + 1)) ∧ F' = setF F 23 (updl (F 23) (4 * u) d)) := by
  refine mCt.of hA pn_X12 [some (.ref m), some (.int (nI a)), none] rfl (Nat.le_of_ble_eq_true rfl) fun X => ?_
  have hdl : d.length = 4 := by rw [← hd, tl_len]
  have hd4 : tl (F 21) (4 * a) d.length = d := by rw [hdl]; exact hd
  refine M.iconst (v := 0) dX12_uses_0 (by decide) ?_
  refine M.istore_n (L' := [some (.ref m), some (.int (nI a)), some (.int 0)]) dX12_uses_1 (by decide) rfl rfl ?_
  have cut_2 : ∀ (k_2 : Nat) (x : Nat), (x ≤ 4) → (5 ≤ x + k_2) → M Λ X mX12_uses m A (fun r I' F' => r = none ∧ I' = upd I 24 (nI (u + 1)) ∧ F' = setF F 23 (updl (F 23) (4 * u) d)) I (setF F 23 (updl (F 23) (4 * u) (d.take x))) 2 [some (.ref m), some (.int (nI a)), some (.int (nI x))] [] := by
    intro k_2
    induction k_2 with
    | zero => intro x h1 h2; exact absurd h2 (by omega)
    | succ k_2 ih_2 =>
      intro x h1 h2
      refine M.iload_n dX12_uses_2 rfl ?_
      refine M.iconst (v := 4) dX12_uses_3 (by decide) ?_
      refine M.icmp_ge (tgt := 36) dX12_uses_4 (by decide) (fun c_4 => ?_) (fun c_4 => ?_)
      · skip
        have e1 := nI_gen (n := 4) c_4 h1 (by omega); subst e1
        rw [List.take_of_length_le (by omega)]
        skip
        refine M.aload_nR dX12_uses_36 rfl ?_
        refine M.dup dX12_uses_37 rfl ?_
        refine M.geti (v := nI u) dX12_uses_38 fl_X12_271 rfl rfl h24 ?_
        refine M.iconst (v := 1) dX12_uses_41 (by decide) ?_
        refine M.iadd dX12_uses_42 ?_
        rw [show (nI u) + 1 = nI (u + 1) from nI_1 u]
        refine M.puti dX12_uses_43 fp_X12_271 rfl rfl ?_
        refine M.vret dX12_uses_46 rfl ?_
        exact ⟨rfl, rfl, rfl⟩
      · skip
        have lt_x : x < 4 := nI_ltn (n := 4) c_4 (by omega) (by omega)
        refine M.aload_nR dX12_uses_7 rfl ?_
        refine M.getr dX12_uses_8 fl_X12_57 rfl rfl ?_
        refine M.iconst (v := 4) dX12_uses_11 (by decide) ?_
        refine M.aload_nR dX12_uses_12 rfl ?_
        refine M.geti (v := nI u) dX12_uses_13 fl_X12_271 rfl rfl h24 ?_
        refine M.imul dX12_uses_16 ?_
        rw [show 4 * (nI u) = nI (4 * u) from nI_mulc 4 u]
        refine M.iload_n dX12_uses_17 rfl ?_
        refine M.iadd dX12_uses_18 ?_
        rw [show (nI (4 * u)) + (nI x) = nI (4 * u + x) from nI_add (4 * u) x]
        refine M.aload_nR dX12_uses_19 rfl ?_
        refine M.getr dX12_uses_20 fl_X12_54 rfl rfl ?_
        refine M.iconst (v := 4) dX12_uses_23 (by decide) ?_
        refine M.iload_n dX12_uses_24 rfl ?_
        refine M.imul dX12_uses_25 ?_
        rw [show 4 * (nI a) = nI (4 * a) from nI_mulc 4 a]
        refine M.iload_n dX12_uses_26 rfl ?_
        refine M.iadd dX12_uses_27 ?_
        rw [show (nI (4 * a)) + (nI x) = nI (4 * a + x) from nI_add (4 * a) x]
        refine M.ialdv (k9 := 21) (j := 4 * a + x) (g := F 21) (v := d.getD x 0) dX12_uses_28 rfl rfl rfl rfl (show 4 * a + x < 240 by omega) (tl_bs.mp hd4 x (by omega)) ?_
        refine M.iast (k9 := 23) (j := 4 * u + (d.take x).length) dX12_uses_29 rfl rfl (by rw [List.length_take, Nat.min_eq_left (by omega)]) (show 4 * u + (d.take x).length < 3200 by rw [List.length_take, Nat.min_eq_left (by omega)]; omega) ?_
        rw [updF_set, updl_snoc, ← take_at (by omega)]
        refine M.iinc (v := nI (x + 1)) (L' := [some (.ref m), some (.int (nI a)), some (.int (nI (x + 1)))]) dX12_uses_30 rfl (nI_1 x) (by decide) rfl rfl ?_
        refine M.goto (tgt := 2) dX12_uses_33 (by decide) ?_
        exact ih_2 (x + 1) (by omega) (by omega)
  have t9 := cut_2 5 0 (by omega) (by omega)
  rw [List.take_zero, updl_nil, setF_self] at t9
  exact t9

theorem m_takes_1 {Λ : kL} {m : Nat} {A : Nat → Nat} {I : Nat → Int32} {F : Nat → Nat → Int32} (hA : mInj A) {U W : List (List Int32)} (h24 : I 24 = nI U.length) (hUl : U.length ≤ 800) (hU : mDi (F 23) U) (hWl : W.length ≤ 60) (hW : mDi (F 21) W) (h22 : I 22 = nI W.length) (hU9 : U.length + 1 ≤ 800) : mCt Λ mX12_takes m A [.ref m, .int 1] I F (fun r I' F' => (tk1 U W = none ∧ r = some (.int (-1)) ∧ I' = I ∧ F' = F) ∨ ∃ (d : List Int32) (W1 : List (List Int32)) (g21 : Nat → Int32), tk1 U W = some (d, W1) ∧ r = some (.int (nI U.length)) ∧ I' = upd (upd I 24 (nI (U.length + 1))) 22 (nI W1.length) ∧ F' = setF (setF F 23 (updl (F 23) (4 * U.length) d)) 21 g21 ∧ mDi g21 W1) := by
  refine mCt.of hA pn_X12 [some (.ref m), some (.int 1), none, none, none, none, none, none] rfl (Nat.le_of_ble_eq_true rfl) fun X => ?_
  have cut_68 : ∀ (a9 x9 : Nat), (a9 < W.length) → (x9 ≤ W.length) → (0 < x9) → (tk1 U W = some (W.getD a9 [], W.drop x9)) → M Λ X mX12_takes m A (fun r I' F' => (tk1 U W = none ∧ r = some (.int (-1)) ∧ I' = I ∧ F' = F) ∨ ∃ (d : List Int32) (W1 : List (List Int32)) (g21 : Nat → Int32), tk1 U W = some (d, W1) ∧ r = some (.int (nI U.length)) ∧ I' = upd (upd I 24 (nI (U.length + 1))) 22 (nI W1.length) ∧ F' = setF (setF F 23 (updl (F 23) (4 * U.length) d)) 21 g21 ∧ mDi g21 W1) I F 68 [some (.ref m), some (.int 1), some (.int (nI a9)), some (.int 1), some (.int (nI x9)), none, none, none] [] := by
    intro a9 x9 ha9 hx9 hx0 hk
    have hdl : (W.getD a9 []).length = 4 := by rw [← hW a9 ha9, tl_len]
    refine M.aload_nR dX12_takes_68 rfl ?_
    refine M.geti (v := nI U.length) dX12_takes_69 fl_X12_271 rfl rfl h24 ?_
    refine M.istore (L' := [some (.ref m), some (.int 1), some (.int (nI a9)), some (.int 1), some (.int (nI x9)), none, some (.int (nI U.length)), none]) dX12_takes_72 (by decide) rfl rfl ?_
    refine M.aload_nR dX12_takes_74 rfl ?_
    refine M.iload_n dX12_takes_75 rfl ?_
    refine M.callV [.int (nI a9)] dX12_takes_76 mdX12_uses imX12_uses seX12_uses lk_X12_285 rfl rfl rfl rfl (m_uses hA h24 (by omega) (by omega) (hW a9 ha9)) ?_
    rintro _ I9 F9 ⟨rfl, e9, e8⟩
    have e9 := e9.symm; subst e9; have e8 := e8.symm; subst e8
    refine M.iload_n dX12_takes_79 rfl ?_
    refine M.iconst (v := 2) dX12_takes_80 (by decide) ?_
    refine M.icmp_ne (tgt := 90) dX12_takes_81 (by decide) (fun c_81 => ?_) (fun c_81 => absurd c_81 (by decide))
    refine M.aload_nR dX12_takes_90 rfl ?_
    refine M.dup dX12_takes_91 rfl ?_
    refine M.geti (v := nI W.length) dX12_takes_92 fl_X12_278 rfl rfl h22 ?_
    refine M.iload dX12_takes_95 rfl ?_
    refine M.isub dX12_takes_97 ?_
    rw [show (nI W.length) - (nI x9) = nI (W.length - x9) from (by have h := nI_subl x9 (W.length - x9); rwa [show x9 + (W.length - x9) = W.length by omega] at h)]
    refine M.puti dX12_takes_98 fp_X12_278 rfl rfl ?_
    refine M.iconst (v := 0) dX12_takes_101 (by decide) ?_
    refine M.istore (L' := [some (.ref m), some (.int 1), some (.int (nI a9)), some (.int 1), some (.int (nI x9)), none, some (.int (nI U.length)), some (.int 0)]) dX12_takes_102 (by decide) rfl rfl ?_
    have cut_104 : ∀ (k_104 : Nat) (z : Nat), (z ≤ 4 * (W.length - x9)) → (4 * (W.length - x9) + 1 ≤ z + k_104) → M Λ X mX12_takes m A (fun r I' F' => (tk1 U W = none ∧ r = some (.int (-1)) ∧ I' = I ∧ F' = F) ∨ ∃ (d : List Int32) (W1 : List (List Int32)) (g21 : Nat → Int32), tk1 U W = some (d, W1) ∧ r = some (.int (nI U.length)) ∧ I' = upd (upd I 24 (nI (U.length + 1))) 22 (nI W1.length) ∧ F' = setF (setF F 23 (updl (F 23) (4 * U.length) d)) 21 g21 ∧ mDi g21 W1) (upd (upd I 24 (nI (U.length + 1))) 22 (nI (W.length - x9))) (setF (setF F 23 (updl (F 23) (4 * U.length) (W.getD a9 []))) 21 (shf (F 21) (4 * x9) z)) 104 [some (.ref m), some (.int 1), some (.int (nI a9)), some (.int 1), some (.int (nI x9)), none, some (.int (nI U.length)), some (.int (nI z))] [] := by
      intro k_104
      induction k_104 with
      | zero => intro z h5 h6; exact absurd h6 (by omega)
      | succ k_104 ih_104 =>
        intro z h5 h6
        refine M.iload dX12_takes_104 rfl ?_
        refine M.iconst (v := 4) dX12_takes_106 (by decide) ?_
        refine M.aload_nR dX12_takes_107 rfl ?_
        refine M.geti (v := nI (W.length - x9)) dX12_takes_108 fl_X12_278 rfl rfl rfl ?_
        refine M.imul dX12_takes_111 ?_
        rw [show 4 * (nI (W.length - x9)) = nI (4 * (W.length - x9)) from nI_mulc 4 (W.length - x9)]
        refine M.icmp_ge (tgt := 140) dX12_takes_112 (by decide) (fun c_112 => ?_) (fun c_112 => ?_)
        · skip
          have e1 := nI_gen c_112 h5 (by omega); subst e1
          refine M.iload dX12_takes_140 rfl ?_
          refine M.iret dX12_takes_142 rfl ?_
          refine Or.inr ⟨_, _, _, hk, rfl, ?_, rfl, mDi_shf hW⟩
          rw [List.length_drop]
        · skip
          have lt_z : z < 4 * (W.length - x9) := nI_ltn c_112 (by omega) (by omega)
          refine M.aload_nR dX12_takes_115 rfl ?_
          refine M.getr dX12_takes_116 fl_X12_54 rfl rfl ?_
          refine M.iload dX12_takes_119 rfl ?_
          refine M.aload_nR dX12_takes_121 rfl ?_
          refine M.getr dX12_takes_122 fl_X12_54 rfl rfl ?_
          refine M.iconst (v := 4) dX12_takes_125 (by decide) ?_
          refine M.iload dX12_takes_126 rfl ?_
          refine M.imul dX12_takes_128 ?_
          rw [show 4 * (nI x9) = nI (4 * x9) from nI_mulc 4 x9]
          refine M.iload dX12_takes_129 rfl ?_
          refine M.iadd dX12_takes_131 ?_
          rw [show (nI (4 * x9)) + (nI z) = nI (4 * x9 + z) from nI_add (4 * x9) z]
          refine M.ialdv (k9 := 21) (j := 4 * x9 + z) (g := shf (F 21) (4 * x9) z) (v := F 21 (4 * x9 + z)) dX12_takes_132 rfl rfl rfl rfl (show 4 * x9 + z < 240 by omega) (shf_hi (by omega)) ?_
          refine M.iast (k9 := 21) (j := z) dX12_takes_133 rfl rfl rfl (show z < 240 by omega) ?_
          rw [updF_set, shf_s]
          refine M.iinc (v := nI (z + 1)) (L' := [some (.ref m), some (.int 1), some (.int (nI a9)), some (.int 1), some (.int (nI x9)), none, some (.int (nI U.length)), some (.int (nI (z + 1)))]) dX12_takes_134 rfl (nI_1 z) (by decide) rfl rfl ?_
          refine M.goto (tgt := 104) dX12_takes_137 (by decide) ?_
          exact ih_104 (z + 1) (by omega) (by omega)
    have t9 := cut_104 (4 * (W.length - x9) + 1) 0 (by omega) (by omega)
    rw [shf_0, show setF (setF F 23 (updl (F 23) (4 * U.length) (W.getD a9 []))) 21 (F 21) = (setF F 23 (updl (F 23) (4 * U.length) (W.getD a9 []))) from setF_self (setF F 23 (updl (F 23) (4 * U.length) (W.getD a9 []))) 21] at t9
    exact t9
  refine M.iconst (v := (-1)) dX12_takes_0 (by decide) ?_
  refine M.istore_n (L' := [some (.ref m), some (.int 1), some (.int (-1)), none, none, none, none, none]) dX12_takes_1 (by decide) rfl rfl ?_
  refine M.iconst (v := 0) dX12_takes_2 (by decide) ?_
  refine M.istore_n (L' := [some (.ref m), some (.int 1), some (.int (-1)), some (.int 0), none, none, none, none]) dX12_takes_3 (by decide) rfl rfl ?_
  refine M.iconst (v := 0) dX12_takes_4 (by decide) ?_
  refine M.istore (L' := [some (.ref m), some (.int 1), some (.int (-1)), some (.int 0), some (.int 0), none, none, none]) dX12_takes_5 (by decide) rfl rfl ?_
  refine M.iconst (v := (-1)) dX12_takes_7 (by decide) ?_
  refine M.istore (L' := [some (.ref m), some (.int 1), some (.int (-1)), some (.int 0), some (.int 0), some (.int (-1)), none, none]) dX12_takes_8 (by decide) rfl rfl ?_
  have cut_10a : ∀ (k_10a : Nat) (x : Nat), (x ≤ W.length) → (W.length + 1 ≤ x + k_10a) → (tk1 U W = tk1 U (W.drop x)) → M Λ X mX12_takes m A (fun r I' F' => (tk1 U W = none ∧ r = some (.int (-1)) ∧ I' = I ∧ F' = F) ∨ ∃ (d : List Int32) (W1 : List (List Int32)) (g21 : Nat → Int32), tk1 U W = some (d, W1) ∧ r = some (.int (nI U.length)) ∧ I' = upd (upd I 24 (nI (U.length + 1))) 22 (nI W1.length) ∧ F' = setF (setF F 23 (updl (F 23) (4 * U.length) d)) 21 g21 ∧ mDi g21 W1) I F 10 [some (.ref m), some (.int 1), some (.int (-1)), some (.int 0), some (.int (nI x)), some (.int (-1)), none, none] [] := by
    intro k_10a
    induction k_10a with
    | zero => intro x h1 h2 ht; exact absurd h2 (by omega)
    | succ k_10a ih_10a =>
      intro x h1 h2 ht
      refine M.iload dX12_takes_10 rfl ?_
      refine M.aload_nR dX12_takes_12 rfl ?_
      refine M.geti (v := nI W.length) dX12_takes_13 fl_X12_278 rfl rfl h22 ?_
      refine M.icmp_ge (tgt := 61) dX12_takes_16 (by decide) (fun c_16 => ?_) (fun c_16 => ?_)
      · skip
        have e1 : W.length ≤ x := (nI_leI (by omega) (by omega)).mp c_16
        refine M.iload_n dX12_takes_61 rfl ?_
        refine M.iload_n dX12_takes_62 rfl ?_
        refine M.icmp_ge (tgt := 68) dX12_takes_63 (by decide) (fun c_63 => absurd c_63 (by decide)) (fun c_63 => ?_)
        refine M.iconst (v := (-1)) dX12_takes_66 (by decide) ?_
        refine M.iret dX12_takes_67 rfl ?_
        exact Or.inl ⟨ht.trans (tk1_end e1), rfl, rfl, rfl⟩
      · skip
        have lt_x : x < W.length := nI_ltn c_16 (by omega) (by omega)
        refine M.iload_n dX12_takes_19 rfl ?_
        refine M.iload_n dX12_takes_20 rfl ?_
        refine M.icmp_ge (tgt := 61) dX12_takes_21 (by decide) (fun c_21 => absurd c_21 (by decide)) (fun c_21 => ?_)
        refine M.aload_nR dX12_takes_24 rfl ?_
        refine M.iload dX12_takes_25 rfl ?_
        refine M.iload_n dX12_takes_27 rfl ?_
        refine M.callV [.int (nI x), .int (-1)] dX12_takes_28 mdX12_isUsed imX12_isUsed seX12_isUsed lk_X12_281 rfl rfl rfl rfl (m_isUsedN hA h24 hUl hU hWl hW (a := x) lt_x) ?_
        rintro _ I9 F9 ⟨rfl, e9, e8⟩
        have e9 := e9.symm; subst e9; have e8 := e8.symm; subst e8
        refine M.if_eq (tgt := 37) dX12_takes_31 (by decide) (fun c_31 => ?_) (fun c_31 => ?_)
        · skip
          have hout := of_decide_eq_false ((bI_eq0 _).mp c_31)
          have hk1 : tk1 U W = some (W.getD x [], W.drop (x + 1)) := ht.trans (tk1_out lt_x hout)
          refine M.iload dX12_takes_37 rfl ?_
          refine M.istore (L' := [some (.ref m), some (.int 1), some (.int (-1)), some (.int 0), some (.int (nI x)), some (.int (nI x)), none, none]) dX12_takes_39 (by decide) rfl rfl ?_
          refine M.iload_n dX12_takes_41 rfl ?_
          refine M.if_ne (tgt := 50) dX12_takes_42 (by decide) (fun c_42 => absurd rfl c_42) (fun c_42 => ?_)
          refine M.iload dX12_takes_45 rfl ?_
          refine M.goto (tgt := 51) dX12_takes_47 (by decide) ?_
          refine M.istore_n (L' := [some (.ref m), some (.int 1), some (.int (nI x)), some (.int 0), some (.int (nI x)), some (.int (nI x)), none, none]) dX12_takes_51 (by decide) rfl rfl ?_
          refine M.iinc (v := 1) (L' := [some (.ref m), some (.int 1), some (.int (nI x)), some (.int 1), some (.int (nI x)), some (.int (nI x)), none, none]) dX12_takes_52 rfl rfl (by decide) rfl rfl ?_
          refine M.iinc (v := nI (x + 1)) (L' := [some (.ref m), some (.int 1), some (.int (nI x)), some (.int 1), some (.int (nI (x + 1))), some (.int (nI x)), none, none]) dX12_takes_55 rfl (nI_1 x) (by decide) rfl rfl ?_
          refine M.goto (tgt := 10) dX12_takes_58 (by decide) ?_
          refine M.iload dX12_takes_10 rfl ?_
          refine M.aload_nR dX12_takes_12 rfl ?_
          refine M.geti (v := nI W.length) dX12_takes_13 fl_X12_278 rfl rfl h22 ?_
          refine M.icmp_ge (tgt := 61) dX12_takes_16 (by decide) (fun c_16 => ?_) (fun c_16 => ?_)
          · skip
            refine M.iload_n dX12_takes_61 rfl ?_
            refine M.iload_n dX12_takes_62 rfl ?_
            refine M.icmp_ge (tgt := 68) dX12_takes_63 (by decide) (fun c_63 => ?_) (fun c_63 => absurd (by decide) c_63)
            refine M.drop (i := 5) (L' := [some (.ref m), some (.int 1), some (.int (nI x)), some (.int 1), some (.int (nI (x + 1))), none, none, none]) rfl ?_
            exact cut_68 x (x + 1) (by omega) (by omega) (by omega) hk1
          · skip
            refine M.iload_n dX12_takes_19 rfl ?_
            refine M.iload_n dX12_takes_20 rfl ?_
            refine M.icmp_ge (tgt := 61) dX12_takes_21 (by decide) (fun c_21 => ?_) (fun c_21 => absurd (by decide) c_21)
            refine M.iload_n dX12_takes_61 rfl ?_
            refine M.iload_n dX12_takes_62 rfl ?_
            refine M.icmp_ge (tgt := 68) dX12_takes_63 (by decide) (fun c_63 => ?_) (fun c_63 => absurd (by decide) c_63)
            refine M.drop (i := 5) (L' := [some (.ref m), some (.int 1), some (.int (nI x)), some (.int 1), some (.int (nI (x + 1))), none, none, none]) rfl ?_
            exact cut_68 x (x + 1) (by omega) (by omega) (by omega) hk1
        · skip
          refine M.goto (tgt := 55) dX12_takes_34 (by decide) ?_
          refine M.iinc (v := nI (x + 1)) (L' := [some (.ref m), some (.int 1), some (.int (-1)), some (.int 0), some (.int (nI (x + 1))), some (.int (-1)), none, none]) dX12_takes_55 rfl (nI_1 x) (by decide) rfl rfl ?_
          refine M.goto (tgt := 10) dX12_takes_58 (by decide) ?_
          exact ih_10a (x + 1) (by omega) (by omega) (by rw [ht, tk1_in lt_x (of_decide_eq_true (bt1 c_31))])
  exact cut_10a (W.length + 1) 0 (by omega) (by omega) (by rw [List.drop_zero])

theorem m_takes_2 {Λ : kL} {m : Nat} {A : Nat → Nat} {I : Nat → Int32} {F : Nat → Nat → Int32} (hA : mInj A) {U W : List (List Int32)} (h24 : I 24 = nI U.length) (hUl : U.length ≤ 800) (hU : mDi (F 23) U) (hWl : W.length ≤ 60) (hW : mDi (F 21) W) (h22 : I 22 = nI W.length) (hU9 : U.length + 2 ≤ 800) : mCt Λ mX12_takes m A [.ref m, .int 2] I F (fun r I' F' => ((tk1 U W = none ∨ ∃ (d : List Int32) (W1 : List (List Int32)), tk1 U W = some (d, W1) ∧ tk1 (U ++ [d]) W1 = none) ∧ r = some (.int (-1)) ∧ I' = I ∧ F' = F) ∨ ∃ (d : List Int32) (W1 : List (List Int32)) (e : List Int32) (W2 : List (List Int32)) (g21 : Nat → Int32), tk1 U W = some (d, W1) ∧ tk1 (U ++ [d]) W1 = some (e, W2) ∧ r = some (.int (nI U.length)) ∧ I' = upd (upd I 24 (nI (U.length + 2))) 22 (nI W2.length) ∧ F' = setF (setF F 23 (updl (F 23) (4 * U.length) (d ++ e))) 21 g21 ∧ mDi g21 W2) := by
  refine mCt.of hA pn_X12 [some (.ref m), some (.int 2), none, none, none, none, none, none] rfl (Nat.le_of_ble_eq_true rfl) fun X => ?_
  have cut_68 : ∀ (a9 b9 x9 : Nat), (a9 < W.length) → (x9 ≤ W.length) → (0 < x9) → (b9 < W.length) → ((tk1 U W) = some (W.getD a9 [], W.drop (a9 + 1))) → (tk1 (U ++ [W.getD a9 []]) (W.drop (a9 + 1)) = some (W.getD b9 [], W.drop x9)) → M Λ X mX12_takes m A (fun r I' F' => ((tk1 U W = none ∨ ∃ (d : List Int32) (W1 : List (List Int32)), tk1 U W = some (d, W1) ∧ tk1 (U ++ [d]) W1 = none) ∧ r = some (.int (-1)) ∧ I' = I ∧ F' = F) ∨ ∃ (d : List Int32) (W1 : List (List Int32)) (e : List Int32) (W2 : List (List Int32)) (g21 : Nat → Int32), tk1 U W = some (d, W1) ∧ tk1 (U ++ [d]) W1 = some (e, W2) ∧ r = some (.int (nI U.length)) ∧ I' = upd (upd I 24 (nI (U.length + 2))) 22 (nI W2.length) ∧ F' = setF (setF F 23 (updl (F 23) (4 * U.length) (d ++ e))) 21 g21 ∧ mDi g21 W2) I F 68 [some (.ref m), some (.int 2), some (.int (nI a9)), some (.int 2), some (.int (nI x9)), some (.int (nI b9)), none, none] [] := by
    intro a9 b9 x9 ha9 hx9 hx0 hb9 hk hk2
    have hdl : (W.getD a9 []).length = 4 := by rw [← hW a9 ha9, tl_len]
    refine M.aload_nR dX12_takes_68 rfl ?_
    refine M.geti (v := nI U.length) dX12_takes_69 fl_X12_271 rfl rfl h24 ?_
    refine M.istore (L' := [some (.ref m), some (.int 2), some (.int (nI a9)), some (.int 2), some (.int (nI x9)), some (.int (nI b9)), some (.int (nI U.length)), none]) dX12_takes_72 (by decide) rfl rfl ?_
    refine M.aload_nR dX12_takes_74 rfl ?_
    refine M.iload_n dX12_takes_75 rfl ?_
    refine M.callV [.int (nI a9)] dX12_takes_76 mdX12_uses imX12_uses seX12_uses lk_X12_285 rfl rfl rfl rfl (m_uses hA h24 (by omega) (by omega) (hW a9 ha9)) ?_
    rintro _ I9 F9 ⟨rfl, e9, e8⟩
    have e9 := e9.symm; subst e9; have e8 := e8.symm; subst e8
    refine M.iload_n dX12_takes_79 rfl ?_
    refine M.iconst (v := 2) dX12_takes_80 (by decide) ?_
    refine M.icmp_ne (tgt := 90) dX12_takes_81 (by decide) (fun c_81 => absurd rfl c_81) (fun c_81 => ?_)
    refine M.aload_nR dX12_takes_84 rfl ?_
    refine M.iload dX12_takes_85 rfl ?_
    refine M.callV [.int (nI b9)] dX12_takes_87 mdX12_uses imX12_uses seX12_uses lk_X12_285 rfl rfl rfl rfl (m_uses hA (u := U.length + 1) rfl (by omega) (by omega) (hW b9 hb9)) ?_
    rintro _ I9 F9 ⟨rfl, e9, e8⟩
    have e9 := e9.symm; subst e9; have e8 := e8.symm; subst e8
    rw [upd_upd, setF_set, setF_s, show 4 * (U.length + 1) = 4 * U.length + (W.getD a9 []).length by omega, updl_app]
    refine M.aload_nR dX12_takes_90 rfl ?_
    refine M.dup dX12_takes_91 rfl ?_
    refine M.geti (v := nI W.length) dX12_takes_92 fl_X12_278 rfl rfl h22 ?_
    refine M.iload dX12_takes_95 rfl ?_
    refine M.isub dX12_takes_97 ?_
    rw [show (nI W.length) - (nI x9) = nI (W.length - x9) from (by have h := nI_subl x9 (W.length - x9); rwa [show x9 + (W.length - x9) = W.length by omega] at h)]
    refine M.puti dX12_takes_98 fp_X12_278 rfl rfl ?_
    refine M.iconst (v := 0) dX12_takes_101 (by decide) ?_
    refine M.istore (L' := [some (.ref m), some (.int 2), some (.int (nI a9)), some (.int 2), some (.int (nI x9)), some (.int (nI b9)), some (.int (nI U.length)), some (.int 0)]) dX12_takes_102 (by decide) rfl rfl ?_
    have cut_104 : ∀ (k_104 : Nat) (z : Nat), (z ≤ 4 * (W.length - x9)) → (4 * (W.length - x9) + 1 ≤ z + k_104) → M Λ X mX12_takes m A (fun r I' F' => ((tk1 U W = none ∨ ∃ (d : List Int32) (W1 : List (List Int32)), tk1 U W = some (d, W1) ∧ tk1 (U ++ [d]) W1 = none) ∧ r = some (.int (-1)) ∧ I' = I ∧ F' = F) ∨ ∃ (d : List Int32) (W1 : List (List Int32)) (e : List Int32) (W2 : List (List Int32)) (g21 : Nat → Int32), tk1 U W = some (d, W1) ∧ tk1 (U ++ [d]) W1 = some (e, W2) ∧ r = some (.int (nI U.length)) ∧ I' = upd (upd I 24 (nI (U.length + 2))) 22 (nI W2.length) ∧ F' = setF (setF F 23 (updl (F 23) (4 * U.length) (d ++ e))) 21 g21 ∧ mDi g21 W2) (upd (upd I 24 (nI (U.length + 2))) 22 (nI (W.length - x9))) (setF (setF F 23 (updl (F 23) (4 * U.length) (W.getD a9 [] ++ W.getD b9 []))) 21 (shf (F 21) (4 * x9) z)) 104 [some (.ref m), some (.int 2), some (.int (nI a9)), some (.int 2), some (.int (nI x9)), some (.int (nI b9)), some (.int (nI U.length)), some (.int (nI z))] [] := by
      intro k_104
      induction k_104 with
      | zero => intro z h5 h6; exact absurd h6 (by omega)
      | succ k_104 ih_104 =>
        intro z h5 h6
        refine M.iload dX12_takes_104 rfl ?_
        refine M.iconst (v := 4) dX12_takes_106 (by decide) ?_
        refine M.aload_nR dX12_takes_107 rfl ?_
        refine M.geti (v := nI (W.length - x9)) dX12_takes_108 fl_X12_278 rfl rfl rfl ?_
        refine M.imul dX12_takes_111 ?_
        rw [show 4 * (nI (W.length - x9)) = nI (4 * (W.length - x9)) from nI_mulc 4 (W.length - x9)]
        refine M.icmp_ge (tgt := 140) dX12_takes_112 (by decide) (fun c_112 => ?_) (fun c_112 => ?_)
        · skip
          have e1 := nI_gen c_112 h5 (by omega); subst e1
          refine M.iload dX12_takes_140 rfl ?_
          refine M.iret dX12_takes_142 rfl ?_
          refine Or.inr ⟨_, _, _, _, _, hk, hk2, rfl, ?_, rfl, mDi_shf hW⟩
          rw [List.length_drop]
        · skip
          have lt_z : z < 4 * (W.length - x9) := nI_ltn c_112 (by omega) (by omega)
          refine M.aload_nR dX12_takes_115 rfl ?_
          refine M.getr dX12_takes_116 fl_X12_54 rfl rfl ?_
          refine M.iload dX12_takes_119 rfl ?_
          refine M.aload_nR dX12_takes_121 rfl ?_
          refine M.getr dX12_takes_122 fl_X12_54 rfl rfl ?_
          refine M.iconst (v := 4) dX12_takes_125 (by decide) ?_
          refine M.iload dX12_takes_126 rfl ?_
          refine M.imul dX12_takes_128 ?_
          rw [show 4 * (nI x9) = nI (4 * x9) from nI_mulc 4 x9]
          refine M.iload dX12_takes_129 rfl ?_
          refine M.iadd dX12_takes_131 ?_
          rw [show (nI (4 * x9)) + (nI z) = nI (4 * x9 + z) from nI_add (4 * x9) z]
          refine M.ialdv (k9 := 21) (j := 4 * x9 + z) (g := shf (F 21) (4 * x9) z) (v := F 21 (4 * x9 + z)) dX12_takes_132 rfl rfl rfl rfl (show 4 * x9 + z < 240 by omega) (shf_hi (by omega)) ?_
          refine M.iast (k9 := 21) (j := z) dX12_takes_133 rfl rfl rfl (show z < 240 by omega) ?_
          rw [updF_set, shf_s]
          refine M.iinc (v := nI (z + 1)) (L' := [some (.ref m), some (.int 2), some (.int (nI a9)), some (.int 2), some (.int (nI x9)), some (.int (nI b9)), some (.int (nI U.length)), some (.int (nI (z + 1)))]) dX12_takes_134 rfl (nI_1 z) (by decide) rfl rfl ?_
          refine M.goto (tgt := 104) dX12_takes_137 (by decide) ?_
          exact ih_104 (z + 1) (by omega) (by omega)
    have t9 := cut_104 (4 * (W.length - x9) + 1) 0 (by omega) (by omega)
    rw [shf_0, show setF (setF F 23 (updl (F 23) (4 * U.length) (W.getD a9 [] ++ W.getD b9 []))) 21 (F 21) = (setF F 23 (updl (F 23) (4 * U.length) (W.getD a9 [] ++ W.getD b9 []))) from setF_self (setF F 23 (updl (F 23) (4 * U.length) (W.getD a9 [] ++ W.getD b9 []))) 21] at t9
    exact t9
  refine M.iconst (v := (-1)) dX12_takes_0 (by decide) ?_
  refine M.istore_n (L' := [some (.ref m), some (.int 2), some (.int (-1)), none, none, none, none, none]) dX12_takes_1 (by decide) rfl rfl ?_
  refine M.iconst (v := 0) dX12_takes_2 (by decide) ?_
  refine M.istore_n (L' := [some (.ref m), some (.int 2), some (.int (-1)), some (.int 0), none, none, none, none]) dX12_takes_3 (by decide) rfl rfl ?_
  refine M.iconst (v := 0) dX12_takes_4 (by decide) ?_
  refine M.istore (L' := [some (.ref m), some (.int 2), some (.int (-1)), some (.int 0), some (.int 0), none, none, none]) dX12_takes_5 (by decide) rfl rfl ?_
  refine M.iconst (v := (-1)) dX12_takes_7 (by decide) ?_
  refine M.istore (L' := [some (.ref m), some (.int 2), some (.int (-1)), some (.int 0), some (.int 0), some (.int (-1)), none, none]) dX12_takes_8 (by decide) rfl rfl ?_
  have cut_10a : ∀ (k_10a : Nat) (x : Nat), (x ≤ W.length) → (W.length + 1 ≤ x + k_10a) → (tk1 U W = tk1 U (W.drop x)) → M Λ X mX12_takes m A (fun r I' F' => ((tk1 U W = none ∨ ∃ (d : List Int32) (W1 : List (List Int32)), tk1 U W = some (d, W1) ∧ tk1 (U ++ [d]) W1 = none) ∧ r = some (.int (-1)) ∧ I' = I ∧ F' = F) ∨ ∃ (d : List Int32) (W1 : List (List Int32)) (e : List Int32) (W2 : List (List Int32)) (g21 : Nat → Int32), tk1 U W = some (d, W1) ∧ tk1 (U ++ [d]) W1 = some (e, W2) ∧ r = some (.int (nI U.length)) ∧ I' = upd (upd I 24 (nI (U.length + 2))) 22 (nI W2.length) ∧ F' = setF (setF F 23 (updl (F 23) (4 * U.length) (d ++ e))) 21 g21 ∧ mDi g21 W2) I F 10 [some (.ref m), some (.int 2), some (.int (-1)), some (.int 0), some (.int (nI x)), some (.int (-1)), none, none] [] := by
    intro k_10a
    induction k_10a with
    | zero => intro x h1 h2 ht; exact absurd h2 (by omega)
    | succ k_10a ih_10a =>
      intro x h1 h2 ht
      refine M.iload dX12_takes_10 rfl ?_
      refine M.aload_nR dX12_takes_12 rfl ?_
      refine M.geti (v := nI W.length) dX12_takes_13 fl_X12_278 rfl rfl h22 ?_
      refine M.icmp_ge (tgt := 61) dX12_takes_16 (by decide) (fun c_16 => ?_) (fun c_16 => ?_)
      · skip
        have e1 : W.length ≤ x := (nI_leI (by omega) (by omega)).mp c_16
        refine M.iload_n dX12_takes_61 rfl ?_
        refine M.iload_n dX12_takes_62 rfl ?_
        refine M.icmp_ge (tgt := 68) dX12_takes_63 (by decide) (fun c_63 => absurd c_63 (by decide)) (fun c_63 => ?_)
        refine M.iconst (v := (-1)) dX12_takes_66 (by decide) ?_
        refine M.iret dX12_takes_67 rfl ?_
        exact Or.inl ⟨Or.inl (ht.trans (tk1_end e1)), rfl, rfl, rfl⟩
      · skip
        have lt_x : x < W.length := nI_ltn c_16 (by omega) (by omega)
        refine M.iload_n dX12_takes_19 rfl ?_
        refine M.iload_n dX12_takes_20 rfl ?_
        refine M.icmp_ge (tgt := 61) dX12_takes_21 (by decide) (fun c_21 => absurd c_21 (by decide)) (fun c_21 => ?_)
        refine M.aload_nR dX12_takes_24 rfl ?_
        refine M.iload dX12_takes_25 rfl ?_
        refine M.iload_n dX12_takes_27 rfl ?_
        refine M.callV [.int (nI x), .int (-1)] dX12_takes_28 mdX12_isUsed imX12_isUsed seX12_isUsed lk_X12_281 rfl rfl rfl rfl (m_isUsedN hA h24 hUl hU hWl hW (a := x) lt_x) ?_
        rintro _ I9 F9 ⟨rfl, e9, e8⟩
        have e9 := e9.symm; subst e9; have e8 := e8.symm; subst e8
        refine M.if_eq (tgt := 37) dX12_takes_31 (by decide) (fun c_31 => ?_) (fun c_31 => ?_)
        · skip
          have hout := of_decide_eq_false ((bI_eq0 _).mp c_31)
          have hk1 : tk1 U W = some (W.getD x [], W.drop (x + 1)) := ht.trans (tk1_out lt_x hout)
          refine M.iload dX12_takes_37 rfl ?_
          refine M.istore (L' := [some (.ref m), some (.int 2), some (.int (-1)), some (.int 0), some (.int (nI x)), some (.int (nI x)), none, none]) dX12_takes_39 (by decide) rfl rfl ?_
          refine M.iload_n dX12_takes_41 rfl ?_
          refine M.if_ne (tgt := 50) dX12_takes_42 (by decide) (fun c_42 => absurd rfl c_42) (fun c_42 => ?_)
          refine M.iload dX12_takes_45 rfl ?_
          refine M.goto (tgt := 51) dX12_takes_47 (by decide) ?_
          refine M.istore_n (L' := [some (.ref m), some (.int 2), some (.int (nI x)), some (.int 0), some (.int (nI x)), some (.int (nI x)), none, none]) dX12_takes_51 (by decide) rfl rfl ?_
          refine M.iinc (v := 1) (L' := [some (.ref m), some (.int 2), some (.int (nI x)), some (.int 1), some (.int (nI x)), some (.int (nI x)), none, none]) dX12_takes_52 rfl rfl (by decide) rfl rfl ?_
          refine M.iinc (v := nI (x + 1)) (L' := [some (.ref m), some (.int 2), some (.int (nI x)), some (.int 1), some (.int (nI (x + 1))), some (.int (nI x)), none, none]) dX12_takes_55 rfl (nI_1 x) (by decide) rfl rfl ?_
          refine M.goto (tgt := 10) dX12_takes_58 (by decide) ?_
          have cut_10b : ∀ (k_10b : Nat) (y : Nat), (x < y) → (y ≤ W.length) → (W.length + 1 ≤ y + k_10b) → (tk1 (U ++ [W.getD x []]) (W.drop (x + 1)) = tk1 (U ++ [W.getD x []]) (W.drop y)) → M Λ X mX12_takes m A (fun r I' F' => ((tk1 U W = none ∨ ∃ (d : List Int32) (W1 : List (List Int32)), tk1 U W = some (d, W1) ∧ tk1 (U ++ [d]) W1 = none) ∧ r = some (.int (-1)) ∧ I' = I ∧ F' = F) ∨ ∃ (d : List Int32) (W1 : List (List Int32)) (e : List Int32) (W2 : List (List Int32)) (g21 : Nat → Int32), tk1 U W = some (d, W1) ∧ tk1 (U ++ [d]) W1 = some (e, W2) ∧ r = some (.int (nI U.length)) ∧ I' = upd (upd I 24 (nI (U.length + 2))) 22 (nI W2.length) ∧ F' = setF (setF F 23 (updl (F 23) (4 * U.length) (d ++ e))) 21 g21 ∧ mDi g21 W2) I F 10 [some (.ref m), some (.int 2), some (.int (nI x)), some (.int 1), some (.int (nI y)), some (.int (nI x)), none, none] [] := by
            intro k_10b
            induction k_10b with
            | zero => intro y h3 h3b h4 ht2; exact absurd h4 (by omega)
            | succ k_10b ih_10b =>
              intro y h3 h3b h4 ht2
              refine M.iload dX12_takes_10 rfl ?_
              refine M.aload_nR dX12_takes_12 rfl ?_
              refine M.geti (v := nI W.length) dX12_takes_13 fl_X12_278 rfl rfl h22 ?_
              refine M.icmp_ge (tgt := 61) dX12_takes_16 (by decide) (fun c_16 => ?_) (fun c_16 => ?_)
              · skip
                have e1 : W.length ≤ y := (nI_leI (by omega) (by omega)).mp c_16
                refine M.iload_n dX12_takes_61 rfl ?_
                refine M.iload_n dX12_takes_62 rfl ?_
                refine M.icmp_ge (tgt := 68) dX12_takes_63 (by decide) (fun c_63 => absurd c_63 (by decide)) (fun c_63 => ?_)
                refine M.iconst (v := (-1)) dX12_takes_66 (by decide) ?_
                refine M.iret dX12_takes_67 rfl ?_
                exact Or.inl ⟨Or.inr ⟨_, _, hk1, ht2.trans (tk1_end e1)⟩, rfl, rfl, rfl⟩
              · skip
                have lt_y : y < W.length := nI_ltn c_16 (by omega) (by omega)
                refine M.iload_n dX12_takes_19 rfl ?_
                refine M.iload_n dX12_takes_20 rfl ?_
                refine M.icmp_ge (tgt := 61) dX12_takes_21 (by decide) (fun c_21 => absurd c_21 (by decide)) (fun c_21 => ?_)
                refine M.aload_nR dX12_takes_24 rfl ?_
                refine M.iload dX12_takes_25 rfl ?_
                refine M.iload_n dX12_takes_27 rfl ?_
                refine M.callV [.int (nI y), .int (nI x)] dX12_takes_28 mdX12_isUsed imX12_isUsed seX12_isUsed lk_X12_281 rfl rfl rfl rfl (m_isUsedS hA h24 hUl hU hWl hW (a := y) lt_y (b9 := x) (by omega)) ?_
                rintro _ I9 F9 ⟨rfl, e9, e8⟩
                have e9 := e9.symm; subst e9; have e8 := e8.symm; subst e8
                refine M.if_eq (tgt := 37) dX12_takes_31 (by decide) (fun c_31 => ?_) (fun c_31 => ?_)
                · skip
                  have hout := of_decide_eq_false ((bI_eq0 _).mp c_31)
                  have hk2 := ht2.trans (tk1_out lt_y hout)
                  refine M.iload dX12_takes_37 rfl ?_
                  refine M.istore (L' := [some (.ref m), some (.int 2), some (.int (nI x)), some (.int 1), some (.int (nI y)), some (.int (nI y)), none, none]) dX12_takes_39 (by decide) rfl rfl ?_
                  refine M.iload_n dX12_takes_41 rfl ?_
                  refine M.if_ne (tgt := 50) dX12_takes_42 (by decide) (fun c_42 => ?_) (fun c_42 => absurd c_42 (by decide))
                  refine M.iload_n dX12_takes_50 rfl ?_
                  refine M.istore_n (L' := [some (.ref m), some (.int 2), some (.int (nI x)), some (.int 1), some (.int (nI y)), some (.int (nI y)), none, none]) dX12_takes_51 (by decide) rfl rfl ?_
                  refine M.iinc (v := 2) (L' := [some (.ref m), some (.int 2), some (.int (nI x)), some (.int 2), some (.int (nI y)), some (.int (nI y)), none, none]) dX12_takes_52 rfl rfl (by decide) rfl rfl ?_
                  refine M.iinc (v := nI (y + 1)) (L' := [some (.ref m), some (.int 2), some (.int (nI x)), some (.int 2), some (.int (nI (y + 1))), some (.int (nI y)), none, none]) dX12_takes_55 rfl (nI_1 y) (by decide) rfl rfl ?_
                  refine M.goto (tgt := 10) dX12_takes_58 (by decide) ?_
                  refine M.iload dX12_takes_10 rfl ?_
                  refine M.aload_nR dX12_takes_12 rfl ?_
                  refine M.geti (v := nI W.length) dX12_takes_13 fl_X12_278 rfl rfl h22 ?_
                  refine M.icmp_ge (tgt := 61) dX12_takes_16 (by decide) (fun c_16 => ?_) (fun c_16 => ?_)
                  · skip
                    refine M.iload_n dX12_takes_61 rfl ?_
                    refine M.iload_n dX12_takes_62 rfl ?_
                    refine M.icmp_ge (tgt := 68) dX12_takes_63 (by decide) (fun c_63 => ?_) (fun c_63 => absurd (by decide) c_63)
                    exact cut_68 x y (y + 1) (by omega) (by omega) (by omega) (by omega) hk1 hk2
                  · skip
                    refine M.iload_n dX12_takes_19 rfl ?_
                    refine M.iload_n dX12_takes_20 rfl ?_
                    refine M.icmp_ge (tgt := 61) dX12_takes_21 (by decide) (fun c_21 => ?_) (fun c_21 => absurd (by decide) c_21)
                    refine M.iload_n dX12_takes_61 rfl ?_
                    refine M.iload_n dX12_takes_62 rfl ?_
                    refine M.icmp_ge (tgt := 68) dX12_takes_63 (by decide) (fun c_63 => ?_) (fun c_63 => absurd (by decide) c_63)
                    exact cut_68 x y (y + 1) (by omega) (by omega) (by omega) (by omega) hk1 hk2
                · skip
                  refine M.goto (tgt := 55) dX12_takes_34 (by decide) ?_
                  refine M.iinc (v := nI (y + 1)) (L' := [some (.ref m), some (.int 2), some (.int (nI x)), some (.int 1), some (.int (nI (y + 1))), some (.int (nI x)), none, none]) dX12_takes_55 rfl (nI_1 y) (by decide) rfl rfl ?_
                  refine M.goto (tgt := 10) dX12_takes_58 (by decide) ?_
                  exact ih_10b (y + 1) (by omega) (by omega) (by omega) (by rw [ht2, tk1_in lt_y (of_decide_eq_true (bt1 c_31))])
          exact cut_10b (W.length + 1) (x + 1) (by omega) (by omega) (by omega) rfl
        · skip
          refine M.goto (tgt := 55) dX12_takes_34 (by decide) ?_
          refine M.iinc (v := nI (x + 1)) (L' := [some (.ref m), some (.int 2), some (.int (-1)), some (.int 0), some (.int (nI (x + 1))), some (.int (-1)), none, none]) dX12_takes_55 rfl (nI_1 x) (by decide) rfl rfl ?_
          refine M.goto (tgt := 10) dX12_takes_58 (by decide) ?_
          exact ih_10a (x + 1) (by omega) (by omega) (by rw [ht, tk1_in lt_x (of_decide_eq_true (bt1 c_31))])
  exact cut_10a (W.length + 1) 0 (by omega) (by omega) (by rw [List.drop_zero])
