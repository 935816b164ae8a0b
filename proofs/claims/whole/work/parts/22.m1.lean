/-! the reference: comparisons -/
theorem alln_s {p : Nat → Bool} {k : Nat} : alln p (k + 1) = (alln p k && p k) := rfl
theorem like_t {f g : Nat → Int32} {i j n p : Nat} (h : (decide (n = p) && alln (fun y => decide (f (i + y) = g (j + y))) n) = true) : tl f i n = tl g j p := by
  rw [Bool.and_eq_true] at h
  have e := of_decide_eq_true h.1
  subst e
  exact tl_eq.mpr fun y hy => of_decide_eq_true (alln_iff.mp h.2 y hy)
theorem like_f {f g : Nat → Int32} {i j n p x : Nat} (h : (decide (n = p) && alln (fun y => decide (f (i + y) = g (j + y))) x) = false) (hx : x ≤ n) : ¬ tl f i n = tl g j p := by
  intro e
  have e1 : n = p := by
    have := congrArg List.length e
    rwa [tl_len, tl_len] at this
  subst e1
  rw [decide_eq_true rfl, Bool.true_and] at h
  have h2 : alln (fun y => decide (f (i + y) = g (j + y))) x = true := alln_iff.mpr fun y hy => decide_eq_true (tl_eq.mp e y (by omega))
  rw [h2] at h
  cases h
theorem text_t {f : Nat → Int32} {i n : Nat} {bs : List Int32} (hf : byt f i n) (hb : byt (fun i => bs.getD i 0) 0 bs.length) (h : (decide (n = bs.length) && alln (fun y => decide (f (i + y) &&& 255 = bs.getD y 0 &&& 255)) n) = true) : tl f i n = bs := by
  rw [Bool.and_eq_true] at h
  have e := of_decide_eq_true h.1
  subst e
  exact tl_bs.mpr fun y hy => (b255_eq (hf y hy) (byt_at hb hy)).mp (of_decide_eq_true (alln_iff.mp h.2 y hy))
theorem text_f {f : Nat → Int32} {i n x : Nat} {bs : List Int32} (h : (decide (n = bs.length) && alln (fun y => decide (f (i + y) &&& 255 = bs.getD y 0 &&& 255)) x) = false) (hx : x ≤ n) : ¬ tl f i n = bs := by
  intro e
  have e1 : n = bs.length := by
    have := congrArg List.length e
    rwa [tl_len] at this
  subst e1
  rw [decide_eq_true rfl, Bool.true_and] at h
  have h2 : alln (fun y => decide (f (i + y) &&& 255 = bs.getD y 0 &&& 255)) x = true := alln_iff.mpr fun y hy => decide_eq_true (by rw [tl_bs.mp e y (by omega)])
  rw [h2] at h
  cases h
theorem tl_alln {f : Nat → Int32} {i n : Nat} {p : Int32 → Bool} : (tl f i n).all p = alln (fun y => p (f (i + y))) n := by
  cases h : alln (fun y => p (f (i + y))) n with
  | true => exact tl_all.mpr (alln_iff.mp h)
  | false =>
    cases h2 : (tl f i n).all p with
    | false => rfl
    | true => rw [alln_iff.mpr (tl_all.mp h2)] at h; cases h
theorem bt1 {b : Bool} (h : ¬ bI b = 0) : b = true := by cases b; exact absurd rfl h; rfl
theorem vis_t {x : Int32} (h1 : ¬ x ≤ 32) (h2 : ¬ 127 ≤ x) : visb x = true := by
  rw [visb, Bool.and_eq_true]
  rw [i32_le] at h1 h2
  have e1 : (32 : Int32).toInt = 32 := rfl
  have e2 : (127 : Int32).toInt = 127 := rfl
  have e3 : (33 : Int32).toInt = 33 := rfl
  have e4 : (126 : Int32).toInt = 126 := rfl
  exact ⟨decide_eq_true (i32_le.mpr (by omega)), decide_eq_true (i32_le.mpr (by omega))⟩
theorem vis_f1 {x : Int32} (h1 : x ≤ 32) : visb x = false := by
  rw [i32_le] at h1
  have e1 : (32 : Int32).toInt = 32 := rfl
  have e3 : (33 : Int32).toInt = 33 := rfl
  rw [visb, decide_eq_false (fun q => by rw [i32_le] at q; omega)]
  rfl
theorem vis_f2 {x : Int32} (h1 : 127 ≤ x) : visb x = false := by
  rw [i32_le] at h1
  have e1 : (127 : Int32).toInt = 127 := rfl
  have e3 : (126 : Int32).toInt = 126 := rfl
  rw [visb, decide_eq_false (p := x ≤ 126) (fun q => by rw [i32_le] at q; omega), Bool.and_false]

theorem m_isLike {Λ : kL} {m : Nat} {A : Nat → Nat} {I : Nat → Int32} {F : Nat → Nat → Int32} (hA : mInj A) {k1 : Nat} (r_k1 : mRef k1 = true) (t_k1 : mK k1 = 0) {k2 : Nat} (r_k2 : mRef k2 = true) (t_k2 : mK k2 = 0) {i n j p : Nat} (hi : i + n ≤ mN k1) (hj : j + p ≤ mN k2) : mCt Λ mX12_isLike m A [.ref (A k1), .int (nI i), .int (nI n), .ref (A k2), .int (nI j), .int (nI p)] I F (fun r I' F' => r = some (.int (bI (decide (tl (F k1) i n = tl (F k2) j p)))) ∧ I' = I ∧ F' = F) := by
  refine mCt.of hA pn_X12 [some (.ref (A k1)), some (.int (nI i)), some (.int (nI n)), some (.ref (A k2)), some (.int (nI j)), some (.int (nI p)), none, none] rfl (Nat.le_of_ble_eq_true rfl) fun X => ?_
  have hm1 := mN_lt k1
  have hm2 := mN_lt k2
  have cut_16 : ∀ (k_16 : Nat) (x : Nat) (b : Bool), x ≤ n → n + 1 ≤ x + k_16 → b = (decide (n = p) && alln (fun y => decide (F k1 (i + y) = F k2 (j + y))) x) → M Λ X mX12_isLike m A (fun r I' F' => r = some (.int (bI (decide (tl (F k1) i n = tl (F k2) j p)))) ∧ I' = I ∧ F' = F) I F 16 [some (.ref (A k1)), some (.int (nI i)), some (.int (nI n)), some (.ref (A k2)), some (.int (nI j)), some (.int (nI p)), some (.int (bI b)), some (.int (nI x))] [] := by
    intro k_16
    induction k_16 with
    | zero => intro x b h1 h2 hb; exact absurd h2 (by omega)
    | succ k_16 ih_16 =>
      intro x b h1 h2 hb
      refine M.iload dX12_isLike_16 rfl ?_
      refine M.if_eq (tgt := 56) dX12_isLike_18 (by decide) (fun c_18 => ?_) (fun c_18 => ?_)
      · skip
        refine M.iload dX12_isLike_56 rfl ?_
        refine M.zret dX12_isLike_58 rfl (bI_nar _) ?_
        refine ⟨congrArg (fun z => some (Value.int z)) ?_, rfl, rfl⟩
        first
          | (have e0 := (bI_eq0 b).mp c_18; rw [decide_eq_false (like_f (hb.symm.trans e0) h1), e0])
          | (have e0 := bt1 c_18; have e1 := nI_gen c_24 h1 (by omega); subst e1; rw [decide_eq_true (like_t (hb.symm.trans e0)), e0])
      · skip
        refine M.iload dX12_isLike_21 rfl ?_
        refine M.iload_n dX12_isLike_23 rfl ?_
        refine M.icmp_ge (tgt := 56) dX12_isLike_24 (by decide) (fun c_24 => ?_) (fun c_24 => ?_)
        · skip
          refine M.iload dX12_isLike_56 rfl ?_
          refine M.zret dX12_isLike_58 rfl (bI_nar _) ?_
          refine ⟨congrArg (fun z => some (Value.int z)) ?_, rfl, rfl⟩
          first
            | (have e0 := (bI_eq0 b).mp c_18; rw [decide_eq_false (like_f (hb.symm.trans e0) h1), e0])
            | (have e0 := bt1 c_18; have e1 := nI_gen c_24 h1 (by omega); subst e1; rw [decide_eq_true (like_t (hb.symm.trans e0)), e0])
        · skip
          have lt_x : x < n := nI_ltn c_24 (by omega) (by omega)
          have hbt := bt1 c_18
          have enp : n = p := by
            rw [hbt] at hb
            have h9 := hb.symm
            rw [Bool.and_eq_true] at h9
            exact of_decide_eq_true h9.1
          refine M.aload_nR dX12_isLike_27 rfl ?_
          refine M.iload_n dX12_isLike_28 rfl ?_
          refine M.iload dX12_isLike_29 rfl ?_
          refine M.iadd dX12_isLike_31 ?_
          rw [show (nI i) + (nI x) = nI (i + x) from nI_add i x]
          refine M.bald (k9 := k1) (j := i + x) (g := F k1) dX12_isLike_32 r_k1 t_k1 rfl rfl (by omega) ?_
          refine M.aload_nR dX12_isLike_33 rfl ?_
          refine M.iload dX12_isLike_34 rfl ?_
          refine M.iload dX12_isLike_36 rfl ?_
          refine M.iadd dX12_isLike_38 ?_
          rw [show (nI j) + (nI x) = nI (j + x) from nI_add j x]
          refine M.bald (k9 := k2) (j := j + x) (g := F k2) dX12_isLike_39 r_k2 t_k2 rfl rfl (by omega) ?_
          refine M.icmp_ne (tgt := 47) dX12_isLike_40 (by decide) (fun c_40 => ?_) (fun c_40 => ?_)
          · skip
            refine M.iconst (v := 0) dX12_isLike_47 (by decide) ?_
            refine M.istore (L' := [some (.ref (A k1)), some (.int (nI i)), some (.int (nI n)), some (.ref (A k2)), some (.int (nI j)), some (.int (nI p)), some (.int 0), some (.int (nI x))]) dX12_isLike_48 (by decide) rfl rfl ?_
            refine M.iinc (v := nI (x + 1)) (L' := [some (.ref (A k1)), some (.int (nI i)), some (.int (nI n)), some (.ref (A k2)), some (.int (nI j)), some (.int (nI p)), some (.int 0), some (.int (nI (x + 1)))]) dX12_isLike_50 rfl (nI_1 x) (by decide) rfl rfl ?_
            refine M.goto (tgt := 16) dX12_isLike_53 (by decide) ?_
            exact ih_16 (x + 1) false (by omega) (by omega) (by rw [alln_s, decide_eq_false c_40, Bool.and_false, Bool.and_false])
          · skip
            refine M.iconst (v := 1) dX12_isLike_43 (by decide) ?_
            refine M.goto (tgt := 48) dX12_isLike_44 (by decide) ?_
            refine M.istore (L' := [some (.ref (A k1)), some (.int (nI i)), some (.int (nI n)), some (.ref (A k2)), some (.int (nI j)), some (.int (nI p)), some (.int 1), some (.int (nI x))]) dX12_isLike_48 (by decide) rfl rfl ?_
            refine M.iinc (v := nI (x + 1)) (L' := [some (.ref (A k1)), some (.int (nI i)), some (.int (nI n)), some (.ref (A k2)), some (.int (nI j)), some (.int (nI p)), some (.int 1), some (.int (nI (x + 1)))]) dX12_isLike_50 rfl (nI_1 x) (by decide) rfl rfl ?_
            refine M.goto (tgt := 16) dX12_isLike_53 (by decide) ?_
            exact ih_16 (x + 1) true (by omega) (by omega) (by rw [alln_s, ← Bool.and_assoc, ← hb, hbt, Bool.true_and, decide_eq_true c_40])
  refine M.iload_n dX12_isLike_0 rfl ?_
  refine M.iload dX12_isLike_1 rfl ?_
  refine M.icmp_ne (tgt := 10) dX12_isLike_3 (by decide) (fun c_3 => ?_) (fun c_3 => ?_)
  · skip
    refine M.iconst (v := 0) dX12_isLike_10 (by decide) ?_
    refine M.istore (L' := [some (.ref (A k1)), some (.int (nI i)), some (.int (nI n)), some (.ref (A k2)), some (.int (nI j)), some (.int (nI p)), some (.int 0), none]) dX12_isLike_11 (by decide) rfl rfl ?_
    refine M.iconst (v := 0) dX12_isLike_13 (by decide) ?_
    refine M.istore (L' := [some (.ref (A k1)), some (.int (nI i)), some (.int (nI n)), some (.ref (A k2)), some (.int (nI j)), some (.int (nI p)), some (.int 0), some (.int 0)]) dX12_isLike_14 (by decide) rfl rfl ?_
    exact cut_16 (n + 1) 0 false (by omega) (by omega) (by rw [decide_eq_false (fun q => c_3 (by rw [q]))]; rfl)
  · skip
    refine M.iconst (v := 1) dX12_isLike_6 (by decide) ?_
    refine M.goto (tgt := 11) dX12_isLike_7 (by decide) ?_
    refine M.istore (L' := [some (.ref (A k1)), some (.int (nI i)), some (.int (nI n)), some (.ref (A k2)), some (.int (nI j)), some (.int (nI p)), some (.int 1), none]) dX12_isLike_11 (by decide) rfl rfl ?_
    refine M.iconst (v := 0) dX12_isLike_13 (by decide) ?_
    refine M.istore (L' := [some (.ref (A k1)), some (.int (nI i)), some (.int (nI n)), some (.ref (A k2)), some (.int (nI j)), some (.int (nI p)), some (.int 1), some (.int 0)]) dX12_isLike_14 (by decide) rfl rfl ?_
    exact cut_16 (n + 1) 0 true (by omega) (by omega) (by rw [decide_eq_true ((nI_eq (by omega) (by omega)).mp c_3)]; rfl)

theorem m_isText {Λ : kL} {m : Nat} {A : Nat → Nat} {I : Nat → Int32} {F : Nat → Nat → Int32} (hA : mInj A) {k1 : Nat} (r_k1 : mRef k1 = true) (t_k1 : mK k1 = 0) {i n : Nat} (hi : i + n ≤ mN k1) (hby : byt (F k1) i n) {a : Nat} {bs : List Int32} (hs : kStr Λ a bs) (hbs : byt (fun i => bs.getD i 0) 0 bs.length) : mCt Λ mX12_isText m A [.ref (A k1), .int (nI i), .int (nI n), .ref a] I F (fun r I' F' => r = some (.int (bI (decide (tl (F k1) i n = bs)))) ∧ I' = I ∧ F' = F) := by
  refine mCt.of hA pn_X12 [some (.ref (A k1)), some (.int (nI i)), some (.int (nI n)), some (.ref a), none, none] rfl (Nat.le_of_ble_eq_true rfl) fun X => ?_
  have hm1 := mN_lt k1
  have hsl := hs.len
  have cut_18 : ∀ (k_18 : Nat) (x : Nat) (b : Bool), x ≤ n → n + 1 ≤ x + k_18 → b = (decide (n = bs.length) && alln (fun y => decide (F k1 (i + y) &&& 255 = bs.getD y 0 &&& 255)) x) → M Λ X mX12_isText m A (fun r I' F' => r = some (.int (bI (decide (tl (F k1) i n = bs)))) ∧ I' = I ∧ F' = F) I F 18 [some (.ref (A k1)), some (.int (nI i)), some (.int (nI n)), some (.ref a), some (.int (bI b)), some (.int (nI x))] [] := by
    intro k_18
    induction k_18 with
    | zero => intro x b h1 h2 hb; exact absurd h2 (by omega)
    | succ k_18 ih_18 =>
      intro x b h1 h2 hb
      refine M.iload dX12_isText_18 rfl ?_
      refine M.if_eq (tgt := 61) dX12_isText_20 (by decide) (fun c_20 => ?_) (fun c_20 => ?_)
      · skip
        refine M.iload dX12_isText_61 rfl ?_
        refine M.zret dX12_isText_63 rfl (bI_nar _) ?_
        refine ⟨congrArg (fun z => some (Value.int z)) ?_, rfl, rfl⟩
        first
          | (have e0 := (bI_eq0 b).mp c_20; rw [decide_eq_false (text_f (hb.symm.trans e0) h1), e0])
          | (have e0 := bt1 c_20; have e1 := nI_gen c_26 h1 (by omega); subst e1; rw [decide_eq_true (text_t hby hbs (hb.symm.trans e0)), e0])
      · skip
        refine M.iload dX12_isText_23 rfl ?_
        refine M.iload_n dX12_isText_25 rfl ?_
        refine M.icmp_ge (tgt := 61) dX12_isText_26 (by decide) (fun c_26 => ?_) (fun c_26 => ?_)
        · skip
          refine M.iload dX12_isText_61 rfl ?_
          refine M.zret dX12_isText_63 rfl (bI_nar _) ?_
          refine ⟨congrArg (fun z => some (Value.int z)) ?_, rfl, rfl⟩
          first
            | (have e0 := (bI_eq0 b).mp c_20; rw [decide_eq_false (text_f (hb.symm.trans e0) h1), e0])
            | (have e0 := bt1 c_20; have e1 := nI_gen c_26 h1 (by omega); subst e1; rw [decide_eq_true (text_t hby hbs (hb.symm.trans e0)), e0])
        · skip
          have lt_x : x < n := nI_ltn c_26 (by omega) (by omega)
          have hbt := bt1 c_20
          have enp : n = bs.length := by
            rw [hbt] at hb
            have h9 := hb.symm
            rw [Bool.and_eq_true] at h9
            exact of_decide_eq_true h9.1
          refine M.aload_nR dX12_isText_29 rfl ?_
          refine M.iload_n dX12_isText_30 rfl ?_
          refine M.iload dX12_isText_31 rfl ?_
          refine M.iadd dX12_isText_33 ?_
          rw [show (nI i) + (nI x) = nI (i + x) from nI_add i x]
          refine M.bald (k9 := k1) (j := i + x) (g := F k1) dX12_isText_34 r_k1 t_k1 rfl rfl (by omega) ?_
          refine M.sipush (v := 255) dX12_isText_35 (by decide) ?_
          refine M.iand dX12_isText_38 ?_
          refine M.aload_nR dX12_isText_39 rfl ?_
          refine M.iload dX12_isText_40 rfl ?_
          refine M.callC (v := .int (bs.getD x 0 &&& 255)) [.int (nI x)] dX12_isText_42 mdJ0_charAt_5068e imJ0_charAt_5068e seJ0_charAt_5068e hs.O lm_X12_197 rfl rfl rfl rfl (fun σ9 => c_charAt hs (show x < bs.length by omega)) ?_
          refine M.icmp_ne (tgt := 52) dX12_isText_45 (by decide) (fun c_45 => ?_) (fun c_45 => ?_)
          · skip
            refine M.iconst (v := 0) dX12_isText_52 (by decide) ?_
            refine M.istore (L' := [some (.ref (A k1)), some (.int (nI i)), some (.int (nI n)), some (.ref a), some (.int 0), some (.int (nI x))]) dX12_isText_53 (by decide) rfl rfl ?_
            refine M.iinc (v := nI (x + 1)) (L' := [some (.ref (A k1)), some (.int (nI i)), some (.int (nI n)), some (.ref a), some (.int 0), some (.int (nI (x + 1)))]) dX12_isText_55 rfl (nI_1 x) (by decide) rfl rfl ?_
            refine M.goto (tgt := 18) dX12_isText_58 (by decide) ?_
            exact ih_18 (x + 1) false (by omega) (by omega) (by rw [alln_s, decide_eq_false c_45, Bool.and_false, Bool.and_false])
          · skip
            refine M.iconst (v := 1) dX12_isText_48 (by decide) ?_
            refine M.goto (tgt := 53) dX12_isText_49 (by decide) ?_
            refine M.istore (L' := [some (.ref (A k1)), some (.int (nI i)), some (.int (nI n)), some (.ref a), some (.int 1), some (.int (nI x))]) dX12_isText_53 (by decide) rfl rfl ?_
            refine M.iinc (v := nI (x + 1)) (L' := [some (.ref (A k1)), some (.int (nI i)), some (.int (nI n)), some (.ref a), some (.int 1), some (.int (nI (x + 1)))]) dX12_isText_55 rfl (nI_1 x) (by decide) rfl rfl ?_
            refine M.goto (tgt := 18) dX12_isText_58 (by decide) ?_
            exact ih_18 (x + 1) true (by omega) (by omega) (by rw [alln_s, ← Bool.and_assoc, ← hb, hbt, Bool.true_and, decide_eq_true c_45])
  refine M.iload_n dX12_isText_0 rfl ?_
  refine M.aload_nR dX12_isText_1 rfl ?_
  refine M.callC (v := .int (nI bs.length)) [] dX12_isText_2 mdJ0_length_8abf5 imJ0_length_8abf5 seJ0_length_8abf5 hs.O lm_X12_191 rfl rfl rfl rfl (fun σ9 => c_length hs) ?_
  refine M.icmp_ne (tgt := 12) dX12_isText_5 (by decide) (fun c_5 => ?_) (fun c_5 => ?_)
  · skip
    refine M.iconst (v := 0) dX12_isText_12 (by decide) ?_
    refine M.istore (L' := [some (.ref (A k1)), some (.int (nI i)), some (.int (nI n)), some (.ref a), some (.int 0), none]) dX12_isText_13 (by decide) rfl rfl ?_
    refine M.iconst (v := 0) dX12_isText_15 (by decide) ?_
    refine M.istore (L' := [some (.ref (A k1)), some (.int (nI i)), some (.int (nI n)), some (.ref a), some (.int 0), some (.int 0)]) dX12_isText_16 (by decide) rfl rfl ?_
    exact cut_18 (n + 1) 0 false (by omega) (by omega) (by rw [decide_eq_false (fun q => c_5 (by rw [q]))]; rfl)
  · skip
    refine M.iconst (v := 1) dX12_isText_8 (by decide) ?_
    refine M.goto (tgt := 13) dX12_isText_9 (by decide) ?_
    refine M.istore (L' := [some (.ref (A k1)), some (.int (nI i)), some (.int (nI n)), some (.ref a), some (.int 1), none]) dX12_isText_13 (by decide) rfl rfl ?_
    refine M.iconst (v := 0) dX12_isText_15 (by decide) ?_
    refine M.istore (L' := [some (.ref (A k1)), some (.int (nI i)), some (.int (nI n)), some (.ref a), some (.int 1), some (.int 0)]) dX12_isText_16 (by decide) rfl rfl ?_
    exact cut_18 (n + 1) 0 true (by omega) (by omega) (by rw [decide_eq_true ((nI_eq (by omega) (by omega)).mp c_5)]; rfl)

theorem m_isVisible {Λ : kL} {m : Nat} {A : Nat → Nat} {I : Nat → Int32} {F : Nat → Nat → Int32} (hA : mInj A) {k1 : Nat} (r_k1 : mRef k1 = true) (t_k1 : mK k1 = 0) {i n : Nat} (hi : i + n ≤ mN k1) : mCt Λ mX12_isVisible m A [.ref (A k1), .int (nI i), .int (nI n)] I F (fun r I' F' => r = some (.int (bI ((tl (F k1) i n).all visb))) ∧ I' = I ∧ F' = F) := by
  refine mCt.of hA pn_X12 [some (.ref (A k1)), some (.int (nI i)), some (.int (nI n)), none, none] rfl (Nat.le_of_ble_eq_true rfl) fun X => ?_
  have hm1 := mN_lt k1
  have cut_5 : ∀ (k_5 : Nat) (x : Nat) (b : Bool), x ≤ n → n + 1 ≤ x + k_5 → b = alln (fun y => visb (F k1 (i + y))) x → M Λ X mX12_isVisible m A (fun r I' F' => r = some (.int (bI ((tl (F k1) i n).all visb))) ∧ I' = I ∧ F' = F) I F 5 [some (.ref (A k1)), some (.int (nI i)), some (.int (nI n)), some (.int (bI b)), some (.int (nI x))] [] := by
    intro k_5
    induction k_5 with
    | zero => intro x b h1 h2 hb; exact absurd h2 (by omega)
    | succ k_5 ih_5 =>
      intro x b h1 h2 hb
      refine M.iload dX12_isVisible_5 rfl ?_
      refine M.iload_n dX12_isVisible_7 rfl ?_
      refine M.icmp_ge (tgt := 49) dX12_isVisible_8 (by decide) (fun c_8 => ?_) (fun c_8 => ?_)
      · skip
        refine M.iload_n dX12_isVisible_49 rfl ?_
        refine M.zret dX12_isVisible_50 rfl (bI_nar _) ?_
        have e1 := nI_gen c_8 h1 (by omega); subst e1
        exact ⟨by rw [tl_alln, ← hb], rfl, rfl⟩
      · skip
        have lt_x : x < n := nI_ltn c_8 (by omega) (by omega)
        refine M.iload_n dX12_isVisible_11 rfl ?_
        refine M.if_eq (tgt := 41) dX12_isVisible_12 (by decide) (fun c_12 => ?_) (fun c_12 => ?_)
        · skip
          refine M.iconst (v := 0) dX12_isVisible_41 (by decide) ?_
          refine M.istore_n (L' := [some (.ref (A k1)), some (.int (nI i)), some (.int (nI n)), some (.int 0), some (.int (nI x))]) dX12_isVisible_42 (by decide) rfl rfl ?_
          refine M.iinc (v := nI (x + 1)) (L' := [some (.ref (A k1)), some (.int (nI i)), some (.int (nI n)), some (.int 0), some (.int (nI (x + 1)))]) dX12_isVisible_43 rfl (nI_1 x) (by decide) rfl rfl ?_
          refine M.goto (tgt := 5) dX12_isVisible_46 (by decide) ?_
          exact ih_5 (x + 1) false (by omega) (by omega) (by rw [alln_s, ← hb]; first | rw [(bI_eq0 b).mp c_12, Bool.false_and] | rw [vis_f1 c_23, Bool.and_false] | rw [vis_f2 c_34, Bool.and_false])
        · skip
          refine M.aload_nR dX12_isVisible_15 rfl ?_
          refine M.iload_n dX12_isVisible_16 rfl ?_
          refine M.iload dX12_isVisible_17 rfl ?_
          refine M.iadd dX12_isVisible_19 ?_
          rw [show (nI i) + (nI x) = nI (i + x) from nI_add i x]
          refine M.bald (k9 := k1) (j := i + x) (g := F k1) dX12_isVisible_20 r_k1 t_k1 rfl rfl (by omega) ?_
          refine M.bipush (v := 32) dX12_isVisible_21 (by decide) ?_
          refine M.icmp_le (tgt := 41) dX12_isVisible_23 (by decide) (fun c_23 => ?_) (fun c_23 => ?_)
          · skip
            refine M.iconst (v := 0) dX12_isVisible_41 (by decide) ?_
            refine M.istore_n (L' := [some (.ref (A k1)), some (.int (nI i)), some (.int (nI n)), some (.int 0), some (.int (nI x))]) dX12_isVisible_42 (by decide) rfl rfl ?_
            refine M.iinc (v := nI (x + 1)) (L' := [some (.ref (A k1)), some (.int (nI i)), some (.int (nI n)), some (.int 0), some (.int (nI (x + 1)))]) dX12_isVisible_43 rfl (nI_1 x) (by decide) rfl rfl ?_
            refine M.goto (tgt := 5) dX12_isVisible_46 (by decide) ?_
            exact ih_5 (x + 1) false (by omega) (by omega) (by rw [alln_s, ← hb]; first | rw [(bI_eq0 b).mp c_12, Bool.false_and] | rw [vis_f1 c_23, Bool.and_false] | rw [vis_f2 c_34, Bool.and_false])
          · skip
            refine M.aload_nR dX12_isVisible_26 rfl ?_
            refine M.iload_n dX12_isVisible_27 rfl ?_
            refine M.iload dX12_isVisible_28 rfl ?_
            refine M.iadd dX12_isVisible_30 ?_
            rw [show (nI i) + (nI x) = nI (i + x) from nI_add i x]
            refine M.bald (k9 := k1) (j := i + x) (g := F k1) dX12_isVisible_31 r_k1 t_k1 rfl rfl (by omega) ?_
            refine M.bipush (v := 127) dX12_isVisible_32 (by decide) ?_
            refine M.icmp_ge (tgt := 41) dX12_isVisible_34 (by decide) (fun c_34 => ?_) (fun c_34 => ?_)
            · skip
              refine M.iconst (v := 0) dX12_isVisible_41 (by decide) ?_
              refine M.istore_n (L' := [some (.ref (A k1)), some (.int (nI i)), some (.int (nI n)), some (.int 0), some (.int (nI x))]) dX12_isVisible_42 (by decide) rfl rfl ?_
              refine M.iinc (v := nI (x + 1)) (L' := [some (.ref (A k1)), some (.int (nI i)), some (.int (nI n)), some (.int 0), some (.int (nI (x + 1)))]) dX12_isVisible_43 rfl (nI_1 x) (by decide) rfl rfl ?_
              refine M.goto (tgt := 5) dX12_isVisible_46 (by decide) ?_
              exact ih_5 (x + 1) false (by omega) (by omega) (by rw [alln_s, ← hb]; first | rw [(bI_eq0 b).mp c_12, Bool.false_and] | rw [vis_f1 c_23, Bool.and_false] | rw [vis_f2 c_34, Bool.and_false])
            · skip
              refine M.iconst (v := 1) dX12_isVisible_37 (by decide) ?_
              refine M.goto (tgt := 42) dX12_isVisible_38 (by decide) ?_
              refine M.istore_n (L' := [some (.ref (A k1)), some (.int (nI i)), some (.int (nI n)), some (.int 1), some (.int (nI x))]) dX12_isVisible_42 (by decide) rfl rfl ?_
              refine M.iinc (v := nI (x + 1)) (L' := [some (.ref (A k1)), some (.int (nI i)), some (.int (nI n)), some (.int 1), some (.int (nI (x + 1)))]) dX12_isVisible_43 rfl (nI_1 x) (by decide) rfl rfl ?_
              refine M.goto (tgt := 5) dX12_isVisible_46 (by decide) ?_
              exact ih_5 (x + 1) true (by omega) (by omega) (by rw [alln_s, ← hb, bt1 c_12, Bool.true_and, vis_t c_23 c_34])
  refine M.iconst (v := 1) dX12_isVisible_0 (by decide) ?_
  refine M.istore_n (L' := [some (.ref (A k1)), some (.int (nI i)), some (.int (nI n)), some (.int 1), none]) dX12_isVisible_1 (by decide) rfl rfl ?_
  refine M.iconst (v := 0) dX12_isVisible_2 (by decide) ?_
  refine M.istore (L' := [some (.ref (A k1)), some (.int (nI i)), some (.int (nI n)), some (.int 1), some (.int 0)]) dX12_isVisible_3 (by decide) rfl rfl ?_
  exact cut_5 (n + 1) 0 true (by omega) (by omega) rfl

theorem nI_mulc (c i : Nat) : nI c * nI i = nI (c * i) := by
  show Int32.ofNat c * Int32.ofNat i = Int32.ofNat (c * i)
  rw [Int32.ofNat_mul]

theorem m_areSame {Λ : kL} {m : Nat} {A : Nat → Nat} {I : Nat → Int32} {F : Nat → Nat → Int32} (hA : mInj A) {k1 : Nat} (r_k1 : mRef k1 = true) (t_k1 : mK k1 = 1) {k2 : Nat} (r_k2 : mRef k2 = true) (t_k2 : mK k2 = 1) {i j : Nat} (hi : 4 * i + 4 ≤ mN k1) (hj : 4 * j + 4 ≤ mN k2) : mCt Λ mX12_areSame m A [.ref (A k1), .int (nI i), .ref (A k2), .int (nI j)] I F (fun r I' F' => r = some (.int (bI (alln (fun y => decide (F k1 (4 * i + y) = F k2 (4 * j + y))) 4))) ∧ I' = I ∧ F' = F) := by
  refine mCt.of hA pn_X12 [some (.ref (A k1)), some (.int (nI i)), some (.ref (A k2)), some (.int (nI j)), none, none] rfl (Nat.le_of_ble_eq_true rfl) fun X => ?_
  have hm1 := mN_lt k1
  have hm2 := mN_lt k2
  have cut_6 : ∀ (k_6 : Nat) (x : Nat) (b : Bool), x ≤ 4 → 4 + 1 ≤ x + k_6 → b = alln (fun y => decide (F k1 (4 * i + y) = F k2 (4 * j + y))) x → M Λ X mX12_areSame m A (fun r I' F' => r = some (.int (bI (alln (fun y => decide (F k1 (4 * i + y) = F k2 (4 * j + y))) 4))) ∧ I' = I ∧ F' = F) I F 6 [some (.ref (A k1)), some (.int (nI i)), some (.ref (A k2)), some (.int (nI j)), some (.int (bI b)), some (.int (nI x))] [] := by
    intro k_6
    induction k_6 with
    | zero => intro x b h1 h2 hb; exact absurd h2 (by omega)
    | succ k_6 ih_6 =>
      intro x b h1 h2 hb
      refine M.iload dX12_areSame_6 rfl ?_
      refine M.iconst (v := 4) dX12_areSame_8 (by decide) ?_
      refine M.icmp_ge (tgt := 49) dX12_areSame_9 (by decide) (fun c_9 => ?_) (fun c_9 => ?_)
      · skip
        refine M.iload dX12_areSame_49 rfl ?_
        refine M.zret dX12_areSame_51 rfl (bI_nar _) ?_
        have e1 := nI_gen (n := 4) c_9 h1 (by omega); subst e1
        exact ⟨by rw [hb], rfl, rfl⟩
      · skip
        have lt_x : x < 4 := nI_ltn (n := 4) c_9 (by omega) (by omega)
        refine M.iload dX12_areSame_12 rfl ?_
        refine M.if_eq (tgt := 40) dX12_areSame_14 (by decide) (fun c_14 => ?_) (fun c_14 => ?_)
        · skip
          refine M.iconst (v := 0) dX12_areSame_40 (by decide) ?_
          refine M.istore (L' := [some (.ref (A k1)), some (.int (nI i)), some (.ref (A k2)), some (.int (nI j)), some (.int 0), some (.int (nI x))]) dX12_areSame_41 (by decide) rfl rfl ?_
          refine M.iinc (v := nI (x + 1)) (L' := [some (.ref (A k1)), some (.int (nI i)), some (.ref (A k2)), some (.int (nI j)), some (.int 0), some (.int (nI (x + 1)))]) dX12_areSame_43 rfl (nI_1 x) (by decide) rfl rfl ?_
          refine M.goto (tgt := 6) dX12_areSame_46 (by decide) ?_
          exact ih_6 (x + 1) false (by omega) (by omega) (by rw [alln_s, ← hb]; first | rw [(bI_eq0 b).mp c_14, Bool.false_and] | rw [decide_eq_false c_33, Bool.and_false])
        · skip
          refine M.aload_nR dX12_areSame_17 rfl ?_
          refine M.iconst (v := 4) dX12_areSame_18 (by decide) ?_
          refine M.iload_n dX12_areSame_19 rfl ?_
          refine M.imul dX12_areSame_20 ?_
          rw [show 4 * (nI i) = nI (4 * i) from nI_mulc 4 i]
          refine M.iload dX12_areSame_21 rfl ?_
          refine M.iadd dX12_areSame_23 ?_
          rw [show (nI (4 * i)) + (nI x) = nI ((4 * i) + x) from nI_add (4 * i) x]
          refine M.iald (k9 := k1) (j := 4 * i + x) (g := F k1) dX12_areSame_24 r_k1 t_k1 rfl rfl (by omega) ?_
          refine M.aload_nR dX12_areSame_25 rfl ?_
          refine M.iconst (v := 4) dX12_areSame_26 (by decide) ?_
          refine M.iload_n dX12_areSame_27 rfl ?_
          refine M.imul dX12_areSame_28 ?_
          rw [show 4 * (nI j) = nI (4 * j) from nI_mulc 4 j]
          refine M.iload dX12_areSame_29 rfl ?_
          refine M.iadd dX12_areSame_31 ?_
          rw [show (nI (4 * j)) + (nI x) = nI ((4 * j) + x) from nI_add (4 * j) x]
          refine M.iald (k9 := k2) (j := 4 * j + x) (g := F k2) dX12_areSame_32 r_k2 t_k2 rfl rfl (by omega) ?_
          refine M.icmp_ne (tgt := 40) dX12_areSame_33 (by decide) (fun c_33 => ?_) (fun c_33 => ?_)
          · skip
            refine M.iconst (v := 0) dX12_areSame_40 (by decide) ?_
            refine M.istore (L' := [some (.ref (A k1)), some (.int (nI i)), some (.ref (A k2)), some (.int (nI j)), some (.int 0), some (.int (nI x))]) dX12_areSame_41 (by decide) rfl rfl ?_
            refine M.iinc (v := nI (x + 1)) (L' := [some (.ref (A k1)), some (.int (nI i)), some (.ref (A k2)), some (.int (nI j)), some (.int 0), some (.int (nI (x + 1)))]) dX12_areSame_43 rfl (nI_1 x) (by decide) rfl rfl ?_
            refine M.goto (tgt := 6) dX12_areSame_46 (by decide) ?_
            exact ih_6 (x + 1) false (by omega) (by omega) (by rw [alln_s, ← hb]; first | rw [(bI_eq0 b).mp c_14, Bool.false_and] | rw [decide_eq_false c_33, Bool.and_false])
          · skip
            refine M.iconst (v := 1) dX12_areSame_36 (by decide) ?_
            refine M.goto (tgt := 41) dX12_areSame_37 (by decide) ?_
            refine M.istore (L' := [some (.ref (A k1)), some (.int (nI i)), some (.ref (A k2)), some (.int (nI j)), some (.int 1), some (.int (nI x))]) dX12_areSame_41 (by decide) rfl rfl ?_
            refine M.iinc (v := nI (x + 1)) (L' := [some (.ref (A k1)), some (.int (nI i)), some (.ref (A k2)), some (.int (nI j)), some (.int 1), some (.int (nI (x + 1)))]) dX12_areSame_43 rfl (nI_1 x) (by decide) rfl rfl ?_
            refine M.goto (tgt := 6) dX12_areSame_46 (by decide) ?_
            exact ih_6 (x + 1) true (by omega) (by omega) (by rw [alln_s, ← hb, bt1 c_14, Bool.true_and, decide_eq_true c_33])
  refine M.iconst (v := 1) dX12_areSame_0 (by decide) ?_
  refine M.istore (L' := [some (.ref (A k1)), some (.int (nI i)), some (.ref (A k2)), some (.int (nI j)), some (.int 1), none]) dX12_areSame_1 (by decide) rfl rfl ?_
  refine M.iconst (v := 0) dX12_areSame_3 (by decide) ?_
  refine M.istore (L' := [some (.ref (A k1)), some (.int (nI i)), some (.ref (A k2)), some (.int (nI j)), some (.int 1), some (.int 0)]) dX12_areSame_4 (by decide) rfl rfl ?_
  exact cut_6 5 0 true (by omega) (by omega) rfl

theorem m_has {Λ : kL} {m : Nat} {A : Nat → Nat} {I : Nat → Int32} {F : Nat → Nat → Int32} (hA : mInj A) {k : Nat} (hk : k < 13) : mCt Λ mX12_has m A [.ref m, .int (nI k)] I F (fun r I' F' => r = some (.int (bI (decide (0 < F 65 k)))) ∧ I' = I ∧ F' = F) := by
  refine mCt.of hA pn_X12 [some (.ref m), some (.int (nI k))] rfl (Nat.le_of_ble_eq_true rfl) fun X => ?_
  refine M.aload_nR dX12_has_0 rfl ?_
  refine M.getr dX12_has_1 fl_X12_161 rfl rfl ?_
  refine M.iload_n dX12_has_4 rfl ?_
  refine M.iald (k9 := 65) (j := k) (g := F 65) dX12_has_5 rfl rfl rfl rfl (show k < 13 by omega) ?_
  refine M.if_le (tgt := 13) dX12_has_6 (by decide) (fun c_6 => ?_) (fun c_6 => ?_)
  · skip
    refine M.iconst (v := 0) dX12_has_13 (by decide) ?_
    refine M.zret dX12_has_14 rfl rfl ?_
    refine ⟨congrArg (fun z => some (Value.int z)) ?_, rfl, rfl⟩
    first | rw [decide_eq_true (Int32.not_le.mp c_6)] | rw [decide_eq_false (Int32.not_lt.mpr c_6)]
    rfl
  · skip
    refine M.iconst (v := 1) dX12_has_9 (by decide) ?_
    refine M.goto (tgt := 14) dX12_has_10 (by decide) ?_
    refine M.zret dX12_has_14 rfl rfl ?_
    refine ⟨congrArg (fun z => some (Value.int z)) ?_, rfl, rfl⟩
    first | rw [decide_eq_true (Int32.not_le.mp c_6)] | rw [decide_eq_false (Int32.not_lt.mpr c_6)]
    rfl

theorem m_isValue {Λ : kL} {m : Nat} {A : Nat → Nat} {I : Nat → Int32} {F : Nat → Nat → Int32} (hA : mInj A) {k i n : Nat} (hk : k < 13) (h64 : F 64 k = nI i) (h65 : F 65 k = nI n) (hi : i + n ≤ 2000) (hby : byt (F 63) i n) {a : Nat} {bs : List Int32} (hs : kStr Λ a bs) (hbs : byt (fun i => bs.getD i 0) 0 bs.length) : mCt Λ mX12_isValue m A [.ref m, .int (nI k), .ref a] I F (fun r I' F' => r = some (.int (bI (decide (tl (F 63) i n = bs)))) ∧ I' = I ∧ F' = F) := by
  refine mCt.of hA pn_X12 [some (.ref m), some (.int (nI k)), some (.ref a)] rfl (Nat.le_of_ble_eq_true rfl) fun X => ?_
  refine M.aload_nR dX12_isValue_0 rfl ?_
  refine M.getr dX12_isValue_1 fl_X12_155 rfl rfl ?_
  refine M.aload_nR dX12_isValue_4 rfl ?_
  refine M.getr dX12_isValue_5 fl_X12_158 rfl rfl ?_
  refine M.iload_n dX12_isValue_8 rfl ?_
  refine M.iald (k9 := 64) (j := k) (g := F 64) dX12_isValue_9 rfl rfl rfl rfl (show k < 13 by omega) ?_
  rw [h64]
  refine M.aload_nR dX12_isValue_10 rfl ?_
  refine M.getr dX12_isValue_11 fl_X12_161 rfl rfl ?_
  refine M.iload_n dX12_isValue_14 rfl ?_
  refine M.iald (k9 := 65) (j := k) (g := F 65) dX12_isValue_15 rfl rfl rfl rfl (show k < 13 by omega) ?_
  rw [h65]
  refine M.aload_nR dX12_isValue_16 rfl ?_
  refine M.callS [.ref (A 63), .int (nI i), .int (nI n), .ref a] dX12_isValue_17 mdX12_isText ssX12_isText lk_X12_209 rfl rfl rfl rfl (m_isText hA (k1 := 63) rfl rfl (show i + n ≤ 2000 by omega) hby hs hbs) ?_
  rintro _ I9 F9 ⟨rfl, e9, e8⟩
  have e9 := e9.symm; subst e9; have e8 := e8.symm; subst e8
  refine M.zret dX12_isValue_20 rfl (bI_nar _) ?_
  exact ⟨rfl, rfl, rfl⟩
