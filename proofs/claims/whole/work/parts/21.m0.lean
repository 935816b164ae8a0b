/-! the reference: first methods -/
section ML
variable {Λ : kL} {X : kX} {μ : kMi} {mc ms : Nat} {Z : State → Prop} {bc bs : Nat} {σ : kh} {pc : Nat} {L : List (Option Value)} {st : List Value}
theorem K.lcmp {x y : Int64} (hd : decode μ.2.1 pc = .ok (.lcmp, 1)) (k : K Λ X μ mc ms Z bc bs σ (pc + 1) L (.int (lg_cmp x y) :: st)) : K Λ X μ mc ms Z bc bs σ pc L (.long y :: .long x :: st) := by
  obtain ⟨p, e, R, s, m, args, below, meth, c⟩ := X
  intro F H locs k1 n1 ls h1 h2 h3 h4 h5 h6
  exact W.lcmp F.1 F.2.1 hd (k F H locs k1 n1 ls h1 h2 h3 h4 h5 h6)
theorem J.lcmp {x y : Int64} (hd : decode μ.2.1 pc = .ok (.lcmp, 1)) (k : J Λ X μ mc ms Z bc bs σ (pc + 1) L (.int (lg_cmp x y) :: st)) : J Λ X μ mc ms Z bc bs σ pc L (.long y :: .long x :: st) := fun ρ hρ => K.lcmp hd (k ρ hρ)
end ML
section MM
variable {Λ : kL} {X : kX} {μ : kMi} {m : Nat} {A : Nat → Nat} {Q : Option Value → (Nat → Int32) → (Nat → Nat → Int32) → Prop} {I : Nat → Int32} {F : Nat → Nat → Int32} {pc : Nat} {L : List (Option Value)} {st : List Value}
theorem M.lcmp {x y : Int64} (hd : decode μ.2.1 pc = .ok (.lcmp, 1)) (k : M Λ X μ m A Q I F (pc + 1) L (.int (lg_cmp x y) :: st)) : M Λ X μ m A Q I F pc L (.long y :: .long x :: st) := fun hA σ0 σ h1 h2 => J.lcmp hd (k hA σ0 σ h1 h2)
theorem M.i2b8 {x : Int32} (hd : decode μ.2.1 pc = .ok (.i2b, 1)) (k : M Λ X μ m A Q I F (pc + 1) L (.int (b8 x) :: st)) : M Λ X μ m A Q I F pc L (.int x :: st) := M.i2b hd k
theorem M.bast1 {k9 j : Nat} {i x : Int32} (hd : decode μ.2.1 pc = .ok (.bastore, 1)) (hr : mRef k9 = true) (hk : mK k9 = 0) (hx : i = nI j) (hj : j < mN k9) (hy : b8 x = x) (k : M Λ X μ m A Q I (updF F k9 j x) (pc + 1) L st) : M Λ X μ m A Q I F pc L (.int x :: .int i :: .ref (A k9) :: st) := M.bast hd hr hk hx hj (by rw [vp_nar_byte]; rwa [show x.toInt8.toInt32 = x from hy])
theorem M.zast1 {k9 j : Nat} {i x : Int32} (hd : decode μ.2.1 pc = .ok (.bastore, 1)) (hr : mRef k9 = true) (hk : mK k9 = 2) (hx : i = nI j) (hj : j < mN k9) (hy : vp_nar .boolean x = x) (k : M Λ X μ m A Q I (updF F k9 j x) (pc + 1) L st) : M Λ X μ m A Q I F pc L (.int x :: .int i :: .ref (A k9) :: st) := M.zast hd hr hk hx hj (by rwa [hy])
theorem M.ldcw {ix : Nat} {v : Int32} (hd : decode μ.2.1 pc = .ok (.ldc_w ix, 3)) (hw : Cond.constant μ.1.cls ix v ∈ lw_tbl) (k : M Λ X μ m A Q I F (pc + 3) L (.int v :: st)) : M Λ X μ m A Q I F pc L st := fun hA σ0 σ h1 h2 => J.ldcw hd hw (k hA σ0 σ h1 h2)
end MM
def setF (F : Nat → Nat → Int32) (k : Nat) (g : Nat → Int32) : Nat → Nat → Int32 := fun k' => if k' = k then g else F k'
theorem setF_s (F : Nat → Nat → Int32) (k : Nat) (g : Nat → Int32) : setF F k g k = g := if_pos rfl
theorem setF_n (F : Nat → Nat → Int32) {k k' : Nat} (g : Nat → Int32) (h : k' ≠ k) : setF F k g k' = F k' := if_neg h
theorem setF_self (F : Nat → Nat → Int32) (k : Nat) : setF F k (F k) = F := by
  funext j
  by_cases h : j = k
  · rw [h, setF_s]
  · rw [setF_n _ _ h]
theorem setF_set (F : Nat → Nat → Int32) (k : Nat) (g h : Nat → Int32) : setF (setF F k g) k h = setF F k h := by
  funext j
  by_cases e : j = k
  · rw [e, setF_s, setF_s]
  · rw [setF_n _ _ e, setF_n _ _ e, setF_n _ _ e]
theorem updF_set (F : Nat → Nat → Int32) (k j : Nat) (g : Nat → Int32) (x : Int32) : updF (setF F k g) k j x = setF F k (upd g j x) := by
  rw [show updF (setF F k g) k j x = setF (setF F k g) k (upd (setF F k g k) j x) from rfl, setF_set, setF_s]
theorem updF_eq (F : Nat → Nat → Int32) (k j : Nat) (x : Int32) : updF F k j x = setF F k (upd (F k) j x) := rfl
theorem bI_bI (b : Bool) : vp_nar .boolean (bI b) = bI b := by cases b <;> rfl
theorem upd_upd (f : Nat → Int32) (k : Nat) (x y : Int32) : upd (upd f k x) k y = upd f k y := by
  funext j
  by_cases e : j = k
  · rw [e, pk_us, pk_us]
  · rw [pk_un e, pk_un e, pk_un e]
theorem upd_id (f : Nat → Int32) (k : Nat) : upd f k (f k) = f := by
  funext j
  by_cases e : j = k
  · rw [e, pk_us]
  · rw [pk_un e]
theorem updl_snoc (f : Nat → Int32) (i : Nat) (l : List Int32) (x : Int32) : upd (updl f i l) (i + l.length) x = updl f i (l ++ [x]) := by rw [← updl_app, updl_one]
/-- the text that is put out: fields 4 (how many), 3 (the bytes) -/
def mo (I : Nat → Int32) (n : Nat) (l : List Int32) : Nat → Int32 := upd I 4 (nI (n + l.length))
def fo (F : Nat → Nat → Int32) (n : Nat) (l : List Int32) : Nat → Nat → Int32 := setF F 3 (updl (F 3) n l)
theorem mo_mo {I : Nat → Int32} {n k : Nat} {l m : List Int32} (h : k = n + l.length) : mo (mo I n l) k m = mo I n (l ++ m) := by
  rw [mo, mo, mo, upd_upd, h, List.length_append, Nat.add_assoc]
theorem fo_fo {F : Nat → Nat → Int32} {n k : Nat} {l m : List Int32} (h : k = n + l.length) : fo (fo F n l) k m = fo F n (l ++ m) := by
  rw [fo, fo, fo, setF_set, setF_s, h, updl_app]
theorem mo_0 (I : Nat → Int32) {n : Nat} (h : I 4 = nI n) : I = mo I n ([] : List Int32) := by rw [mo, List.length_nil, Nat.add_zero, ← h, upd_id]
theorem fo_0 (F : Nat → Nat → Int32) (n : Nat) : F = fo F n [] := by rw [fo, updl_nil, setF_self]
theorem mo_4 {I : Nat → Int32} {n k : Nat} {l : List Int32} (h : k = n + l.length) : mo I n l 4 = nI k := by rw [h]; rfl
theorem len_take (bs : List Int32) (n i : Nat) (h : i ≤ bs.length) : n + i = n + (bs.take i).length := by rw [List.length_take, Nat.min_eq_left h]
theorem take_at {bs : List Int32} {i : Nat} (h : i < bs.length) : bs.take (i + 1) = bs.take i ++ [bs.getD i 0] := by
  rw [List.take_add_one, List.getElem?_eq_getElem h, List.getD_eq_getElem?_getD, List.getElem?_eq_getElem h]
  rfl
theorem byt_at {f : Nat → Int32} {n i : Nat} (h : byt f 0 n) (hi : i < n) : b8 (f i) = f i := by have := h i hi; rwa [Nat.zero_add] at this
theorem nI_gen {i n : Nat} (h : nI n ≤ nI i) (h1 : i ≤ n) (hn : n < 2 ^ 31) : i = n := by
  have := (nI_leI hn (by omega)).mp h
  omega
theorem nI_ltn {i n : Nat} (h : ¬ nI n ≤ nI i) (hn : n < 2 ^ 31) (hi : i < 2 ^ 31) : i < n := by
  refine Nat.lt_of_not_le fun q => h ((nI_leI hn hi).mpr q)
theorem oix_eq {x : Int32} (h : ¬ x < 0) : x = nI x.toNatClampNeg := by
  obtain ⟨j, hj, e⟩ := nI_of h
  rw [e, nI_clamp hj]
theorem oix_lt {x : Int32} {n : Nat} (h : ¬ x < 0) (h2 : x < nI n) (hn : n < 2 ^ 31) : x.toNatClampNeg < n := by
  obtain ⟨j, hj, e⟩ := nI_of h
  rw [e] at h2 ⊢
  rw [nI_clamp hj]
  exact (nI_ltI hj hn).mp h2

theorem m_thrown {Λ : kL} {m : Nat} {A : Nat → Nat} {I : Nat → Int32} {F : Nat → Nat → Int32} (hA : mInj A)  : mCt Λ mX12_thrown m A [.ref m] I F (fun r I' F' => r = some (.int (I 0)) ∧ I' = I ∧ F' = F) := by
  refine mCt.of hA pn_X12 [some (.ref m)] rfl (Nat.le_of_ble_eq_true rfl) fun X => ?_
  refine M.aload_nR dX12_thrown_0 rfl ?_
  refine M.geti (v := I 0) dX12_thrown_1 fl_X12_188 rfl rfl rfl ?_
  refine M.iret dX12_thrown_4 rfl ?_
  exact ⟨rfl, rfl, rfl⟩

theorem m_throwsIf {Λ : kL} {m : Nat} {A : Nat → Nat} {I : Nat → Int32} {F : Nat → Nat → Int32} (hA : mInj A) (b : Bool) (x : Int32) : mCt Λ mX12_throwsIf m A [.ref m, .int (bI b), .int x] I F (fun r I' F' => r = some (.int (bI b)) ∧ I' = (if b = true then upd I 0 x else I) ∧ F' = F) := by
  refine mCt.of hA pn_X12 [some (.ref m), some (.int (bI b)), some (.int x)] rfl (Nat.le_of_ble_eq_true rfl) fun X => ?_
  refine M.iload_n dX12_throwsIf_0 rfl ?_
  refine M.if_eq (tgt := 9) dX12_throwsIf_1 (by decide) (fun c_1 => ?_) (fun c_1 => ?_)
  · skip
    have e9 := (bI_eq0 b).mp c_1; subst e9
    refine M.iload_n dX12_throwsIf_9 rfl ?_
    refine M.zret dX12_throwsIf_10 rfl (bI_nar _) ?_
    exact ⟨rfl, rfl, rfl⟩
  · skip
    have e9 : b = true := by cases b; exact absurd rfl c_1; rfl
    subst e9
    refine M.aload_nR dX12_throwsIf_4 rfl ?_
    refine M.iload_n dX12_throwsIf_5 rfl ?_
    refine M.puti dX12_throwsIf_6 fp_X12_188 rfl rfl ?_
    refine M.iload_n dX12_throwsIf_9 rfl ?_
    refine M.zret dX12_throwsIf_10 rfl (bI_nar _) ?_
    exact ⟨rfl, rfl, rfl⟩

theorem m_status {Λ : kL} {m : Nat} {A : Nat → Nat} {I : Nat → Int32} {F : Nat → Nat → Int32} (hA : mInj A)  : mCt Λ mX12_status m A [.ref m] I F (fun r I' F' => r = some (.int (I 5)) ∧ I' = upd I 0 0 ∧ F' = F) := by
  refine mCt.of hA pn_X12 [some (.ref m)] rfl (Nat.le_of_ble_eq_true rfl) fun X => ?_
  refine M.aload_nR dX12_status_0 rfl ?_
  refine M.iconst (v := 0) dX12_status_1 (by decide) ?_
  refine M.puti dX12_status_2 fp_X12_188 rfl rfl ?_
  refine M.aload_nR dX12_status_5 rfl ?_
  refine M.geti (v := I 5) dX12_status_6 fl_X12_322 rfl rfl rfl ?_
  refine M.iret dX12_status_9 rfl ?_
  exact ⟨rfl, rfl, rfl⟩

theorem m_error {Λ : kL} {m : Nat} {A : Nat → Nat} {I : Nat → Int32} {F : Nat → Nat → Int32} (hA : mInj A)  : mCt Λ mX12_error m A [.ref m] I F (fun r I' F' => r = some (.int (I 6)) ∧ I' = upd I 0 0 ∧ F' = F) := by
  refine mCt.of hA pn_X12 [some (.ref m)] rfl (Nat.le_of_ble_eq_true rfl) fun X => ?_
  refine M.aload_nR dX12_error_0 rfl ?_
  refine M.iconst (v := 0) dX12_error_1 (by decide) ?_
  refine M.puti dX12_error_2 fp_X12_188 rfl rfl ?_
  refine M.aload_nR dX12_error_5 rfl ?_
  refine M.geti (v := I 6) dX12_error_6 fl_X12_325 rfl rfl rfl ?_
  refine M.iret dX12_error_9 rfl ?_
  exact ⟨rfl, rfl, rfl⟩

theorem m_outs {Λ : kL} {m : Nat} {A : Nat → Nat} {I : Nat → Int32} {F : Nat → Nat → Int32} (hA : mInj A)  : mCt Λ mX12_outs m A [.ref m] I F (fun r I' F' => r = some (.int (I 4)) ∧ I' = upd I 0 0 ∧ F' = F) := by
  refine mCt.of hA pn_X12 [some (.ref m)] rfl (Nat.le_of_ble_eq_true rfl) fun X => ?_
  refine M.aload_nR dX12_outs_0 rfl ?_
  refine M.iconst (v := 0) dX12_outs_1 (by decide) ?_
  refine M.puti dX12_outs_2 fp_X12_188 rfl rfl ?_
  refine M.aload_nR dX12_outs_5 rfl ?_
  refine M.geti (v := I 4) dX12_outs_6 fl_X12_296 rfl rfl rfl ?_
  refine M.iret dX12_outs_9 rfl ?_
  exact ⟨rfl, rfl, rfl⟩

theorem m_used {Λ : kL} {m : Nat} {A : Nat → Nat} {I : Nat → Int32} {F : Nat → Nat → Int32} (hA : mInj A)  : mCt Λ mX12_used m A [.ref m] I F (fun r I' F' => r = some (.int (I 2)) ∧ I' = upd (upd I 0 0) 2 0 ∧ F' = F) := by
  refine mCt.of hA pn_X12 [some (.ref m), none] rfl (Nat.le_of_ble_eq_true rfl) fun X => ?_
  refine M.aload_nR dX12_used_0 rfl ?_
  refine M.iconst (v := 0) dX12_used_1 (by decide) ?_
  refine M.puti dX12_used_2 fp_X12_188 rfl rfl ?_
  refine M.aload_nR dX12_used_5 rfl ?_
  refine M.geti (v := I 2) dX12_used_6 fl_X12_348 rfl rfl rfl ?_
  refine M.istore_n (L' := [some (.ref m), some (.int (I 2))]) dX12_used_9 (by decide) rfl rfl ?_
  refine M.aload_nR dX12_used_10 rfl ?_
  refine M.iconst (v := 0) dX12_used_11 (by decide) ?_
  refine M.puti dX12_used_12 fp_X12_348 rfl rfl ?_
  refine M.iload_n dX12_used_15 rfl ?_
  refine M.iret dX12_used_16 rfl ?_
  exact ⟨rfl, rfl, rfl⟩

theorem m_ends {Λ : kL} {m : Nat} {A : Nat → Nat} {I : Nat → Int32} {F : Nat → Nat → Int32} (hA : mInj A) (x y : Int32) : mCt Λ mX12_ends m A [.ref m, .int x, .int y] I F (fun r I' F' => r = none ∧ I' = upd (upd (upd I 5 x) 6 y) 4 0 ∧ F' = F) := by
  refine mCt.of hA pn_X12 [some (.ref m), some (.int x), some (.int y)] rfl (Nat.le_of_ble_eq_true rfl) fun X => ?_
  refine M.aload_nR dX12_ends_0 rfl ?_
  refine M.iload_n dX12_ends_1 rfl ?_
  refine M.puti dX12_ends_2 fp_X12_322 rfl rfl ?_
  refine M.aload_nR dX12_ends_5 rfl ?_
  refine M.iload_n dX12_ends_6 rfl ?_
  refine M.puti dX12_ends_7 fp_X12_325 rfl rfl ?_
  refine M.aload_nR dX12_ends_10 rfl ?_
  refine M.iconst (v := 0) dX12_ends_11 (by decide) ?_
  refine M.puti dX12_ends_12 fp_X12_296 rfl rfl ?_
  refine M.vret dX12_ends_15 rfl ?_
  exact ⟨rfl, rfl, rfl⟩

theorem m_end {Λ : kL} {m : Nat} {A : Nat → Nat} {I : Nat → Int32} {F : Nat → Nat → Int32} (hA : mInj A) (x : Int32) : mCt Λ mX12_end m A [.ref m, .int x] I F (fun r I' F' => r = some (.int (if 0 ≤ x ∧ x ≤ I 2 then 1 else 0)) ∧ I' = (if 0 ≤ x ∧ x ≤ I 2 then upd (upd I 0 0) 2 x else upd I 0 0) ∧ F' = F) := by
  refine mCt.of hA pn_X12 [some (.ref m), some (.int x)] rfl (Nat.le_of_ble_eq_true rfl) fun X => ?_
  refine M.aload_nR dX12_end_0 rfl ?_
  refine M.iconst (v := 0) dX12_end_1 (by decide) ?_
  refine M.puti dX12_end_2 fp_X12_188 rfl rfl ?_
  refine M.iload_n dX12_end_5 rfl ?_
  refine M.if_lt (tgt := 17) dX12_end_6 (by decide) (fun c_6 => ?_) (fun c_6 => ?_)
  · skip
    refine M.iconst (v := 0) dX12_end_17 (by decide) ?_
    refine M.zret dX12_end_18 rfl rfl ?_
    refine ⟨?_, ?_, rfl⟩
    · first | rw [if_neg (fun q => absurd c_6 (Int32.not_lt.mpr q.1))] | rw [if_neg (fun q => absurd q.2 c_14)]
    · first | rw [if_neg (fun q => absurd c_6 (Int32.not_lt.mpr q.1))] | rw [if_neg (fun q => absurd q.2 c_14)]
  · skip
    refine M.iload_n dX12_end_9 rfl ?_
    refine M.aload_nR dX12_end_10 rfl ?_
    refine M.geti (v := I 2) dX12_end_11 fl_X12_348 rfl rfl rfl ?_
    refine M.icmp_le (tgt := 19) dX12_end_14 (by decide) (fun c_14 => ?_) (fun c_14 => ?_)
    · skip
      refine M.aload_nR dX12_end_19 rfl ?_
      refine M.iload_n dX12_end_20 rfl ?_
      refine M.puti dX12_end_21 fp_X12_348 rfl rfl ?_
      refine M.iconst (v := 1) dX12_end_24 (by decide) ?_
      refine M.zret dX12_end_25 rfl rfl ?_
      refine ⟨?_, ?_, rfl⟩
      · rw [if_pos ⟨Int32.not_lt.mp c_6, c_14⟩]
      · rw [if_pos ⟨Int32.not_lt.mp c_6, c_14⟩]
    · skip
      refine M.iconst (v := 0) dX12_end_17 (by decide) ?_
      refine M.zret dX12_end_18 rfl rfl ?_
      refine ⟨?_, ?_, rfl⟩
      · first | rw [if_neg (fun q => absurd c_6 (Int32.not_lt.mpr q.1))] | rw [if_neg (fun q => absurd q.2 c_14)]
      · first | rw [if_neg (fun q => absurd c_6 (Int32.not_lt.mpr q.1))] | rw [if_neg (fun q => absurd q.2 c_14)]

theorem m_out {Λ : kL} {m : Nat} {A : Nat → Nat} {I : Nat → Int32} {F : Nat → Nat → Int32} (hA : mInj A) (x : Int32) {n : Nat} (h4 : I 4 = nI n) (hn : n ≤ 8000) : mCt Λ mX12_out m A [.ref m, .int x] I F (fun r I' F' => r = some (.int (if 0 ≤ x ∧ x < nI n then F 3 x.toNatClampNeg &&& 255 else -1)) ∧ I' = upd I 0 0 ∧ F' = F) := by
  refine mCt.of hA pn_X12 [some (.ref m), some (.int x)] rfl (Nat.le_of_ble_eq_true rfl) fun X => ?_
  refine M.aload_nR dX12_out_0 rfl ?_
  refine M.iconst (v := 0) dX12_out_1 (by decide) ?_
  refine M.puti dX12_out_2 fp_X12_188 rfl rfl ?_
  refine M.iload_n dX12_out_5 rfl ?_
  refine M.if_lt (tgt := 17) dX12_out_6 (by decide) (fun c_6 => ?_) (fun c_6 => ?_)
  · skip
    refine M.iconst (v := (-1)) dX12_out_17 (by decide) ?_
    refine M.goto (tgt := 31) dX12_out_18 (by decide) ?_
    refine M.iret dX12_out_31 rfl ?_
    refine ⟨congrArg (fun z => some (Value.int z)) ?_, rfl, rfl⟩
    first | rw [if_neg (fun q => absurd c_6 (Int32.not_lt.mpr q.1))] | rw [if_neg (fun q => absurd q.2 c_14)] | rw [if_pos ⟨Int32.not_lt.mp c_6, c_14⟩]
  · skip
    refine M.iload_n dX12_out_9 rfl ?_
    refine M.aload_nR dX12_out_10 rfl ?_
    refine M.geti (v := nI n) dX12_out_11 fl_X12_296 rfl rfl h4 ?_
    refine M.icmp_lt (tgt := 21) dX12_out_14 (by decide) (fun c_14 => ?_) (fun c_14 => ?_)
    · skip
      refine M.aload_nR dX12_out_21 rfl ?_
      refine M.getr dX12_out_22 fl_X12_13 rfl rfl ?_
      refine M.iload_n dX12_out_25 rfl ?_
      refine M.bald (k9 := 3) (j := x.toNatClampNeg) (g := F 3) dX12_out_26 rfl rfl rfl (oix_eq c_6) (show x.toNatClampNeg < 8000 by have := oix_lt c_6 c_14 (by omega); omega) ?_
      refine M.sipush (v := 255) dX12_out_27 (by decide) ?_
      refine M.iand dX12_out_30 ?_
      refine M.iret dX12_out_31 rfl ?_
      refine ⟨congrArg (fun z => some (Value.int z)) ?_, rfl, rfl⟩
      first | rw [if_neg (fun q => absurd c_6 (Int32.not_lt.mpr q.1))] | rw [if_neg (fun q => absurd q.2 c_14)] | rw [if_pos ⟨Int32.not_lt.mp c_6, c_14⟩]
    · skip
      refine M.iconst (v := (-1)) dX12_out_17 (by decide) ?_
      refine M.goto (tgt := 31) dX12_out_18 (by decide) ?_
      refine M.iret dX12_out_31 rfl ?_
      refine ⟨congrArg (fun z => some (Value.int z)) ?_, rfl, rfl⟩
      first | rw [if_neg (fun q => absurd c_6 (Int32.not_lt.mpr q.1))] | rw [if_neg (fun q => absurd q.2 c_14)] | rw [if_pos ⟨Int32.not_lt.mp c_6, c_14⟩]

theorem m_puts {Λ : kL} {m : Nat} {A : Nat → Nat} {I : Nat → Int32} {F : Nat → Nat → Int32} (hA : mInj A) (x : Int32) {n : Nat} (h4 : I 4 = nI n) (hn : n < 8000) : mCt Λ mX12_puts m A [.ref m, .int x] I F (fun r I' F' => r = none ∧ I' = mo I n [b8 x] ∧ F' = fo F n [b8 x]) := by
  refine mCt.of hA pn_X12 [some (.ref m), some (.int x)] rfl (Nat.le_of_ble_eq_true rfl) fun X => ?_
  refine M.aload_nR dX12_puts_0 rfl ?_
  refine M.getr dX12_puts_1 fl_X12_13 rfl rfl ?_
  refine M.aload_nR dX12_puts_4 rfl ?_
  refine M.geti (v := nI n) dX12_puts_5 fl_X12_296 rfl rfl h4 ?_
  refine M.iload_n dX12_puts_8 rfl ?_
  refine M.i2b8 dX12_puts_9 ?_
  refine M.bast1 (k9 := 3) (j := n) dX12_puts_10 rfl rfl rfl (show n < 8000 by omega) (b8_b8 _) ?_
  refine M.aload_nR dX12_puts_11 rfl ?_
  refine M.dup dX12_puts_12 rfl ?_
  refine M.geti (v := nI n) dX12_puts_13 fl_X12_296 rfl rfl h4 ?_
  refine M.iconst (v := 1) dX12_puts_16 (by decide) ?_
  refine M.iadd dX12_puts_17 ?_
  rw [show (nI n) + 1 = nI (n + 1) from nI_1 n]
  refine M.puti dX12_puts_18 fp_X12_296 rfl rfl ?_
  refine M.vret dX12_puts_21 rfl ?_
  refine ⟨rfl, rfl, ?_⟩
  rw [fo, updl_one]
  rfl

theorem m_says {Λ : kL} {m : Nat} {A : Nat → Nat} {I : Nat → Int32} {F : Nat → Nat → Int32} (hA : mInj A) {a : Nat} {bs : List Int32} (hs : kStr Λ a bs) (hbs : byt (fun i => bs.getD i 0) 0 bs.length) {n : Nat} (h4 : I 4 = nI n) (hn : n + bs.length ≤ 8000) : mCt Λ mX12_says m A [.ref m, .ref a] I F (fun r I' F' => r = none ∧ I' = mo I n bs ∧ F' = fo F n bs) := by
  refine mCt.of hA pn_X12 [some (.ref m), some (.ref a), none] rfl (Nat.le_of_ble_eq_true rfl) fun X => ?_
  refine M.iconst (v := 0) dX12_says_0 (by decide) ?_
  refine M.istore_n (L' := [some (.ref m), some (.ref a), some (.int 0)]) dX12_says_1 (by decide) rfl rfl ?_
  have cut_2 : ∀ (k_2 : Nat) (i : Nat), i ≤ bs.length → bs.length + 1 ≤ i + k_2 → M Λ X mX12_says m A (fun r I' F' => r = none ∧ I' = mo I n bs ∧ F' = fo F n bs) (mo I n (bs.take i)) (fo F n (bs.take i)) 2 [some (.ref m), some (.ref a), some (.int (nI i))] [] := by
    intro k_2
    induction k_2 with
    | zero => intro i h1 h2; exact absurd h2 (by omega)
    | succ k_2 ih_2 =>
      intro i h1 h2
      have hlen := hs.len
      refine M.iload_n dX12_says_2 rfl ?_
      refine M.aload_nR dX12_says_3 rfl ?_
      refine M.callC (v := .int (nI bs.length)) [] dX12_says_4 mdJ0_length_8abf5 imJ0_length_8abf5 seJ0_length_8abf5 hs.O lm_X12_191 rfl rfl rfl rfl (fun σ9 => c_length hs) ?_
      refine M.icmp_ge (tgt := 25) dX12_says_7 (by decide) (fun c_7 => ?_) (fun c_7 => ?_)
      · skip
        refine M.vret dX12_says_25 rfl ?_
        have e9 : i = bs.length := nI_gen c_7 h1 (by omega)
        subst e9
        exact ⟨rfl, by rw [List.take_length], by rw [List.take_length]⟩
      · skip
        have lt_i : i < bs.length := nI_ltn (fun q => c_7 q) (by omega) (by omega)
        refine M.aload_nR dX12_says_10 rfl ?_
        refine M.aload_nR dX12_says_11 rfl ?_
        refine M.iload_n dX12_says_12 rfl ?_
        refine M.callC (v := .int (bs.getD i 0 &&& 255)) [.int (nI i)] dX12_says_13 mdJ0_charAt_5068e imJ0_charAt_5068e seJ0_charAt_5068e hs.O lm_X12_197 rfl rfl rfl rfl (fun σ9 => c_charAt hs (show i < bs.length from lt_i)) ?_
        refine M.callV [.int (bs.getD i 0 &&& 255)] dX12_says_16 mdX12_puts imX12_puts seX12_puts lk_X12_299 rfl rfl rfl rfl (m_puts hA _ (mo_4 (len_take bs n i h1)) (by omega)) ?_
        rintro _ I9 F9 ⟨rfl, e9, e8⟩
        have e9 := e9.symm; subst e9; have e8 := e8.symm; subst e8
        rw [mo_mo (len_take bs n i h1), fo_fo (len_take bs n i h1), b8_255 _ (byt_at hbs lt_i), ← take_at lt_i]
        refine M.iinc (v := nI (i + 1)) (L' := [some (.ref m), some (.ref a), some (.int (nI (i + 1)))]) dX12_says_19 rfl (nI_1 i) (by decide) rfl rfl ?_
        refine M.goto (tgt := 2) dX12_says_22 (by decide) ?_
        exact ih_2 (i + 1) (by omega) (by omega)
  have t9 := cut_2 (bs.length + 1) 0 (by omega) (by omega)
  rw [List.take_zero, ← mo_0 I h4, ← fo_0 F n] at t9
  exact t9
