/-! the reference: what a token's answer says -/
/-- decimal signs, without noughts ahead -/
def cdl (a : Nat) : Nat → List Int32
  | 0 => []
  | j + 1 => (if 10 ^ j ≤ a then [b8 (nI (48 + a / 10 ^ j % 10))] else []) ++ cdl a j
def dgl (a : Nat) : Nat → List Int32
  | 0 => []
  | j + 1 => [b8 (nI (48 + a / 10 ^ j % 10))] ++ dgl a j
theorem cdl_dgl {a : Nat} : ∀ {j : Nat}, (∀ i, i < j → 10 ^ i ≤ a) → cdl a j = dgl a j := by
  intro j
  induction j with
  | zero => intro _; rfl
  | succ j ih => intro h; rw [cdl, dgl, if_pos (h j (by omega)), ih fun i hi => h i (by omega)]
theorem cdl_up {a j : Nat} (h : a < 10 ^ j) : ∀ k, cdl a (j + k) = cdl a j := by
  intro k
  induction k with
  | zero => rfl
  | succ k ih =>
    have : 10 ^ j ≤ 10 ^ (j + k) := Nat.pow_le_pow_right (by omega) (by omega)
    rw [show j + (k + 1) = (j + k) + 1 by omega, cdl, if_neg (by omega), ih]
    rfl
theorem cdl_at {a j : Nat} (h1 : 10 ^ j ≤ a) (h2 : a < 10 ^ (j + 1)) (h3 : j ≤ 6) : cdl a 7 = dgl a (j + 1) := by
  have e := cdl_up h2 (6 - j)
  rw [show j + 1 + (6 - j) = 7 by omega] at e
  rw [e]
  refine cdl_dgl fun i hi => ?_
  have : 10 ^ i ≤ 10 ^ j := Nat.pow_le_pow_right (by omega) (by omega)
  omega
theorem dgl_len (a j : Nat) : (dgl a j).length = j := by
  induction j with
  | zero => rfl
  | succ j ih => rw [dgl, List.length_append, ih, List.length_singleton]; omega
theorem cdl_len (a j : Nat) : (cdl a j).length ≤ j := by
  induction j with
  | zero => exact Nat.le_refl 0
  | succ j ih =>
    rw [cdl, List.length_append]
    by_cases h : 10 ^ j ≤ a
    · rw [if_pos h, List.length_singleton]; omega
    · rw [if_neg h, List.length_nil]; omega
theorem pw10 {j : Nat} (h : j ≤ 6) : 1 ≤ 10 ^ j ∧ 10 ^ j ≤ 1000000 := by
  have := Nat.pow_le_pow_right (show 1 ≤ 10 by omega) h
  have h2 := Nat.pow_le_pow_right (show 1 ≤ 10 by omega) (Nat.zero_le j)
  exact ⟨h2, this⟩
def sbt (x : Int32) (k : Nat) : Bool := x.toBitVec.getLsbD k
/-- the WORDS of SCOPES, a blank between them -/
def scw (T : List (List Int32)) (x : Int32) : Nat → List Int32
  | 0 => []
  | k + 1 => if sbt x k = true then (scw T x k ++ (if alln (fun j => !sbt x j) k = true then [] else [32])) ++ T.getD k [] else scw T x k
theorem scw_len {T : List (List Int32)} (h : ∀ k, k < T.length → (T.getD k []).length ≤ 12) (x : Int32) : ∀ k, k ≤ T.length → (scw T x k).length ≤ 13 * k := by
  intro k
  induction k with
  | zero => intro _; exact Nat.le_refl 0
  | succ k ih =>
    intro hk
    have := ih (by omega)
    have h2 := h k (by omega)
    rw [scw]
    by_cases hb : sbt x k = true
    · rw [if_pos hb, List.length_append, List.length_append]
      by_cases hf : alln (fun j => !sbt x j) k = true
      · rw [if_pos hf, List.length_nil]; omega
      · rw [if_neg hf, List.length_singleton]; omega
    · rw [if_neg hb]; omega
/-- the answer of a token -/
def tkT (H1 H2 : List Int32) (T : List (List Int32)) (x : Int32) (a : Nat) (both : Bool) : List Int32 := sb_openAccess ++ H1 ++ sb_bearer ++ cdl a 7 ++ (if both = true then sb_andRefresh ++ H2 ++ [34] else []) ++ sb_andScope ++ scw T x T.length ++ sb_close
theorem hs_fo (F : Nat → Nat → Int32) (a b : Nat → Int32) (n : Nat) (l : List Int32) : hs (fo F n l) a b = fo (hs F a b) n l := by
  funext k
  rw [hs, fo, fo, hs]
  by_cases h : k = 69
  · rw [h]; rfl
  · rw [setF_n _ _ h]
    by_cases h2 : k = 68
    · rw [h2]; rfl
    · rw [setF_n _ _ h2]
      by_cases h3 : k = 3
      · rw [h3]; rfl
      · rw [setF_n _ _ h3, setF_n _ _ h3, setF_n _ _ h, setF_n _ _ h2]
def cmI (I : Nat → Int32) (na nr : Nat) (both : Bool) : Nat → Int32 := if both = true then upd (upd I 57 (nI (na + 1))) 62 (nI (nr + 1)) else upd I 57 (nI (na + 1))
def cmF (F : Nat → Nat → Int32) (na nr : Nat) (h f : Nat) (x ua ur : Int32) (both : Bool) : Nat → Nat → Int32 := if both = true then updF (updF (updF (updF (updF (updF (updF F 52 na (nI h)) 53 na (nI f)) 54 na x) 55 na ua) 58 nr (nI (h + 1))) 59 nr (nI f)) 60 nr ur else updF (updF (updF (updF F 52 na (nI h)) 53 na (nI f)) 54 na x) 55 na ua
theorem sbt_0 {x : Int32} {k : Nat} (h : k < 32) : (x >>> (nI k &&& 31)) &&& 1 = bI (sbt x k) := shr_bit h
theorem app_fl (l a b : List Int32) : l ++ (a ++ b) = (l ++ a) ++ b := (List.append_assoc l a b).symm
/-- the first HANDLE that a text shows -/
def hfn (U C : List (List Int32)) (v : List Int32) : Nat := fsti (fun k => decide (v = b64 (U.getD ((C.getD k []).getD 0 0).toNatClampNeg []) 22)) C.length 0
/-- a column of a table -/
def mCl (F : Nat → Nat → Int32) (k : Nat) (C : List (List Int32)) (c : Nat) : Prop := ∀ n, n < C.length → F k n = (C.getD n []).getD c 0
/-- numbers of a column lie below a bound -/
def lwr (C : List (List Int32)) (c b : Nat) : Prop := ∀ n, n < C.length → ∃ j, j < b ∧ (C.getD n []).getD c 0 = nI j
def zro (C : List (List Int32)) (c : Nat) : Prop := ∀ n, n < C.length → ∃ b, (C.getD n []).getD c 0 = bI b

theorem m_comes_0 {Λ : kL} {m : Nat} {A : Nat → Nat} {I : Nat → Int32} {F : Nat → Nat → Int32} (hA : mInj A) (hSt : kSt Λ) {na nr h f a : Nat} {x : Int32} {T : List (List Int32)} {d1 d2 : List Int32} (h57 : I 57 = nI na) (h62 : I 62 = nI nr) (hna : na < 300) (h27 : I 27 = nI a) (ha1 : 1 ≤ a) (ha2 : a ≤ 1000000) (h9 : I 9 = nI T.length) (hT : T.length ≤ 8) (hws : mTx F 7 8 12 T) (hbw : ∀ k, k < T.length → bts (T.getD k [])) (hh : h < 800) (hd1 : tl (F 23) (4 * h) 4 = d1) : mCt Λ mX12_comes m A [.ref m, .int (nI f), .int x, .int (nI h), .int 0] I F (fun r I' F' => ∃ a1 b1, r = some (.int 200) ∧ I' = mo (upd (upd (upd (cmI I na nr false) 5 200) 6 0) 4 0) 0 (tkT (b64 d1 22) (b64 d2 22) T x a false) ∧ F' = fo (hs (cmF F na nr h f x (I 25 + nI a) (I 25 + I 28) false) a1 b1) 0 (tkT (b64 d1 22) (b64 d2 22) T x a false)) := by
  refine mCt.of hA pn_X12 [some (.ref m), some (.int (nI f)), some (.int x), some (.int (nI h)), some (.int 0), none, none, none, none] rfl (Nat.le_of_ble_eq_true rfl) fun X => ?_
  have p10d : ∀ q, 10 ^ (q + 1) / 10 = 10 ^ q := fun q => by rw [Nat.pow_succ, Nat.mul_div_cancel _ (by omega)]
  have hT12 : ∀ k, k < T.length → (T.getD k []).length ≤ 12 := fun k hk => (hws k hk).2.1
  have l_openAccess : sb_openAccess.length ≤ 50 := by decide
  have l_bearer : sb_bearer.length ≤ 50 := by decide
  have l_andRefresh : sb_andRefresh.length ≤ 50 := by decide
  have l_andScope : sb_andScope.length ≤ 50 := by decide
  have l_close : sb_close.length ≤ 50 := by decide
  refine M.aload_nR dX12_comes_0 rfl ?_
  refine M.getr dX12_comes_1 fl_X12_128 rfl rfl ?_
  refine M.aload_nR dX12_comes_4 rfl ?_
  refine M.geti (v := nI na) dX12_comes_5 fl_X12_462 rfl rfl h57 ?_
  refine M.iload_n dX12_comes_8 rfl ?_
  refine M.iast (k9 := 52) (j := na) dX12_comes_9 rfl rfl rfl (show na < 300 by omega) ?_
  refine M.aload_nR dX12_comes_10 rfl ?_
  refine M.getr dX12_comes_11 fl_X12_131 rfl rfl ?_
  refine M.aload_nR dX12_comes_14 rfl ?_
  refine M.geti (v := nI na) dX12_comes_15 fl_X12_462 rfl rfl h57 ?_
  refine M.iload_n dX12_comes_18 rfl ?_
  refine M.iast (k9 := 53) (j := na) dX12_comes_19 rfl rfl rfl (show na < 300 by omega) ?_
  refine M.aload_nR dX12_comes_20 rfl ?_
  refine M.getr dX12_comes_21 fl_X12_134 rfl rfl ?_
  refine M.aload_nR dX12_comes_24 rfl ?_
  refine M.geti (v := nI na) dX12_comes_25 fl_X12_462 rfl rfl h57 ?_
  refine M.iload_n dX12_comes_28 rfl ?_
  refine M.iast (k9 := 54) (j := na) dX12_comes_29 rfl rfl rfl (show na < 300 by omega) ?_
  refine M.aload_nR dX12_comes_30 rfl ?_
  refine M.getr dX12_comes_31 fl_X12_137 rfl rfl ?_
  refine M.aload_nR dX12_comes_34 rfl ?_
  refine M.geti (v := nI na) dX12_comes_35 fl_X12_462 rfl rfl h57 ?_
  refine M.aload_nR dX12_comes_38 rfl ?_
  refine M.geti (v := I 25) dX12_comes_39 fl_X12_366 rfl rfl rfl ?_
  refine M.aload_nR dX12_comes_42 rfl ?_
  refine M.geti (v := nI a) dX12_comes_43 fl_X12_64 rfl rfl h27 ?_
  refine M.iadd dX12_comes_46 ?_
  refine M.iast (k9 := 55) (j := na) dX12_comes_47 rfl rfl rfl (show na < 300 by omega) ?_
  refine M.aload_nR dX12_comes_48 rfl ?_
  refine M.dup dX12_comes_49 rfl ?_
  refine M.geti (v := nI na) dX12_comes_50 fl_X12_462 rfl rfl h57 ?_
  refine M.iconst (v := 1) dX12_comes_53 (by decide) ?_
  refine M.iadd dX12_comes_54 ?_
  rw [show (nI na) + 1 = nI (na + 1) from nI_1 na]
  refine M.puti dX12_comes_55 fp_X12_462 rfl rfl ?_
  refine M.iload dX12_comes_58 rfl ?_
  refine M.if_eq (tgt := 113) dX12_comes_60 (by decide) (fun c_60 => ?_) (fun c_60 => absurd rfl c_60)
  show M Λ X mX12_comes m A _ (cmI I na nr false) (cmF F na nr h f x (I 25 + nI a) (I 25 + I 28) false) 113 _ _
  refine M.aload_nR dX12_comes_113 rfl ?_
  refine M.sipush (v := 200) dX12_comes_114 (by decide) ?_
  refine M.iconst (v := 0) dX12_comes_117 (by decide) ?_
  refine M.callV [.int 200, .int 0] dX12_comes_118 mdX12_ends imX12_ends seX12_ends lk_X12_328 rfl rfl rfl rfl (m_ends hA 200 0) ?_
  rintro _ I9 F9 ⟨rfl, e9, e8⟩
  have e9 := e9.symm; subst e9; have e8 := e8.symm; subst e8
  refine M.aload_nR dX12_comes_121 rfl ?_
  refine M.ldcwS dX12_comes_122 sr_X12_468 ?_
  refine M.callV [.ref (kSa Λ RX12 468)] dX12_comes_125 mdX12_says imX12_says seX12_says lk_X12_334 rfl rfl rfl rfl (m_says hA (st_X12_468 hSt) sb_openAccess_b rfl (by simp only [List.length_append, List.length_cons, List.length_nil, b64_len]; omega)) ?_
  rintro _ I9 F9 ⟨rfl, e9, e8⟩
  have e9 := e9.symm; subst e9; have e8 := e8.symm; subst e8
  refine M.aload_nR dX12_comes_128 rfl ?_
  refine M.iload_n dX12_comes_129 rfl ?_
  refine M.callV [.int (nI h)] dX12_comes_130 mdX12_saysHandle imX12_saysHandle seX12_saysHandle lk_X12_418 rfl rfl rfl rfl (m_saysHandle hA (F := (fo (cmF F na nr h f x (I 25 + nI a) (I 25 + I 28) false) 0 sb_openAccess)) (a := h) (by omega) (d := d1) hd1 (mo_4 rfl) (show 0 + sb_openAccess.length ≤ 7000 by decide)) ?_
  rintro _ _ _ ⟨a9_1, b9_2, rfl, rfl, rfl⟩
  rw [hs_fo, mo_mo rfl, fo_fo rfl]
  refine M.aload_nR dX12_comes_133 rfl ?_
  refine M.ldcwS dX12_comes_134 sr_X12_470 ?_
  refine M.callV [.ref (kSa Λ RX12 470)] dX12_comes_137 mdX12_says imX12_says seX12_says lk_X12_334 rfl rfl rfl rfl (m_says hA (st_X12_470 hSt) sb_bearer_b (mo_4 rfl) (by simp only [List.length_append, List.length_cons, List.length_nil, b64_len]; omega)) ?_
  rintro _ I9 F9 ⟨rfl, e9, e8⟩
  have e9 := e9.symm; subst e9; have e8 := e8.symm; subst e8
  rw [mo_mo rfl, fo_fo rfl]
  refine M.iconst (v := 1) dX12_comes_140 (by decide) ?_
  refine M.istore (L' := [some (.ref m), some (.int (nI f)), some (.int x), some (.int (nI h)), some (.int 0), some (.int 1), none, none, none]) dX12_comes_141 (by decide) rfl rfl ?_
  have cut_143 : ∀ (k_143 : Nat) (j : Nat), (j ≤ 6) → (8 ≤ j + k_143) → (10 ^ j ≤ a) → M Λ X mX12_comes m A (fun r I' F' => ∃ a1 b1, r = some (.int 200) ∧ I' = mo (upd (upd (upd (cmI I na nr false) 5 200) 6 0) 4 0) 0 (tkT (b64 d1 22) (b64 d2 22) T x a false) ∧ F' = fo (hs (cmF F na nr h f x (I 25 + nI a) (I 25 + I 28) false) a1 b1) 0 (tkT (b64 d1 22) (b64 d2 22) T x a false)) (mo (upd (upd (upd (cmI I na nr false) 5 200) 6 0) 4 0) 0 ((sb_openAccess ++ (b64 d1 22)) ++ sb_bearer)) (fo (hs (cmF F na nr h f x (I 25 + nI a) (I 25 + I 28) false) a9_1 b9_2) 0 ((sb_openAccess ++ (b64 d1 22)) ++ sb_bearer)) 143 [some (.ref m), some (.int (nI f)), some (.int x), some (.int (nI h)), some (.int 0), some (.int (nI (10 ^ j))), none, none, none] [] := by
    intro k_143
    induction k_143 with
    | zero => intro j h1 h2 hj; exact absurd h2 (by omega)
    | succ k_143 ih_143 =>
      intro j h1 h2 hj
      have hp := pw10 h1
      refine M.aload_nR dX12_comes_143 rfl ?_
      refine M.geti (v := nI a) dX12_comes_144 fl_X12_64 rfl rfl h27 ?_
      refine M.iload dX12_comes_147 rfl ?_
      refine M.idiv dX12_comes_149 (nI_ne0 (by omega) (by omega)) ?_
      rw [show (nI a) / (nI (10 ^ j)) = nI (a / 10 ^ j) from pk_div (by omega) (by omega) (by omega)]
      refine M.bipush (v := 9) dX12_comes_150 (by decide) ?_
      refine M.icmp_le (tgt := 165) dX12_comes_152 (by decide) (fun c_152 => ?_) (fun c_152 => ?_)
      · skip
        have hle : a / 10 ^ j ≤ 9 := (nI_leI (b := 9) (Nat.lt_of_le_of_lt (Nat.div_le_self _ _) (by omega)) (by decide)).mp c_152
        have hj2 : a < 10 ^ (j + 1) := by rw [Nat.pow_succ]; have := (Nat.div_lt_iff_lt_mul (show 0 < 10 ^ j by omega)).mp (Nat.lt_succ_of_le hle); omega
        have cut_165 : ∀ (k_165 : Nat) (i : Nat) (acc : List Int32), (i ≤ 7) → (i + 1 ≤ k_165) → (acc ++ dgl a i = cdl a 7) → (acc.length + i ≤ 7) → M Λ X mX12_comes m A (fun r I' F' => ∃ a1 b1, r = some (.int 200) ∧ I' = mo (upd (upd (upd (cmI I na nr false) 5 200) 6 0) 4 0) 0 (tkT (b64 d1 22) (b64 d2 22) T x a false) ∧ F' = fo (hs (cmF F na nr h f x (I 25 + nI a) (I 25 + I 28) false) a1 b1) 0 (tkT (b64 d1 22) (b64 d2 22) T x a false)) (mo (upd (upd (upd (cmI I na nr false) 5 200) 6 0) 4 0) 0 (((sb_openAccess ++ (b64 d1 22)) ++ sb_bearer) ++ acc)) (fo (hs (cmF F na nr h f x (I 25 + nI a) (I 25 + I 28) false) a9_1 b9_2) 0 (((sb_openAccess ++ (b64 d1 22)) ++ sb_bearer) ++ acc)) 165 [some (.ref m), some (.int (nI f)), some (.int x), some (.int (nI h)), some (.int 0), some (.int (nI (10 ^ i / 10))), none, none, none] [] := by
          intro k_165
          induction k_165 with
          | zero => intro i acc h1 h3 hacc hal; exact absurd h3 (by omega)
          | succ k_165 ih_165 =>
            intro i acc h1 h3 hacc hal
            rcases i with _ | i
            · skip
              have hacc : acc = cdl a 7 := by rw [← hacc, dgl, List.append_nil]
              subst hacc
              refine M.iload dX12_comes_165 rfl ?_
              refine M.if_le (tgt := 197) dX12_comes_167 (by decide) (fun c_167 => ?_) (fun c_167 => absurd (by decide) c_167)
              refine M.iload dX12_comes_197 rfl ?_
              refine M.if_eq (tgt := 222) dX12_comes_199 (by decide) (fun c_199 => ?_) (fun c_199 => absurd rfl c_199)
              refine M.aload_nR dX12_comes_222 rfl ?_
              refine M.ldcwS dX12_comes_223 sr_X12_474 ?_
              refine M.callV [.ref (kSa Λ RX12 474)] dX12_comes_226 mdX12_says imX12_says seX12_says lk_X12_334 rfl rfl rfl rfl (m_says hA (st_X12_474 hSt) sb_andScope_b (mo_4 rfl) (by simp only [List.length_append, List.length_cons, List.length_nil, b64_len]; omega)) ?_
              rintro _ I9 F9 ⟨rfl, e9, e8⟩
              have e9 := e9.symm; subst e9; have e8 := e8.symm; subst e8
              rw [mo_mo rfl, fo_fo rfl]
              refine M.iconst (v := 1) dX12_comes_229 (by decide) ?_
              refine M.istore (L' := [some (.ref m), some (.int (nI f)), some (.int x), some (.int (nI h)), some (.int 0), some (.int (nI (10 ^ 0 / 10))), some (.int 1), none, none]) dX12_comes_230 (by decide) rfl rfl ?_
              refine M.iconst (v := 0) dX12_comes_232 (by decide) ?_
              refine M.istore (L' := [some (.ref m), some (.int (nI f)), some (.int x), some (.int (nI h)), some (.int 0), some (.int (nI (10 ^ 0 / 10))), some (.int 1), some (.int 0), none]) dX12_comes_233 (by decide) rfl rfl ?_
              have cut_235 : ∀ (k_235 : Nat) (k : Nat), (k ≤ T.length) → (T.length + 1 ≤ k + k_235) → M Λ X mX12_comes m A (fun r I' F' => ∃ a1 b1, r = some (.int 200) ∧ I' = mo (upd (upd (upd (cmI I na nr false) 5 200) 6 0) 4 0) 0 (tkT (b64 d1 22) (b64 d2 22) T x a false) ∧ F' = fo (hs (cmF F na nr h f x (I 25 + nI a) (I 25 + I 28) false) a1 b1) 0 (tkT (b64 d1 22) (b64 d2 22) T x a false)) (mo (upd (upd (upd (cmI I na nr false) 5 200) 6 0) 4 0) 0 (((((sb_openAccess ++ (b64 d1 22)) ++ sb_bearer) ++ cdl a 7) ++ sb_andScope) ++ scw T x k)) (fo (hs (cmF F na nr h f x (I 25 + nI a) (I 25 + I 28) false) a9_1 b9_2) 0 (((((sb_openAccess ++ (b64 d1 22)) ++ sb_bearer) ++ cdl a 7) ++ sb_andScope) ++ scw T x k)) 235 [some (.ref m), some (.int (nI f)), some (.int x), some (.int (nI h)), some (.int 0), none, some (.int (bI (alln (fun j => !sbt x j) k))), some (.int (nI k)), none] [] := by
                intro k_235
                induction k_235 with
                | zero => intro k h1 h2; exact absurd h2 (by omega)
                | succ k_235 ih_235 =>
                  intro k h1 h2
                  have hsl := scw_len hT12 x k h1
                  have hcl := cdl_len a 7
                  refine M.iload dX12_comes_235 rfl ?_
                  refine M.aload_nR dX12_comes_237 rfl ?_
                  refine M.geti (v := nI T.length) dX12_comes_238 fl_X12_268 rfl rfl h9 ?_
                  refine M.icmp_ge (tgt := 314) dX12_comes_241 (by decide) (fun c_241 => ?_) (fun c_241 => ?_)
                  · skip
                    have e1 := nI_gen c_241 h1 (by omega); subst e1
                    refine M.aload_nR dX12_comes_314 rfl ?_
                    refine M.ldcwS dX12_comes_315 sr_X12_341 ?_
                    refine M.callV [.ref (kSa Λ RX12 341)] dX12_comes_318 mdX12_says imX12_says seX12_says lk_X12_334 rfl rfl rfl rfl (m_says hA (st_X12_341 hSt) sb_close_b (mo_4 rfl) (by simp only [List.length_append, List.length_cons, List.length_nil, b64_len]; omega)) ?_
                    rintro _ I9 F9 ⟨rfl, e9, e8⟩
                    have e9 := e9.symm; subst e9; have e8 := e8.symm; subst e8
                    rw [mo_mo rfl, fo_fo rfl]
                    refine M.sipush (v := 200) dX12_comes_321 (by decide) ?_
                    refine M.iret dX12_comes_324 rfl ?_
                    have et : ((((((sb_openAccess ++ (b64 d1 22)) ++ sb_bearer) ++ cdl a 7) ++ sb_andScope) ++ scw T x T.length) ++ sb_close) = (tkT (b64 d1 22) (b64 d2 22) T x a false) := by rw [tkT]; simp only [List.append_assoc, List.nil_append, reduceIte, Bool.false_eq_true]
                    exact ⟨a9_1, b9_2, rfl, by rw [et], by rw [et]⟩
                  · skip
                    have lt_k : k < T.length := nI_ltn c_241 (by omega) (by omega)
                    have hx := hws k lt_k
                    refine M.iload_n dX12_comes_244 rfl ?_
                    refine M.iload dX12_comes_245 rfl ?_
                    refine M.ishr dX12_comes_247 ?_
                    refine M.iconst (v := 1) dX12_comes_248 (by decide) ?_
                    refine M.iand dX12_comes_249 ?_
                    rw [show (x >>> ((nI k : Int32) &&& 31)) &&& 1 = bI (sbt x k) from sbt_0 (by omega)]
                    refine M.if_ne (tgt := 256) dX12_comes_250 (by decide) (fun c_250 => ?_) (fun c_250 => ?_)
                    · skip
                      have hbk := bt1 c_250
                      refine M.iload dX12_comes_256 rfl ?_
                      refine M.if_ne (tgt := 267) dX12_comes_258 (by decide) (fun c_258 => ?_) (fun c_258 => ?_)
                      · skip
                        refine M.iconst (v := 0) dX12_comes_267 (by decide) ?_
                        refine M.istore (L' := [some (.ref m), some (.int (nI f)), some (.int x), some (.int (nI h)), some (.int 0), none, some (.int 0), some (.int (nI k)), none]) dX12_comes_268 (by decide) rfl rfl ?_
                        refine M.iconst (v := 0) dX12_comes_270 (by decide) ?_
                        refine M.istore (L' := [some (.ref m), some (.int (nI f)), some (.int x), some (.int (nI h)), some (.int 0), none, some (.int 0), some (.int (nI k)), some (.int 0)]) dX12_comes_271 (by decide) rfl rfl ?_
                        have cut_273 : ∀ (k_273 : Nat) (x9 : Nat), (x9 ≤ (T.getD k []).length) → ((T.getD k []).length + 1 ≤ x9 + k_273) → M Λ X mX12_comes m A (fun r I' F' => ∃ a1 b1, r = some (.int 200) ∧ I' = mo (upd (upd (upd (cmI I na nr false) 5 200) 6 0) 4 0) 0 (tkT (b64 d1 22) (b64 d2 22) T x a false) ∧ F' = fo (hs (cmF F na nr h f x (I 25 + nI a) (I 25 + I 28) false) a1 b1) 0 (tkT (b64 d1 22) (b64 d2 22) T x a false)) (mo (upd (upd (upd (cmI I na nr false) 5 200) 6 0) 4 0) 0 ((((((sb_openAccess ++ (b64 d1 22)) ++ sb_bearer) ++ cdl a 7) ++ sb_andScope) ++ scw T x k) ++ (T.getD k []).take x9)) (fo (hs (cmF F na nr h f x (I 25 + nI a) (I 25 + I 28) false) a9_1 b9_2) 0 ((((((sb_openAccess ++ (b64 d1 22)) ++ sb_bearer) ++ cdl a 7) ++ sb_andScope) ++ scw T x k) ++ (T.getD k []).take x9)) 273 [some (.ref m), some (.int (nI f)), some (.int x), some (.int (nI h)), some (.int 0), none, some (.int 0), some (.int (nI k)), some (.int (nI x9))] [] := by
                          intro k_273
                          induction k_273 with
                          | zero => intro x9 h3 h4; exact absurd h4 (by omega)
                          | succ k_273 ih_273 =>
                            intro x9 h3 h4
                            have htl : ((T.getD k []).take x9).length = x9 := by rw [List.length_take, Nat.min_eq_left h3]
                            refine M.iload dX12_comes_273 rfl ?_
                            refine M.aload_nR dX12_comes_275 rfl ?_
                            refine M.getr dX12_comes_276 fl_X12_19 rfl rfl ?_
                            refine M.iload dX12_comes_279 rfl ?_
                            refine M.ialdv (k9 := 8) (j := k) (g := F 8) (v := nI (T.getD k []).length) dX12_comes_281 rfl rfl rfl rfl (show k < 8 by omega) hx.1 ?_
                            refine M.icmp_ge (tgt := 308) dX12_comes_282 (by decide) (fun c_282 => ?_) (fun c_282 => ?_)
                            · skip
                              have e2 := nI_gen c_282 h3 (by omega); subst e2
                              rw [List.take_length]
                              refine M.iinc (v := nI (k + 1)) (L' := [some (.ref m), some (.int (nI f)), some (.int x), some (.int (nI h)), some (.int 0), none, some (.int 0), some (.int (nI (k + 1))), some (.int (nI (T.getD k []).length))]) dX12_comes_308 rfl (nI_1 k) (by decide) rfl rfl ?_
                              refine M.goto (tgt := 235) dX12_comes_311 (by decide) ?_
                              refine M.drop (i := 8) (L' := [some (.ref m), some (.int (nI f)), some (.int x), some (.int (nI h)), some (.int 0), none, some (.int 0), some (.int (nI (k + 1))), none]) rfl ?_
                              have t9 := ih_235 (k + 1) (by omega) (by omega)
                              rw [scw, if_pos hbk, alln_s, hbk, Bool.not_true, Bool.and_false] at t9
                              rw [if_pos (bt1 c_258), List.append_nil, app_fl] at t9
                              exact t9
                            · skip
                              have lt_x : x9 < (T.getD k []).length := nI_ltn c_282 (by omega) (by omega)
                              refine M.aload_nR dX12_comes_285 rfl ?_
                              refine M.aload_nR dX12_comes_286 rfl ?_
                              refine M.getr dX12_comes_287 fl_X12_16 rfl rfl ?_
                              refine M.bipush (v := 12) dX12_comes_290 (by decide) ?_
                              refine M.iload dX12_comes_292 rfl ?_
                              refine M.imul dX12_comes_294 ?_
                              rw [show 12 * (nI k) = nI (12 * k) from nI_mulc 12 k]
                              refine M.iload dX12_comes_295 rfl ?_
                              refine M.iadd dX12_comes_297 ?_
                              rw [show (nI (12 * k)) + (nI x9) = nI (12 * k + x9) from nI_add (12 * k) x9]
                              refine M.baldv (k9 := 7) (j := 12 * k + x9) (g := F 7) (v := (T.getD k []).getD x9 0) dX12_comes_298 rfl rfl rfl rfl (show 12 * k + x9 < 96 by omega) (tl_bs.mp hx.2.2 x9 lt_x) ?_
                              refine M.callV [.int ((T.getD k []).getD x9 0)] dX12_comes_299 mdX12_puts imX12_puts seX12_puts lk_X12_299 rfl rfl rfl rfl (m_puts hA ((T.getD k []).getD x9 0) (mo_4 rfl) (by simp only [List.length_append, List.length_cons, List.length_nil, b64_len]; omega)) ?_
                              rintro _ I9 F9 ⟨rfl, e9, e8⟩
                              have e9 := e9.symm; subst e9; have e8 := e8.symm; subst e8
                              rw [mo_mo rfl, fo_fo rfl]
                              rw [bts_at (hbw k (by omega)) lt_x, List.append_assoc ((((((sb_openAccess ++ (b64 d1 22)) ++ sb_bearer) ++ cdl a 7) ++ sb_andScope) ++ scw T x k)) ((T.getD k []).take x9) [(T.getD k []).getD x9 0], ← take_at lt_x]
                              refine M.iinc (v := nI (x9 + 1)) (L' := [some (.ref m), some (.int (nI f)), some (.int x), some (.int (nI h)), some (.int 0), none, some (.int 0), some (.int (nI k)), some (.int (nI (x9 + 1)))]) dX12_comes_302 rfl (nI_1 x9) (by decide) rfl rfl ?_
                              refine M.goto (tgt := 273) dX12_comes_305 (by decide) ?_
                              exact ih_273 (x9 + 1) (by omega) (by omega)
                        have t9 := cut_273 ((T.getD k []).length + 1) 0 (by omega) (by omega)
                        rw [List.take_zero, List.append_nil] at t9
                        exact t9
                      · skip
                        refine M.aload_nR dX12_comes_261 rfl ?_
                        refine M.bipush (v := 32) dX12_comes_262 (by decide) ?_
                        refine M.callV [.int 32] dX12_comes_264 mdX12_puts imX12_puts seX12_puts lk_X12_299 rfl rfl rfl rfl (m_puts hA 32 (mo_4 rfl) (by simp only [List.length_append, List.length_cons, List.length_nil, b64_len]; omega)) ?_
                        rintro _ I9 F9 ⟨rfl, e9, e8⟩
                        have e9 := e9.symm; subst e9; have e8 := e8.symm; subst e8
                        rw [mo_mo rfl, fo_fo rfl]
                        refine M.iconst (v := 0) dX12_comes_267 (by decide) ?_
                        refine M.istore (L' := [some (.ref m), some (.int (nI f)), some (.int x), some (.int (nI h)), some (.int 0), none, some (.int 0), some (.int (nI k)), none]) dX12_comes_268 (by decide) rfl rfl ?_
                        refine M.iconst (v := 0) dX12_comes_270 (by decide) ?_
                        refine M.istore (L' := [some (.ref m), some (.int (nI f)), some (.int x), some (.int (nI h)), some (.int 0), none, some (.int 0), some (.int (nI k)), some (.int 0)]) dX12_comes_271 (by decide) rfl rfl ?_
                        have cut_273 : ∀ (k_273 : Nat) (x9 : Nat), (x9 ≤ (T.getD k []).length) → ((T.getD k []).length + 1 ≤ x9 + k_273) → M Λ X mX12_comes m A (fun r I' F' => ∃ a1 b1, r = some (.int 200) ∧ I' = mo (upd (upd (upd (cmI I na nr false) 5 200) 6 0) 4 0) 0 (tkT (b64 d1 22) (b64 d2 22) T x a false) ∧ F' = fo (hs (cmF F na nr h f x (I 25 + nI a) (I 25 + I 28) false) a1 b1) 0 (tkT (b64 d1 22) (b64 d2 22) T x a false)) (mo (upd (upd (upd (cmI I na nr false) 5 200) 6 0) 4 0) 0 (((((((sb_openAccess ++ (b64 d1 22)) ++ sb_bearer) ++ cdl a 7) ++ sb_andScope) ++ scw T x k) ++ [32]) ++ (T.getD k []).take x9)) (fo (hs (cmF F na nr h f x (I 25 + nI a) (I 25 + I 28) false) a9_1 b9_2) 0 (((((((sb_openAccess ++ (b64 d1 22)) ++ sb_bearer) ++ cdl a 7) ++ sb_andScope) ++ scw T x k) ++ [32]) ++ (T.getD k []).take x9)) 273 [some (.ref m), some (.int (nI f)), some (.int x), some (.int (nI h)), some (.int 0), none, some (.int 0), some (.int (nI k)), some (.int (nI x9))] [] := by
                          intro k_273
                          induction k_273 with
                          | zero => intro x9 h3 h4; exact absurd h4 (by omega)
                          | succ k_273 ih_273 =>
                            intro x9 h3 h4
                            have htl : ((T.getD k []).take x9).length = x9 := by rw [List.length_take, Nat.min_eq_left h3]
                            refine M.iload dX12_comes_273 rfl ?_
                            refine M.aload_nR dX12_comes_275 rfl ?_
                            refine M.getr dX12_comes_276 fl_X12_19 rfl rfl ?_
                            refine M.iload dX12_comes_279 rfl ?_
                            refine M.ialdv (k9 := 8) (j := k) (g := F 8) (v := nI (T.getD k []).length) dX12_comes_281 rfl rfl rfl rfl (show k < 8 by omega) hx.1 ?_
                            refine M.icmp_ge (tgt := 308) dX12_comes_282 (by decide) (fun c_282 => ?_) (fun c_282 => ?_)
                            · skip
                              have e2 := nI_gen c_282 h3 (by omega); subst e2
                              rw [List.take_length]
                              refine M.iinc (v := nI (k + 1)) (L' := [some (.ref m), some (.int (nI f)), some (.int x), some (.int (nI h)), some (.int 0), none, some (.int 0), some (.int (nI (k + 1))), some (.int (nI (T.getD k []).length))]) dX12_comes_308 rfl (nI_1 k) (by decide) rfl rfl ?_
                              refine M.goto (tgt := 235) dX12_comes_311 (by decide) ?_
                              refine M.drop (i := 8) (L' := [some (.ref m), some (.int (nI f)), some (.int x), some (.int (nI h)), some (.int 0), none, some (.int 0), some (.int (nI (k + 1))), none]) rfl ?_
                              have t9 := ih_235 (k + 1) (by omega) (by omega)
                              rw [scw, if_pos hbk, alln_s, hbk, Bool.not_true, Bool.and_false] at t9
                              rw [if_neg (by rw [(bI_eq0 _).mp c_258]; decide), app_fl, app_fl] at t9
                              exact t9
                            · skip
                              have lt_x : x9 < (T.getD k []).length := nI_ltn c_282 (by omega) (by omega)
                              refine M.aload_nR dX12_comes_285 rfl ?_
                              refine M.aload_nR dX12_comes_286 rfl ?_
                              refine M.getr dX12_comes_287 fl_X12_16 rfl rfl ?_
                              refine M.bipush (v := 12) dX12_comes_290 (by decide) ?_
                              refine M.iload dX12_comes_292 rfl ?_
                              refine M.imul dX12_comes_294 ?_
                              rw [show 12 * (nI k) = nI (12 * k) from nI_mulc 12 k]
                              refine M.iload dX12_comes_295 rfl ?_
                              refine M.iadd dX12_comes_297 ?_
                              rw [show (nI (12 * k)) + (nI x9) = nI (12 * k + x9) from nI_add (12 * k) x9]
                              refine M.baldv (k9 := 7) (j := 12 * k + x9) (g := F 7) (v := (T.getD k []).getD x9 0) dX12_comes_298 rfl rfl rfl rfl (show 12 * k + x9 < 96 by omega) (tl_bs.mp hx.2.2 x9 lt_x) ?_
                              refine M.callV [.int ((T.getD k []).getD x9 0)] dX12_comes_299 mdX12_puts imX12_puts seX12_puts lk_X12_299 rfl rfl rfl rfl (m_puts hA ((T.getD k []).getD x9 0) (mo_4 rfl) (by simp only [List.length_append, List.length_cons, List.length_nil, b64_len]; omega)) ?_
                              rintro _ I9 F9 ⟨rfl, e9, e8⟩
                              have e9 := e9.symm; subst e9; have e8 := e8.symm; subst e8
                              rw [mo_mo rfl, fo_fo rfl]
                              rw [bts_at (hbw k (by omega)) lt_x, List.append_assoc (((((((sb_openAccess ++ (b64 d1 22)) ++ sb_bearer) ++ cdl a 7) ++ sb_andScope) ++ scw T x k) ++ [32])) ((T.getD k []).take x9) [(T.getD k []).getD x9 0], ← take_at lt_x]
                              refine M.iinc (v := nI (x9 + 1)) (L' := [some (.ref m), some (.int (nI f)), some (.int x), some (.int (nI h)), some (.int 0), none, some (.int 0), some (.int (nI k)), some (.int (nI (x9 + 1)))]) dX12_comes_302 rfl (nI_1 x9) (by decide) rfl rfl ?_
                              refine M.goto (tgt := 273) dX12_comes_305 (by decide) ?_
                              exact ih_273 (x9 + 1) (by omega) (by omega)
                        have t9 := cut_273 ((T.getD k []).length + 1) 0 (by omega) (by omega)
                        rw [List.take_zero, List.append_nil] at t9
                        exact t9
                    · skip
                      have hbk := (bI_eq0 _).mp c_250
                      refine M.goto (tgt := 308) dX12_comes_253 (by decide) ?_
                      refine M.iinc (v := nI (k + 1)) (L' := [some (.ref m), some (.int (nI f)), some (.int x), some (.int (nI h)), some (.int 0), none, some (.int (bI (alln (fun j => !sbt x j) k))), some (.int (nI (k + 1))), none]) dX12_comes_308 rfl (nI_1 k) (by decide) rfl rfl ?_
                      refine M.goto (tgt := 235) dX12_comes_311 (by decide) ?_
                      have t9 := ih_235 (k + 1) (by omega) (by omega)
                      rw [scw, if_neg (by rw [hbk]; decide), alln_s, hbk, Bool.not_false, Bool.and_true] at t9
                      exact t9
              refine M.drop (i := 5) (L' := [some (.ref m), some (.int (nI f)), some (.int x), some (.int (nI h)), some (.int 0), none, some (.int 1), some (.int 0), none]) rfl ?_
              have t9 := cut_235 (T.length + 1) 0 (by omega) (by omega)
              rw [show scw T x 0 = [] from rfl, List.append_nil] at t9
              exact t9
            · skip
              have hp9 := pw10 (j := i) (by omega)
              rw [p10d]
              refine M.iload dX12_comes_165 rfl ?_
              refine M.if_le (tgt := 197) dX12_comes_167 (by decide) (fun c_167 => absurd c_167 (nI_nle hp9.1 (by omega))) (fun c_167 => ?_)
              refine M.aload_nR dX12_comes_170 rfl ?_
              refine M.bipush (v := 48) dX12_comes_171 (by decide) ?_
              refine M.aload_nR dX12_comes_173 rfl ?_
              refine M.geti (v := nI a) dX12_comes_174 fl_X12_64 rfl rfl h27 ?_
              refine M.iload dX12_comes_177 rfl ?_
              refine M.idiv dX12_comes_179 (nI_ne0 (by omega) (by omega)) ?_
              rw [show (nI a) / (nI (10 ^ i)) = nI (a / 10 ^ i) from pk_div (by omega) (by omega) (by omega)]
              refine M.bipush (v := 10) dX12_comes_180 (by decide) ?_
              refine M.irem dX12_comes_182 (by decide) ?_
              rw [show (nI (a / 10 ^ i)) - (nI (a / 10 ^ i)) / 10 * 10 = nI (a / 10 ^ i % 10) from pk_rem (Nat.lt_of_le_of_lt (Nat.div_le_self _ _) (by omega)) (by decide) (by decide)]
              refine M.iadd dX12_comes_183 ?_
              rw [show 48 + (nI (a / 10 ^ i % 10)) = nI (48 + a / 10 ^ i % 10) from nI_add 48 _]
              refine M.callV [.int (nI (48 + a / 10 ^ i % 10))] dX12_comes_184 mdX12_puts imX12_puts seX12_puts lk_X12_299 rfl rfl rfl rfl (m_puts hA (nI (48 + a / 10 ^ i % 10)) (mo_4 rfl) (by simp only [List.length_append, List.length_cons, List.length_nil, b64_len]; omega)) ?_
              rintro _ I9 F9 ⟨rfl, e9, e8⟩
              have e9 := e9.symm; subst e9; have e8 := e8.symm; subst e8
              rw [mo_mo rfl, fo_fo rfl]
              refine M.iload dX12_comes_187 rfl ?_
              refine M.bipush (v := 10) dX12_comes_189 (by decide) ?_
              refine M.idiv dX12_comes_191 (by decide) ?_
              rw [show (nI (10 ^ i)) / 10 = nI (10 ^ i / 10) from pk_div (by omega) (by decide) (by decide)]
              refine M.istore (L' := [some (.ref m), some (.int (nI f)), some (.int x), some (.int (nI h)), some (.int 0), some (.int (nI (10 ^ i / 10))), none, none, none]) dX12_comes_192 (by decide) rfl rfl ?_
              refine M.goto (tgt := 165) dX12_comes_194 (by decide) ?_
              have t9 := ih_165 i (acc ++ [b8 (nI (48 + a / 10 ^ i % 10))]) (by omega) (by omega) (by rw [← hacc, dgl, List.append_assoc]) (by rw [List.length_append, List.length_singleton]; omega)
              rw [app_fl] at t9
              exact t9
        have t9 := cut_165 9 (j + 1) [] (by omega) (by omega) (by rw [List.nil_append]; exact (cdl_at hj hj2 (by omega)).symm) (by rw [List.length_nil]; omega)
        rw [List.append_nil, p10d] at t9
        exact t9
      · skip
        have hgt : 9 < a / 10 ^ j := Nat.lt_of_not_le fun q => c_152 ((nI_leI (b := 9) (Nat.lt_of_le_of_lt q (by decide)) (by decide)).mpr q)
        have hj1 : 10 ^ (j + 1) ≤ a := by rw [Nat.pow_succ]; have := (Nat.le_div_iff_mul_le (show 0 < 10 ^ j by omega)).mp hgt; omega
        have hj6 : j < 6 := Nat.lt_of_not_le fun q => by have h9 := Nat.pow_le_pow_right (show 1 ≤ 10 by omega) (show 7 ≤ j + 1 by omega); omega
        refine M.bipush (v := 10) dX12_comes_155 (by decide) ?_
        refine M.iload dX12_comes_157 rfl ?_
        refine M.imul dX12_comes_159 ?_
        rw [show 10 * (nI (10 ^ j)) = nI (10 ^ (j + 1)) from (by rw [show nI (10 ^ (j + 1)) = nI (10 * 10 ^ j) by rw [Nat.pow_succ, Nat.mul_comm]]; exact pk_mul 10 (10 ^ j))]
        refine M.istore (L' := [some (.ref m), some (.int (nI f)), some (.int x), some (.int (nI h)), some (.int 0), some (.int (nI (10 ^ (j + 1)))), none, none, none]) dX12_comes_160 (by decide) rfl rfl ?_
        refine M.goto (tgt := 143) dX12_comes_162 (by decide) ?_
        exact ih_143 (j + 1) (by omega) (by omega) hj1
  exact cut_143 8 0 (by omega) (by omega) ha1

theorem m_comes_1 {Λ : kL} {m : Nat} {A : Nat → Nat} {I : Nat → Int32} {F : Nat → Nat → Int32} (hA : mInj A) (hSt : kSt Λ) {na nr h f a : Nat} {x : Int32} {T : List (List Int32)} {d1 d2 : List Int32} (h57 : I 57 = nI na) (h62 : I 62 = nI nr) (hna : na < 300) (hnr : nr < 300) (h27 : I 27 = nI a) (ha1 : 1 ≤ a) (ha2 : a ≤ 1000000) (h9 : I 9 = nI T.length) (hT : T.length ≤ 8) (hws : mTx F 7 8 12 T) (hbw : ∀ k, k < T.length → bts (T.getD k [])) (hh : h < 799) (hd1 : tl (F 23) (4 * h) 4 = d1) (hd2 : tl (F 23) (4 * (h + 1)) 4 = d2) : mCt Λ mX12_comes m A [.ref m, .int (nI f), .int x, .int (nI h), .int 1] I F (fun r I' F' => ∃ a1 b1 a2 b2, r = some (.int 200) ∧ I' = mo (upd (upd (upd (cmI I na nr true) 5 200) 6 0) 4 0) 0 (tkT (b64 d1 22) (b64 d2 22) T x a true) ∧ F' = fo (hs (hs (cmF F na nr h f x (I 25 + nI a) (I 25 + I 28) true) a1 b1) a2 b2) 0 (tkT (b64 d1 22) (b64 d2 22) T x a true)) := by
  refine mCt.of hA pn_X12 [some (.ref m), some (.int (nI f)), some (.int x), some (.int (nI h)), some (.int 1), none, none, none, none] rfl (Nat.le_of_ble_eq_true rfl) fun X => ?_
  have p10d : ∀ q, 10 ^ (q + 1) / 10 = 10 ^ q := fun q => by rw [Nat.pow_succ, Nat.mul_div_cancel _ (by omega)]
  have hT12 : ∀ k, k < T.length → (T.getD k []).length ≤ 12 := fun k hk => (hws k hk).2.1
  have l_openAccess : sb_openAccess.length ≤ 50 := by decide
  have l_bearer : sb_bearer.length ≤ 50 := by decide
  have l_andRefresh : sb_andRefresh.length ≤ 50 := by decide
  have l_andScope : sb_andScope.length ≤ 50 := by decide
  have l_close : sb_close.length ≤ 50 := by decide
  refine M.aload_nR dX12_comes_0 rfl ?_
  refine M.getr dX12_comes_1 fl_X12_128 rfl rfl ?_
  refine M.aload_nR dX12_comes_4 rfl ?_
  refine M.geti (v := nI na) dX12_comes_5 fl_X12_462 rfl rfl h57 ?_
  refine M.iload_n dX12_comes_8 rfl ?_
  refine M.iast (k9 := 52) (j := na) dX12_comes_9 rfl rfl rfl (show na < 300 by omega) ?_
  refine M.aload_nR dX12_comes_10 rfl ?_
  refine M.getr dX12_comes_11 fl_X12_131 rfl rfl ?_
  refine M.aload_nR dX12_comes_14 rfl ?_
  refine M.geti (v := nI na) dX12_comes_15 fl_X12_462 rfl rfl h57 ?_
  refine M.iload_n dX12_comes_18 rfl ?_
  refine M.iast (k9 := 53) (j := na) dX12_comes_19 rfl rfl rfl (show na < 300 by omega) ?_
  refine M.aload_nR dX12_comes_20 rfl ?_
  refine M.getr dX12_comes_21 fl_X12_134 rfl rfl ?_
  refine M.aload_nR dX12_comes_24 rfl ?_
  refine M.geti (v := nI na) dX12_comes_25 fl_X12_462 rfl rfl h57 ?_
  refine M.iload_n dX12_comes_28 rfl ?_
  refine M.iast (k9 := 54) (j := na) dX12_comes_29 rfl rfl rfl (show na < 300 by omega) ?_
  refine M.aload_nR dX12_comes_30 rfl ?_
  refine M.getr dX12_comes_31 fl_X12_137 rfl rfl ?_
  refine M.aload_nR dX12_comes_34 rfl ?_
  refine M.geti (v := nI na) dX12_comes_35 fl_X12_462 rfl rfl h57 ?_
  refine M.aload_nR dX12_comes_38 rfl ?_
  refine M.geti (v := I 25) dX12_comes_39 fl_X12_366 rfl rfl rfl ?_
  refine M.aload_nR dX12_comes_42 rfl ?_
  refine M.geti (v := nI a) dX12_comes_43 fl_X12_64 rfl rfl h27 ?_
  refine M.iadd dX12_comes_46 ?_
  refine M.iast (k9 := 55) (j := na) dX12_comes_47 rfl rfl rfl (show na < 300 by omega) ?_
  refine M.aload_nR dX12_comes_48 rfl ?_
  refine M.dup dX12_comes_49 rfl ?_
  refine M.geti (v := nI na) dX12_comes_50 fl_X12_462 rfl rfl h57 ?_
  refine M.iconst (v := 1) dX12_comes_53 (by decide) ?_
  refine M.iadd dX12_comes_54 ?_
  rw [show (nI na) + 1 = nI (na + 1) from nI_1 na]
  refine M.puti dX12_comes_55 fp_X12_462 rfl rfl ?_
  refine M.iload dX12_comes_58 rfl ?_
  refine M.if_eq (tgt := 113) dX12_comes_60 (by decide) (fun c_60 => absurd c_60 (by decide)) (fun c_60 => ?_)
  refine M.aload_nR dX12_comes_63 rfl ?_
  refine M.getr dX12_comes_64 fl_X12_143 rfl rfl ?_
  refine M.aload_nR dX12_comes_67 rfl ?_
  refine M.geti (v := nI nr) dX12_comes_68 fl_X12_465 rfl rfl h62 ?_
  refine M.iload_n dX12_comes_71 rfl ?_
  refine M.iconst (v := 1) dX12_comes_72 (by decide) ?_
  refine M.iadd dX12_comes_73 ?_
  rw [show (nI h) + 1 = nI (h + 1) from nI_1 h]
  refine M.iast (k9 := 58) (j := nr) dX12_comes_74 rfl rfl rfl (show nr < 300 by omega) ?_
  refine M.aload_nR dX12_comes_75 rfl ?_
  refine M.getr dX12_comes_76 fl_X12_146 rfl rfl ?_
  refine M.aload_nR dX12_comes_79 rfl ?_
  refine M.geti (v := nI nr) dX12_comes_80 fl_X12_465 rfl rfl h62 ?_
  refine M.iload_n dX12_comes_83 rfl ?_
  refine M.iast (k9 := 59) (j := nr) dX12_comes_84 rfl rfl rfl (show nr < 300 by omega) ?_
  refine M.aload_nR dX12_comes_85 rfl ?_
  refine M.getr dX12_comes_86 fl_X12_149 rfl rfl ?_
  refine M.aload_nR dX12_comes_89 rfl ?_
  refine M.geti (v := nI nr) dX12_comes_90 fl_X12_465 rfl rfl h62 ?_
  refine M.aload_nR dX12_comes_93 rfl ?_
  refine M.geti (v := I 25) dX12_comes_94 fl_X12_366 rfl rfl rfl ?_
  refine M.aload_nR dX12_comes_97 rfl ?_
  refine M.geti (v := I 28) dX12_comes_98 fl_X12_67 rfl rfl rfl ?_
  refine M.iadd dX12_comes_101 ?_
  refine M.iast (k9 := 60) (j := nr) dX12_comes_102 rfl rfl rfl (show nr < 300 by omega) ?_
  refine M.aload_nR dX12_comes_103 rfl ?_
  refine M.dup dX12_comes_104 rfl ?_
  refine M.geti (v := nI nr) dX12_comes_105 fl_X12_465 rfl rfl h62 ?_
  refine M.iconst (v := 1) dX12_comes_108 (by decide) ?_
  refine M.iadd dX12_comes_109 ?_
  rw [show (nI nr) + 1 = nI (nr + 1) from nI_1 nr]
  refine M.puti dX12_comes_110 fp_X12_465 rfl rfl ?_
  show M Λ X mX12_comes m A _ (cmI I na nr true) (cmF F na nr h f x (I 25 + nI a) (I 25 + I 28) true) 113 _ _
  refine M.aload_nR dX12_comes_113 rfl ?_
  refine M.sipush (v := 200) dX12_comes_114 (by decide) ?_
  refine M.iconst (v := 0) dX12_comes_117 (by decide) ?_
  refine M.callV [.int 200, .int 0] dX12_comes_118 mdX12_ends imX12_ends seX12_ends lk_X12_328 rfl rfl rfl rfl (m_ends hA 200 0) ?_
  rintro _ I9 F9 ⟨rfl, e9, e8⟩
  have e9 := e9.symm; subst e9; have e8 := e8.symm; subst e8
  refine M.aload_nR dX12_comes_121 rfl ?_
  refine M.ldcwS dX12_comes_122 sr_X12_468 ?_
  refine M.callV [.ref (kSa Λ RX12 468)] dX12_comes_125 mdX12_says imX12_says seX12_says lk_X12_334 rfl rfl rfl rfl (m_says hA (st_X12_468 hSt) sb_openAccess_b rfl (by simp only [List.length_append, List.length_cons, List.length_nil, b64_len]; omega)) ?_
  rintro _ I9 F9 ⟨rfl, e9, e8⟩
  have e9 := e9.symm; subst e9; have e8 := e8.symm; subst e8
  refine M.aload_nR dX12_comes_128 rfl ?_
  refine M.iload_n dX12_comes_129 rfl ?_
  refine M.callV [.int (nI h)] dX12_comes_130 mdX12_saysHandle imX12_saysHandle seX12_saysHandle lk_X12_418 rfl rfl rfl rfl (m_saysHandle hA (F := (fo (cmF F na nr h f x (I 25 + nI a) (I 25 + I 28) true) 0 sb_openAccess)) (a := h) (by omega) (d := d1) hd1 (mo_4 rfl) (show 0 + sb_openAccess.length ≤ 7000 by decide)) ?_
  rintro _ _ _ ⟨a9_1, b9_2, rfl, rfl, rfl⟩
  rw [hs_fo, mo_mo rfl, fo_fo rfl]
  refine M.aload_nR dX12_comes_133 rfl ?_
  refine M.ldcwS dX12_comes_134 sr_X12_470 ?_
  refine M.callV [.ref (kSa Λ RX12 470)] dX12_comes_137 mdX12_says imX12_says seX12_says lk_X12_334 rfl rfl rfl rfl (m_says hA (st_X12_470 hSt) sb_bearer_b (mo_4 rfl) (by simp only [List.length_append, List.length_cons, List.length_nil, b64_len]; omega)) ?_
  rintro _ I9 F9 ⟨rfl, e9, e8⟩
  have e9 := e9.symm; subst e9; have e8 := e8.symm; subst e8
  rw [mo_mo rfl, fo_fo rfl]
  refine M.iconst (v := 1) dX12_comes_140 (by decide) ?_
  refine M.istore (L' := [some (.ref m), some (.int (nI f)), some (.int x), some (.int (nI h)), some (.int 1), some (.int 1), none, none, none]) dX12_comes_141 (by decide) rfl rfl ?_
  have cut_143 : ∀ (k_143 : Nat) (j : Nat), (j ≤ 6) → (8 ≤ j + k_143) → (10 ^ j ≤ a) → M Λ X mX12_comes m A (fun r I' F' => ∃ a1 b1 a2 b2, r = some (.int 200) ∧ I' = mo (upd (upd (upd (cmI I na nr true) 5 200) 6 0) 4 0) 0 (tkT (b64 d1 22) (b64 d2 22) T x a true) ∧ F' = fo (hs (hs (cmF F na nr h f x (I 25 + nI a) (I 25 + I 28) true) a1 b1) a2 b2) 0 (tkT (b64 d1 22) (b64 d2 22) T x a true)) (mo (upd (upd (upd (cmI I na nr true) 5 200) 6 0) 4 0) 0 ((sb_openAccess ++ (b64 d1 22)) ++ sb_bearer)) (fo (hs (cmF F na nr h f x (I 25 + nI a) (I 25 + I 28) true) a9_1 b9_2) 0 ((sb_openAccess ++ (b64 d1 22)) ++ sb_bearer)) 143 [some (.ref m), some (.int (nI f)), some (.int x), some (.int (nI h)), some (.int 1), some (.int (nI (10 ^ j))), none, none, none] [] := by
    intro k_143
    induction k_143 with
    | zero => intro j h1 h2 hj; exact absurd h2 (by omega)
    | succ k_143 ih_143 =>
      intro j h1 h2 hj
      have hp := pw10 h1
      refine M.aload_nR dX12_comes_143 rfl ?_
      refine M.geti (v := nI a) dX12_comes_144 fl_X12_64 rfl rfl h27 ?_
      refine M.iload dX12_comes_147 rfl ?_
      refine M.idiv dX12_comes_149 (nI_ne0 (by omega) (by omega)) ?_
      rw [show (nI a) / (nI (10 ^ j)) = nI (a / 10 ^ j) from pk_div (by omega) (by omega) (by omega)]
      refine M.bipush (v := 9) dX12_comes_150 (by decide) ?_
      refine M.icmp_le (tgt := 165) dX12_comes_152 (by decide) (fun c_152 => ?_) (fun c_152 => ?_)
      · skip
        have hle : a / 10 ^ j ≤ 9 := (nI_leI (b := 9) (Nat.lt_of_le_of_lt (Nat.div_le_self _ _) (by omega)) (by decide)).mp c_152
        have hj2 : a < 10 ^ (j + 1) := by rw [Nat.pow_succ]; have := (Nat.div_lt_iff_lt_mul (show 0 < 10 ^ j by omega)).mp (Nat.lt_succ_of_le hle); omega
        have cut_165 : ∀ (k_165 : Nat) (i : Nat) (acc : List Int32), (i ≤ 7) → (i + 1 ≤ k_165) → (acc ++ dgl a i = cdl a 7) → (acc.length + i ≤ 7) → M Λ X mX12_comes m A (fun r I' F' => ∃ a1 b1 a2 b2, r = some (.int 200) ∧ I' = mo (upd (upd (upd (cmI I na nr true) 5 200) 6 0) 4 0) 0 (tkT (b64 d1 22) (b64 d2 22) T x a true) ∧ F' = fo (hs (hs (cmF F na nr h f x (I 25 + nI a) (I 25 + I 28) true) a1 b1) a2 b2) 0 (tkT (b64 d1 22) (b64 d2 22) T x a true)) (mo (upd (upd (upd (cmI I na nr true) 5 200) 6 0) 4 0) 0 (((sb_openAccess ++ (b64 d1 22)) ++ sb_bearer) ++ acc)) (fo (hs (cmF F na nr h f x (I 25 + nI a) (I 25 + I 28) true) a9_1 b9_2) 0 (((sb_openAccess ++ (b64 d1 22)) ++ sb_bearer) ++ acc)) 165 [some (.ref m), some (.int (nI f)), some (.int x), some (.int (nI h)), some (.int 1), some (.int (nI (10 ^ i / 10))), none, none, none] [] := by
          intro k_165
          induction k_165 with
          | zero => intro i acc h1 h3 hacc hal; exact absurd h3 (by omega)
          | succ k_165 ih_165 =>
            intro i acc h1 h3 hacc hal
            rcases i with _ | i
            · skip
              have hacc : acc = cdl a 7 := by rw [← hacc, dgl, List.append_nil]
              subst hacc
              refine M.iload dX12_comes_165 rfl ?_
              refine M.if_le (tgt := 197) dX12_comes_167 (by decide) (fun c_167 => ?_) (fun c_167 => absurd (by decide) c_167)
              refine M.iload dX12_comes_197 rfl ?_
              refine M.if_eq (tgt := 222) dX12_comes_199 (by decide) (fun c_199 => absurd c_199 (by decide)) (fun c_199 => ?_)
              refine M.aload_nR dX12_comes_202 rfl ?_
              refine M.ldcwS dX12_comes_203 sr_X12_472 ?_
              refine M.callV [.ref (kSa Λ RX12 472)] dX12_comes_206 mdX12_says imX12_says seX12_says lk_X12_334 rfl rfl rfl rfl (m_says hA (st_X12_472 hSt) sb_andRefresh_b (mo_4 rfl) (by simp only [List.length_append, List.length_cons, List.length_nil, b64_len]; omega)) ?_
              rintro _ I9 F9 ⟨rfl, e9, e8⟩
              have e9 := e9.symm; subst e9; have e8 := e8.symm; subst e8
              rw [mo_mo rfl, fo_fo rfl]
              refine M.aload_nR dX12_comes_209 rfl ?_
              refine M.iload_n dX12_comes_210 rfl ?_
              refine M.iconst (v := 1) dX12_comes_211 (by decide) ?_
              refine M.iadd dX12_comes_212 ?_
              rw [show (nI h) + 1 = nI (h + 1) from nI_1 h]
              refine M.callV [.int (nI (h + 1))] dX12_comes_213 mdX12_saysHandle imX12_saysHandle seX12_saysHandle lk_X12_418 rfl rfl rfl rfl (m_saysHandle hA (F := (fo (hs (cmF F na nr h f x (I 25 + nI a) (I 25 + I 28) true) a9_1 b9_2) 0 ((((sb_openAccess ++ (b64 d1 22)) ++ sb_bearer) ++ cdl a 7) ++ sb_andRefresh))) (a := h + 1) (by omega) (d := d2) hd2 (mo_4 rfl) (by simp only [List.length_append, b64_len]; omega)) ?_
              rintro _ _ _ ⟨a9_3, b9_4, rfl, rfl, rfl⟩
              rw [hs_fo, mo_mo rfl, fo_fo rfl]
              refine M.aload_nR dX12_comes_216 rfl ?_
              refine M.bipush (v := 34) dX12_comes_217 (by decide) ?_
              refine M.callV [.int 34] dX12_comes_219 mdX12_puts imX12_puts seX12_puts lk_X12_299 rfl rfl rfl rfl (m_puts hA 34 (mo_4 rfl) (by simp only [List.length_append, List.length_cons, List.length_nil, b64_len]; omega)) ?_
              rintro _ I9 F9 ⟨rfl, e9, e8⟩
              have e9 := e9.symm; subst e9; have e8 := e8.symm; subst e8
              rw [mo_mo rfl, fo_fo rfl]
              refine M.aload_nR dX12_comes_222 rfl ?_
              refine M.ldcwS dX12_comes_223 sr_X12_474 ?_
              refine M.callV [.ref (kSa Λ RX12 474)] dX12_comes_226 mdX12_says imX12_says seX12_says lk_X12_334 rfl rfl rfl rfl (m_says hA (st_X12_474 hSt) sb_andScope_b (mo_4 rfl) (by simp only [List.length_append, List.length_cons, List.length_nil, b64_len]; omega)) ?_
              rintro _ I9 F9 ⟨rfl, e9, e8⟩
              have e9 := e9.symm; subst e9; have e8 := e8.symm; subst e8
              rw [mo_mo rfl, fo_fo rfl]
              refine M.iconst (v := 1) dX12_comes_229 (by decide) ?_
              refine M.istore (L' := [some (.ref m), some (.int (nI f)), some (.int x), some (.int (nI h)), some (.int 1), some (.int (nI (10 ^ 0 / 10))), some (.int 1), none, none]) dX12_comes_230 (by decide) rfl rfl ?_
              refine M.iconst (v := 0) dX12_comes_232 (by decide) ?_
              refine M.istore (L' := [some (.ref m), some (.int (nI f)), some (.int x), some (.int (nI h)), some (.int 1), some (.int (nI (10 ^ 0 / 10))), some (.int 1), some (.int 0), none]) dX12_comes_233 (by decide) rfl rfl ?_
              have cut_235 : ∀ (k_235 : Nat) (k : Nat), (k ≤ T.length) → (T.length + 1 ≤ k + k_235) → M Λ X mX12_comes m A (fun r I' F' => ∃ a1 b1 a2 b2, r = some (.int 200) ∧ I' = mo (upd (upd (upd (cmI I na nr true) 5 200) 6 0) 4 0) 0 (tkT (b64 d1 22) (b64 d2 22) T x a true) ∧ F' = fo (hs (hs (cmF F na nr h f x (I 25 + nI a) (I 25 + I 28) true) a1 b1) a2 b2) 0 (tkT (b64 d1 22) (b64 d2 22) T x a true)) (mo (upd (upd (upd (cmI I na nr true) 5 200) 6 0) 4 0) 0 ((((((((sb_openAccess ++ (b64 d1 22)) ++ sb_bearer) ++ cdl a 7) ++ sb_andRefresh) ++ (b64 d2 22)) ++ [34]) ++ sb_andScope) ++ scw T x k)) (fo (hs (hs (cmF F na nr h f x (I 25 + nI a) (I 25 + I 28) true) a9_1 b9_2) a9_3 b9_4) 0 ((((((((sb_openAccess ++ (b64 d1 22)) ++ sb_bearer) ++ cdl a 7) ++ sb_andRefresh) ++ (b64 d2 22)) ++ [34]) ++ sb_andScope) ++ scw T x k)) 235 [some (.ref m), some (.int (nI f)), some (.int x), some (.int (nI h)), some (.int 1), none, some (.int (bI (alln (fun j => !sbt x j) k))), some (.int (nI k)), none] [] := by
                intro k_235
                induction k_235 with
                | zero => intro k h1 h2; exact absurd h2 (by omega)
                | succ k_235 ih_235 =>
                  intro k h1 h2
                  have hsl := scw_len hT12 x k h1
                  have hcl := cdl_len a 7
                  refine M.iload dX12_comes_235 rfl ?_
                  refine M.aload_nR dX12_comes_237 rfl ?_
                  refine M.geti (v := nI T.length) dX12_comes_238 fl_X12_268 rfl rfl h9 ?_
                  refine M.icmp_ge (tgt := 314) dX12_comes_241 (by decide) (fun c_241 => ?_) (fun c_241 => ?_)
                  · skip
                    have e1 := nI_gen c_241 h1 (by omega); subst e1
                    refine M.aload_nR dX12_comes_314 rfl ?_
                    refine M.ldcwS dX12_comes_315 sr_X12_341 ?_
                    refine M.callV [.ref (kSa Λ RX12 341)] dX12_comes_318 mdX12_says imX12_says seX12_says lk_X12_334 rfl rfl rfl rfl (m_says hA (st_X12_341 hSt) sb_close_b (mo_4 rfl) (by simp only [List.length_append, List.length_cons, List.length_nil, b64_len]; omega)) ?_
                    rintro _ I9 F9 ⟨rfl, e9, e8⟩
                    have e9 := e9.symm; subst e9; have e8 := e8.symm; subst e8
                    rw [mo_mo rfl, fo_fo rfl]
                    refine M.sipush (v := 200) dX12_comes_321 (by decide) ?_
                    refine M.iret dX12_comes_324 rfl ?_
                    have et : (((((((((sb_openAccess ++ (b64 d1 22)) ++ sb_bearer) ++ cdl a 7) ++ sb_andRefresh) ++ (b64 d2 22)) ++ [34]) ++ sb_andScope) ++ scw T x T.length) ++ sb_close) = (tkT (b64 d1 22) (b64 d2 22) T x a true) := by rw [tkT]; simp only [List.append_assoc, List.nil_append, reduceIte, Bool.false_eq_true]
                    exact ⟨a9_1, b9_2, a9_3, b9_4, rfl, by rw [et], by rw [et]⟩
                  · skip
                    have lt_k : k < T.length := nI_ltn c_241 (by omega) (by omega)
                    have hx := hws k lt_k
                    refine M.iload_n dX12_comes_244 rfl ?_
                    refine M.iload dX12_comes_245 rfl ?_
                    refine M.ishr dX12_comes_247 ?_
                    refine M.iconst (v := 1) dX12_comes_248 (by decide) ?_
                    refine M.iand dX12_comes_249 ?_
                    rw [show (x >>> ((nI k : Int32) &&& 31)) &&& 1 = bI (sbt x k) from sbt_0 (by omega)]
                    refine M.if_ne (tgt := 256) dX12_comes_250 (by decide) (fun c_250 => ?_) (fun c_250 => ?_)
                    · skip
                      have hbk := bt1 c_250
                      refine M.iload dX12_comes_256 rfl ?_
                      refine M.if_ne (tgt := 267) dX12_comes_258 (by decide) (fun c_258 => ?_) (fun c_258 => ?_)
                      · skip
                        refine M.iconst (v := 0) dX12_comes_267 (by decide) ?_
                        refine M.istore (L' := [some (.ref m), some (.int (nI f)), some (.int x), some (.int (nI h)), some (.int 1), none, some (.int 0), some (.int (nI k)), none]) dX12_comes_268 (by decide) rfl rfl ?_
                        refine M.iconst (v := 0) dX12_comes_270 (by decide) ?_
                        refine M.istore (L' := [some (.ref m), some (.int (nI f)), some (.int x), some (.int (nI h)), some (.int 1), none, some (.int 0), some (.int (nI k)), some (.int 0)]) dX12_comes_271 (by decide) rfl rfl ?_
                        have cut_273 : ∀ (k_273 : Nat) (x9 : Nat), (x9 ≤ (T.getD k []).length) → ((T.getD k []).length + 1 ≤ x9 + k_273) → M Λ X mX12_comes m A (fun r I' F' => ∃ a1 b1 a2 b2, r = some (.int 200) ∧ I' = mo (upd (upd (upd (cmI I na nr true) 5 200) 6 0) 4 0) 0 (tkT (b64 d1 22) (b64 d2 22) T x a true) ∧ F' = fo (hs (hs (cmF F na nr h f x (I 25 + nI a) (I 25 + I 28) true) a1 b1) a2 b2) 0 (tkT (b64 d1 22) (b64 d2 22) T x a true)) (mo (upd (upd (upd (cmI I na nr true) 5 200) 6 0) 4 0) 0 (((((((((sb_openAccess ++ (b64 d1 22)) ++ sb_bearer) ++ cdl a 7) ++ sb_andRefresh) ++ (b64 d2 22)) ++ [34]) ++ sb_andScope) ++ scw T x k) ++ (T.getD k []).take x9)) (fo (hs (hs (cmF F na nr h f x (I 25 + nI a) (I 25 + I 28) true) a9_1 b9_2) a9_3 b9_4) 0 (((((((((sb_openAccess ++ (b64 d1 22)) ++ sb_bearer) ++ cdl a 7) ++ sb_andRefresh) ++ (b64 d2 22)) ++ [34]) ++ sb_andScope) ++ scw T x k) ++ (T.getD k []).take x9)) 273 [some (.ref m), some (.int (nI f)), some (.int x), some (.int (nI h)), some (.int 1), none, some (.int 0), some (.int (nI k)), some (.int (nI x9))] [] := by
                          intro k_273
                          induction k_273 with
                          | zero => intro x9 h3 h4; exact absurd h4 (by omega)
                          | succ k_273 ih_273 =>
                            intro x9 h3 h4
                            have htl : ((T.getD k []).take x9).length = x9 := by rw [List.length_take, Nat.min_eq_left h3]
                            refine M.iload dX12_comes_273 rfl ?_
                            refine M.aload_nR dX12_comes_275 rfl ?_
                            refine M.getr dX12_comes_276 fl_X12_19 rfl rfl ?_
                            refine M.iload dX12_comes_279 rfl ?_
                            refine M.ialdv (k9 := 8) (j := k) (g := F 8) (v := nI (T.getD k []).length) dX12_comes_281 rfl rfl rfl rfl (show k < 8 by omega) hx.1 ?_
                            refine M.icmp_ge (tgt := 308) dX12_comes_282 (by decide) (fun c_282 => ?_) (fun c_282 => ?_)
                            · skip
                              have e2 := nI_gen c_282 h3 (by omega); subst e2
                              rw [List.take_length]
                              refine M.iinc (v := nI (k + 1)) (L' := [some (.ref m), some (.int (nI f)), some (.int x), some (.int (nI h)), some (.int 1), none, some (.int 0), some (.int (nI (k + 1))), some (.int (nI (T.getD k []).length))]) dX12_comes_308 rfl (nI_1 k) (by decide) rfl rfl ?_
                              refine M.goto (tgt := 235) dX12_comes_311 (by decide) ?_
                              refine M.drop (i := 8) (L' := [some (.ref m), some (.int (nI f)), some (.int x), some (.int (nI h)), some (.int 1), none, some (.int 0), some (.int (nI (k + 1))), none]) rfl ?_
                              have t9 := ih_235 (k + 1) (by omega) (by omega)
                              rw [scw, if_pos hbk, alln_s, hbk, Bool.not_true, Bool.and_false] at t9
                              rw [if_pos (bt1 c_258), List.append_nil, app_fl] at t9
                              exact t9
                            · skip
                              have lt_x : x9 < (T.getD k []).length := nI_ltn c_282 (by omega) (by omega)
                              refine M.aload_nR dX12_comes_285 rfl ?_
                              refine M.aload_nR dX12_comes_286 rfl ?_
                              refine M.getr dX12_comes_287 fl_X12_16 rfl rfl ?_
                              refine M.bipush (v := 12) dX12_comes_290 (by decide) ?_
                              refine M.iload dX12_comes_292 rfl ?_
                              refine M.imul dX12_comes_294 ?_
                              rw [show 12 * (nI k) = nI (12 * k) from nI_mulc 12 k]
                              refine M.iload dX12_comes_295 rfl ?_
                              refine M.iadd dX12_comes_297 ?_
                              rw [show (nI (12 * k)) + (nI x9) = nI (12 * k + x9) from nI_add (12 * k) x9]
                              refine M.baldv (k9 := 7) (j := 12 * k + x9) (g := F 7) (v := (T.getD k []).getD x9 0) dX12_comes_298 rfl rfl rfl rfl (show 12 * k + x9 < 96 by omega) (tl_bs.mp hx.2.2 x9 lt_x) ?_
                              refine M.callV [.int ((T.getD k []).getD x9 0)] dX12_comes_299 mdX12_puts imX12_puts seX12_puts lk_X12_299 rfl rfl rfl rfl (m_puts hA ((T.getD k []).getD x9 0) (mo_4 rfl) (by simp only [List.length_append, List.length_cons, List.length_nil, b64_len]; omega)) ?_
                              rintro _ I9 F9 ⟨rfl, e9, e8⟩
                              have e9 := e9.symm; subst e9; have e8 := e8.symm; subst e8
                              rw [mo_mo rfl, fo_fo rfl]
                              rw [bts_at (hbw k (by omega)) lt_x, List.append_assoc (((((((((sb_openAccess ++ (b64 d1 22)) ++ sb_bearer) ++ cdl a 7) ++ sb_andRefresh) ++ (b64 d2 22)) ++ [34]) ++ sb_andScope) ++ scw T x k)) ((T.getD k []).take x9) [(T.getD k []).getD x9 0], ← take_at lt_x]
                              refine M.iinc (v := nI (x9 + 1)) (L' := [some (.ref m), some (.int (nI f)), some (.int x), some (.int (nI h)), some (.int 1), none, some (.int 0), some (.int (nI k)), some (.int (nI (x9 + 1)))]) dX12_comes_302 rfl (nI_1 x9) (by decide) rfl rfl ?_
                              refine M.goto (tgt := 273) dX12_comes_305 (by decide) ?_
                              exact ih_273 (x9 + 1) (by omega) (by omega)
                        have t9 := cut_273 ((T.getD k []).length + 1) 0 (by omega) (by omega)
                        rw [List.take_zero, List.append_nil] at t9
                        exact t9
                      · skip
                        refine M.aload_nR dX12_comes_261 rfl ?_
                        refine M.bipush (v := 32) dX12_comes_262 (by decide) ?_
                        refine M.callV [.int 32] dX12_comes_264 mdX12_puts imX12_puts seX12_puts lk_X12_299 rfl rfl rfl rfl (m_puts hA 32 (mo_4 rfl) (by simp only [List.length_append, List.length_cons, List.length_nil, b64_len]; omega)) ?_
                        rintro _ I9 F9 ⟨rfl, e9, e8⟩
                        have e9 := e9.symm; subst e9; have e8 := e8.symm; subst e8
                        rw [mo_mo rfl, fo_fo rfl]
                        refine M.iconst (v := 0) dX12_comes_267 (by decide) ?_
                        refine M.istore (L' := [some (.ref m), some (.int (nI f)), some (.int x), some (.int (nI h)), some (.int 1), none, some (.int 0), some (.int (nI k)), none]) dX12_comes_268 (by decide) rfl rfl ?_
                        refine M.iconst (v := 0) dX12_comes_270 (by decide) ?_
                        refine M.istore (L' := [some (.ref m), some (.int (nI f)), some (.int x), some (.int (nI h)), some (.int 1), none, some (.int 0), some (.int (nI k)), some (.int 0)]) dX12_comes_271 (by decide) rfl rfl ?_
                        have cut_273 : ∀ (k_273 : Nat) (x9 : Nat), (x9 ≤ (T.getD k []).length) → ((T.getD k []).length + 1 ≤ x9 + k_273) → M Λ X mX12_comes m A (fun r I' F' => ∃ a1 b1 a2 b2, r = some (.int 200) ∧ I' = mo (upd (upd (upd (cmI I na nr true) 5 200) 6 0) 4 0) 0 (tkT (b64 d1 22) (b64 d2 22) T x a true) ∧ F' = fo (hs (hs (cmF F na nr h f x (I 25 + nI a) (I 25 + I 28) true) a1 b1) a2 b2) 0 (tkT (b64 d1 22) (b64 d2 22) T x a true)) (mo (upd (upd (upd (cmI I na nr true) 5 200) 6 0) 4 0) 0 ((((((((((sb_openAccess ++ (b64 d1 22)) ++ sb_bearer) ++ cdl a 7) ++ sb_andRefresh) ++ (b64 d2 22)) ++ [34]) ++ sb_andScope) ++ scw T x k) ++ [32]) ++ (T.getD k []).take x9)) (fo (hs (hs (cmF F na nr h f x (I 25 + nI a) (I 25 + I 28) true) a9_1 b9_2) a9_3 b9_4) 0 ((((((((((sb_openAccess ++ (b64 d1 22)) ++ sb_bearer) ++ cdl a 7) ++ sb_andRefresh) ++ (b64 d2 22)) ++ [34]) ++ sb_andScope) ++ scw T x k) ++ [32]) ++ (T.getD k []).take x9)) 273 [some (.ref m), some (.int (nI f)), some (.int x), some (.int (nI h)), some (.int 1), none, some (.int 0), some (.int (nI k)), some (.int (nI x9))] [] := by
                          intro k_273
                          induction k_273 with
                          | zero => intro x9 h3 h4; exact absurd h4 (by omega)
                          | succ k_273 ih_273 =>
                            intro x9 h3 h4
                            have htl : ((T.getD k []).take x9).length = x9 := by rw [List.length_take, Nat.min_eq_left h3]
                            refine M.iload dX12_comes_273 rfl ?_
                            refine M.aload_nR dX12_comes_275 rfl ?_
                            refine M.getr dX12_comes_276 fl_X12_19 rfl rfl ?_
                            refine M.iload dX12_comes_279 rfl ?_
                            refine M.ialdv (k9 := 8) (j := k) (g := F 8) (v := nI (T.getD k []).length) dX12_comes_281 rfl rfl rfl rfl (show k < 8 by omega) hx.1 ?_
                            refine M.icmp_ge (tgt := 308) dX12_comes_282 (by decide) (fun c_282 => ?_) (fun c_282 => ?_)
                            · skip
                              have e2 := nI_gen c_282 h3 (by omega); subst e2
                              rw [List.take_length]
                              refine M.iinc (v := nI (k + 1)) (L' := [some (.ref m), some (.int (nI f)), some (.int x), some (.int (nI h)), some (.int 1), none, some (.int 0), some (.int (nI (k + 1))), some (.int (nI (T.getD k []).length))]) dX12_comes_308 rfl (nI_1 k) (by decide) rfl rfl ?_
                              refine M.goto (tgt := 235) dX12_comes_311 (by decide) ?_
                              refine M.drop (i := 8) (L' := [some (.ref m), some (.int (nI f)), some (.int x), some (.int (nI h)), some (.int 1), none, some (.int 0), some (.int (nI (k + 1))), none]) rfl ?_
                              have t9 := ih_235 (k + 1) (by omega) (by omega)
                              rw [scw, if_pos hbk, alln_s, hbk, Bool.not_true, Bool.and_false] at t9
                              rw [if_neg (by rw [(bI_eq0 _).mp c_258]; decide), app_fl, app_fl] at t9
                              exact t9
                            · skip
                              have lt_x : x9 < (T.getD k []).length := nI_ltn c_282 (by omega) (by omega)
                              refine M.aload_nR dX12_comes_285 rfl ?_
                              refine M.aload_nR dX12_comes_286 rfl ?_
                              refine M.getr dX12_comes_287 fl_X12_16 rfl rfl ?_
                              refine M.bipush (v := 12) dX12_comes_290 (by decide) ?_
                              refine M.iload dX12_comes_292 rfl ?_
                              refine M.imul dX12_comes_294 ?_
                              rw [show 12 * (nI k) = nI (12 * k) from nI_mulc 12 k]
                              refine M.iload dX12_comes_295 rfl ?_
                              refine M.iadd dX12_comes_297 ?_
                              rw [show (nI (12 * k)) + (nI x9) = nI (12 * k + x9) from nI_add (12 * k) x9]
                              refine M.baldv (k9 := 7) (j := 12 * k + x9) (g := F 7) (v := (T.getD k []).getD x9 0) dX12_comes_298 rfl rfl rfl rfl (show 12 * k + x9 < 96 by omega) (tl_bs.mp hx.2.2 x9 lt_x) ?_
                              refine M.callV [.int ((T.getD k []).getD x9 0)] dX12_comes_299 mdX12_puts imX12_puts seX12_puts lk_X12_299 rfl rfl rfl rfl (m_puts hA ((T.getD k []).getD x9 0) (mo_4 rfl) (by simp only [List.length_append, List.length_cons, List.length_nil, b64_len]; omega)) ?_
                              rintro _ I9 F9 ⟨rfl, e9, e8⟩
                              have e9 := e9.symm; subst e9; have e8 := e8.symm; subst e8
                              rw [mo_mo rfl, fo_fo rfl]
                              rw [bts_at (hbw k (by omega)) lt_x, List.append_assoc ((((((((((sb_openAccess ++ (b64 d1 22)) ++ sb_bearer) ++ cdl a 7) ++ sb_andRefresh) ++ (b64 d2 22)) ++ [34]) ++ sb_andScope) ++ scw T x k) ++ [32])) ((T.getD k []).take x9) [(T.getD k []).getD x9 0], ← take_at lt_x]
                              refine M.iinc (v := nI (x9 + 1)) (L' := [some (.ref m), some (.int (nI f)), some (.int x), some (.int (nI h)), some (.int 1), none, some (.int 0), some (.int (nI k)), some (.int (nI (x9 + 1)))]) dX12_comes_302 rfl (nI_1 x9) (by decide) rfl rfl ?_
                              refine M.goto (tgt := 273) dX12_comes_305 (by decide) ?_
                              exact ih_273 (x9 + 1) (by omega) (by omega)
                        have t9 := cut_273 ((T.getD k []).length + 1) 0 (by omega) (by omega)
                        rw [List.take_zero, List.append_nil] at t9
                        exact t9
                    · skip
                      have hbk := (bI_eq0 _).mp c_250
                      refine M.goto (tgt := 308) dX12_comes_253 (by decide) ?_
                      refine M.iinc (v := nI (k + 1)) (L' := [some (.ref m), some (.int (nI f)), some (.int x), some (.int (nI h)), some (.int 1), none, some (.int (bI (alln (fun j => !sbt x j) k))), some (.int (nI (k + 1))), none]) dX12_comes_308 rfl (nI_1 k) (by decide) rfl rfl ?_
                      refine M.goto (tgt := 235) dX12_comes_311 (by decide) ?_
                      have t9 := ih_235 (k + 1) (by omega) (by omega)
                      rw [scw, if_neg (by rw [hbk]; decide), alln_s, hbk, Bool.not_false, Bool.and_true] at t9
                      exact t9
              refine M.drop (i := 5) (L' := [some (.ref m), some (.int (nI f)), some (.int x), some (.int (nI h)), some (.int 1), none, some (.int 1), some (.int 0), none]) rfl ?_
              have t9 := cut_235 (T.length + 1) 0 (by omega) (by omega)
              rw [show scw T x 0 = [] from rfl, List.append_nil] at t9
              exact t9
            · skip
              have hp9 := pw10 (j := i) (by omega)
              rw [p10d]
              refine M.iload dX12_comes_165 rfl ?_
              refine M.if_le (tgt := 197) dX12_comes_167 (by decide) (fun c_167 => absurd c_167 (nI_nle hp9.1 (by omega))) (fun c_167 => ?_)
              refine M.aload_nR dX12_comes_170 rfl ?_
              refine M.bipush (v := 48) dX12_comes_171 (by decide) ?_
              refine M.aload_nR dX12_comes_173 rfl ?_
              refine M.geti (v := nI a) dX12_comes_174 fl_X12_64 rfl rfl h27 ?_
              refine M.iload dX12_comes_177 rfl ?_
              refine M.idiv dX12_comes_179 (nI_ne0 (by omega) (by omega)) ?_
              rw [show (nI a) / (nI (10 ^ i)) = nI (a / 10 ^ i) from pk_div (by omega) (by omega) (by omega)]
              refine M.bipush (v := 10) dX12_comes_180 (by decide) ?_
              refine M.irem dX12_comes_182 (by decide) ?_
              rw [show (nI (a / 10 ^ i)) - (nI (a / 10 ^ i)) / 10 * 10 = nI (a / 10 ^ i % 10) from pk_rem (Nat.lt_of_le_of_lt (Nat.div_le_self _ _) (by omega)) (by decide) (by decide)]
              refine M.iadd dX12_comes_183 ?_
              rw [show 48 + (nI (a / 10 ^ i % 10)) = nI (48 + a / 10 ^ i % 10) from nI_add 48 _]
              refine M.callV [.int (nI (48 + a / 10 ^ i % 10))] dX12_comes_184 mdX12_puts imX12_puts seX12_puts lk_X12_299 rfl rfl rfl rfl (m_puts hA (nI (48 + a / 10 ^ i % 10)) (mo_4 rfl) (by simp only [List.length_append, List.length_cons, List.length_nil, b64_len]; omega)) ?_
              rintro _ I9 F9 ⟨rfl, e9, e8⟩
              have e9 := e9.symm; subst e9; have e8 := e8.symm; subst e8
              rw [mo_mo rfl, fo_fo rfl]
              refine M.iload dX12_comes_187 rfl ?_
              refine M.bipush (v := 10) dX12_comes_189 (by decide) ?_
              refine M.idiv dX12_comes_191 (by decide) ?_
              rw [show (nI (10 ^ i)) / 10 = nI (10 ^ i / 10) from pk_div (by omega) (by decide) (by decide)]
              refine M.istore (L' := [some (.ref m), some (.int (nI f)), some (.int x), some (.int (nI h)), some (.int 1), some (.int (nI (10 ^ i / 10))), none, none, none]) dX12_comes_192 (by decide) rfl rfl ?_
              refine M.goto (tgt := 165) dX12_comes_194 (by decide) ?_
              have t9 := ih_165 i (acc ++ [b8 (nI (48 + a / 10 ^ i % 10))]) (by omega) (by omega) (by rw [← hacc, dgl, List.append_assoc]) (by rw [List.length_append, List.length_singleton]; omega)
              rw [app_fl] at t9
              exact t9
        have t9 := cut_165 9 (j + 1) [] (by omega) (by omega) (by rw [List.nil_append]; exact (cdl_at hj hj2 (by omega)).symm) (by rw [List.length_nil]; omega)
        rw [List.append_nil, p10d] at t9
        exact t9
      · skip
        have hgt : 9 < a / 10 ^ j := Nat.lt_of_not_le fun q => c_152 ((nI_leI (b := 9) (Nat.lt_of_le_of_lt q (by decide)) (by decide)).mpr q)
        have hj1 : 10 ^ (j + 1) ≤ a := by rw [Nat.pow_succ]; have := (Nat.le_div_iff_mul_le (show 0 < 10 ^ j by omega)).mp hgt; omega
        have hj6 : j < 6 := Nat.lt_of_not_le fun q => by have h9 := Nat.pow_le_pow_right (show 1 ≤ 10 by omega) (show 7 ≤ j + 1 by omega); omega
        refine M.bipush (v := 10) dX12_comes_155 (by decide) ?_
        refine M.iload dX12_comes_157 rfl ?_
        refine M.imul dX12_comes_159 ?_
        rw [show 10 * (nI (10 ^ j)) = nI (10 ^ (j + 1)) from (by rw [show nI (10 ^ (j + 1)) = nI (10 * 10 ^ j) by rw [Nat.pow_succ, Nat.mul_comm]]; exact pk_mul 10 (10 ^ j))]
        refine M.istore (L' := [some (.ref m), some (.int (nI f)), some (.int x), some (.int (nI h)), some (.int 1), some (.int (nI (10 ^ (j + 1)))), none, none, none]) dX12_comes_160 (by decide) rfl rfl ?_
        refine M.goto (tgt := 143) dX12_comes_162 (by decide) ?_
        exact ih_143 (j + 1) (by omega) (by omega) hj1
  exact cut_143 8 0 (by omega) (by omega) ha1

theorem fsti_hit {p : Nat → Bool} {n z : Nat} (h : z < n) (hp : p z = true) : fsti p (n - z) z = z := by rw [show n - z = (n - (z + 1)) + 1 by omega, fsti_t hp]
theorem fsti_st {p : Nat → Bool} {n z : Nat} (h : z < n) (hp : p z = false) : fsti p (n - z) z = fsti p (n - (z + 1)) (z + 1) := by rw [show n - z = (n - (z + 1)) + 1 by omega, fsti_f hp]

theorem m_refreshOf {Λ : kL} {m : Nat} {A : Nat → Nat} {I : Nat → Int32} {F : Nat → Nat → Int32} (hA : mInj A) {U C : List (List Int32)} (h62 : I 62 = nI C.length) (hC : C.length ≤ 300) (hUl : U.length ≤ 800) (hU : mDi (F 23) U) (h58 : mCl F 58 C 0) (hlw : lwr C 0 U.length) {g : fvs} (hv : vrl F 2000 g) {k9 : Nat} (hk9 : k9 < 13) (h0 : 0 < (fv g k9).length) : mCt Λ mX12_refreshOf m A [.ref m, .int (nI k9)] I F (fun r I' F' => ∃ a9 b9, r = some (.int (if hfn U C (fv g k9) < C.length then nI (hfn U C (fv g k9)) else -1)) ∧ I' = I ∧ F' = hs F a9 b9) := by
  refine mCt.of hA pn_X12 [some (.ref m), some (.int (nI k9)), none] rfl (Nat.le_of_ble_eq_true rfl) fun X => ?_
  obtain ⟨i, a1, a2, a3, a4, a5⟩ := hv.at hk9 h0
  refine M.iconst (v := 0) dX12_refreshOf_0 (by decide) ?_
  refine M.istore_n (L' := [some (.ref m), some (.int (nI k9)), some (.int 0)]) dX12_refreshOf_1 (by decide) rfl rfl ?_
  have cut_2 : ∀ (k_2 : Nat) (z : Nat) (a9 : Nat → Int32) (b9 : Nat → Int32), (z ≤ C.length) → (C.length + 1 ≤ z + k_2) → (hfn U C (fv g k9) = fsti (fun k => decide (fv g k9 = b64 (U.getD ((C.getD k []).getD 0 0).toNatClampNeg []) 22)) (C.length - z) z) → M Λ X mX12_refreshOf m A (fun r I' F' => ∃ a9 b9, r = some (.int (if hfn U C (fv g k9) < C.length then nI (hfn U C (fv g k9)) else -1)) ∧ I' = I ∧ F' = hs F a9 b9) I (hs F a9 b9) 2 [some (.ref m), some (.int (nI k9)), some (.int (nI z))] [] := by
    intro k_2
    induction k_2 with
    | zero => intro z a9 b9 h1 h2 hz; exact absurd h2 (by omega)
    | succ k_2 ih_2 =>
      intro z a9 b9 h1 h2 hz
      refine M.iload_n dX12_refreshOf_2 rfl ?_
      refine M.aload_nR dX12_refreshOf_3 rfl ?_
      refine M.geti (v := nI C.length) dX12_refreshOf_4 fl_X12_465 rfl rfl h62 ?_
      refine M.icmp_ge (tgt := 45) dX12_refreshOf_7 (by decide) (fun c_7 => ?_) (fun c_7 => ?_)
      · skip
        have e1 := nI_gen c_7 h1 (by omega); subst e1
        skip
        refine M.iload_n dX12_refreshOf_45 rfl ?_
        refine M.aload_nR dX12_refreshOf_46 rfl ?_
        refine M.geti (v := nI C.length) dX12_refreshOf_47 fl_X12_465 rfl rfl h62 ?_
        refine M.icmp_ge (tgt := 57) dX12_refreshOf_50 (by decide) (fun c_50 => ?_) (fun c_50 => absurd (nI_le (Nat.le_refl _) (by omega)) c_50)
        refine M.iconst (v := (-1)) dX12_refreshOf_57 (by decide) ?_
        refine M.iret dX12_refreshOf_58 rfl ?_
        exact ⟨_, _, congrArg (fun q => some (Value.int q)) (if_neg (by rw [hz, Nat.sub_self]; exact Nat.lt_irrefl _)).symm, rfl, rfl⟩
      · skip
        have lt_z : z < C.length := nI_ltn c_7 (by omega) (by omega)
        obtain ⟨z8, hz8, ez8⟩ := hlw z lt_z
        refine M.aload_nR dX12_refreshOf_10 rfl ?_
        refine M.aload_nR dX12_refreshOf_11 rfl ?_
        refine M.getr dX12_refreshOf_12 fl_X12_143 rfl rfl ?_
        refine M.iload_n dX12_refreshOf_15 rfl ?_
        refine M.ialdv (k9 := 58) (j := z) (g := F 58) (v := nI z8) dX12_refreshOf_16 rfl rfl rfl rfl (show z < 300 by omega) ((h58 z lt_z).trans ez8) ?_
        refine M.aload_nR dX12_refreshOf_17 rfl ?_
        refine M.getr dX12_refreshOf_18 fl_X12_155 rfl rfl ?_
        refine M.aload_nR dX12_refreshOf_21 rfl ?_
        refine M.getr dX12_refreshOf_22 fl_X12_158 rfl rfl ?_
        refine M.iload_n dX12_refreshOf_25 rfl ?_
        refine M.ialdv (k9 := 64) (j := k9) (g := F 64) (v := nI i) dX12_refreshOf_26 rfl rfl rfl rfl (show k9 < 13 by omega) a1 ?_
        refine M.aload_nR dX12_refreshOf_27 rfl ?_
        refine M.getr dX12_refreshOf_28 fl_X12_161 rfl rfl ?_
        refine M.iload_n dX12_refreshOf_31 rfl ?_
        refine M.ialdv (k9 := 65) (j := k9) (g := F 65) (v := nI (fv g k9).length) dX12_refreshOf_32 rfl rfl rfl rfl (show k9 < 13 by omega) a2 ?_
        refine M.callV [.int (nI z8), .ref (A 63), .int (nI i), .int (nI (fv g k9).length)] dX12_refreshOf_33 mdX12_isHandle imX12_isHandle seX12_isHandle lk_X12_441 rfl rfl rfl rfl (m_isHandle hA (F := hs F a9 b9) (a := z8) (by omega) (d := U.getD z8 []) (hU z8 hz8) (k1 := 63) rfl rfl (by decide) (by decide) a3 a4) ?_
        rintro _ I9 _ ⟨a7, b7, rfl, e9, rfl⟩; have e9 := e9.symm; subst e9
        rw [hs_hs]
        refine M.if_ne (tgt := 45) dX12_refreshOf_36 (by decide) (fun c_36 => ?_) (fun c_36 => ?_)
        · skip
          have hz9 : (decide (fv g k9 = b64 (U.getD ((C.getD z []).getD 0 0).toNatClampNeg []) 22)) = decide (fv g k9 = b64 (U.getD z8 []) 22) := by rw [ez8, nI_clamp (by omega)]
          have hz7 : hfn U C (fv g k9) = z := hz.trans (fsti_hit (by omega) (hz9.trans (bt1 c_36)))
          refine M.iload_n dX12_refreshOf_45 rfl ?_
          refine M.aload_nR dX12_refreshOf_46 rfl ?_
          refine M.geti (v := nI C.length) dX12_refreshOf_47 fl_X12_465 rfl rfl h62 ?_
          refine M.icmp_ge (tgt := 57) dX12_refreshOf_50 (by decide) (fun c_50 => absurd c_50 (nI_ge lt_z (by omega))) (fun c_50 => ?_)
          refine M.iload_n dX12_refreshOf_53 rfl ?_
          refine M.goto (tgt := 58) dX12_refreshOf_54 (by decide) ?_
          refine M.iret dX12_refreshOf_58 rfl ?_
          exact ⟨_, _, congrArg (fun q => some (Value.int q)) ((if_pos (by rw [hz7]; exact lt_z)).trans (by rw [hz7])).symm, rfl, rfl⟩
        · skip
          have hz9 : (decide (fv g k9 = b64 (U.getD ((C.getD z []).getD 0 0).toNatClampNeg []) 22)) = decide (fv g k9 = b64 (U.getD z8 []) 22) := by rw [ez8, nI_clamp (by omega)]
          refine M.iinc (v := nI (z + 1)) (L' := [some (.ref m), some (.int (nI k9)), some (.int (nI (z + 1)))]) dX12_refreshOf_39 rfl (nI_1 z) (by decide) rfl rfl ?_
          refine M.goto (tgt := 2) dX12_refreshOf_42 (by decide) ?_
          exact ih_2 (z + 1) _ _ (by omega) (by omega) (hz.trans (fsti_st lt_z (hz9.trans ((bI_eq0 _).mp c_36))))
  have t9 := cut_2 (C.length + 1) 0 (F 68) (F 69) (by omega) (by omega) rfl
  rw [hs_id] at t9
  exact t9

theorem m_isGood {Λ : kL} {m : Nat} {A : Nat → Nat} {I : Nat → Int32} {F : Nat → Nat → Int32} (hA : mInj A) {C D : List (List Int32)} (hC : C.length ≤ 300) (hD : D.length ≤ 200) (h55 : mCl F 55 C 3) (h56 : mCl F 56 C 4) (h53 : mCl F 53 C 1) (h50 : mCl F 50 D 4) {k f : Nat} {b1 b2 : Bool} (hk : k < C.length) (hf : f < D.length) (e1 : (C.getD k []).getD 4 0 = bI b1) (e2 : (C.getD k []).getD 1 0 = nI f) (e3 : (D.getD f []).getD 4 0 = bI b2) : mCt Λ mX12_isGood m A [.ref m, .int (nI k)] I F (fun r I' F' => r = some (.int (bI (decide (I 25 < (C.getD k []).getD 3 0) && !b1 && !b2))) ∧ I' = I ∧ F' = F) := by
  refine mCt.of hA pn_X12 [some (.ref m), some (.int (nI k))] rfl (Nat.le_of_ble_eq_true rfl) fun X => ?_
  refine M.aload_nR dX12_isGood_0 rfl ?_
  refine M.geti (v := I 25) dX12_isGood_1 fl_X12_366 rfl rfl rfl ?_
  refine M.aload_nR dX12_isGood_4 rfl ?_
  refine M.getr dX12_isGood_5 fl_X12_137 rfl rfl ?_
  refine M.iload_n dX12_isGood_8 rfl ?_
  refine M.ialdv (k9 := 55) (j := k) (g := F 55) (v := (C.getD k []).getD 3 0) dX12_isGood_9 rfl rfl rfl rfl (show k < 300 by omega) (h55 k hk) ?_
  refine M.icmp_ge (tgt := 40) dX12_isGood_10 (by decide) (fun c_10 => ?_) (fun c_10 => ?_)
  · skip
    refine M.iconst (v := 0) dX12_isGood_40 (by decide) ?_
    refine M.zret dX12_isGood_41 rfl rfl ?_
    refine ⟨congrArg (fun z => some (Value.int z)) ?_, rfl, rfl⟩
    first
      | (rw [decide_eq_false (Int32.not_lt.mpr c_10)]; rfl)
      | (rw [bt1 c_19, Bool.not_true, Bool.and_false]; rfl)
      | (rw [bt1 c_33, Bool.not_true, Bool.and_false]; rfl)
  · skip
    refine M.aload_nR dX12_isGood_13 rfl ?_
    refine M.getr dX12_isGood_14 fl_X12_140 rfl rfl ?_
    refine M.iload_n dX12_isGood_17 rfl ?_
    refine M.zaldv (k9 := 56) (j := k) (g := F 56) (v := bI b1) dX12_isGood_18 rfl rfl rfl rfl (show k < 300 by omega) ((h56 k hk).trans e1) ?_
    refine M.if_ne (tgt := 40) dX12_isGood_19 (by decide) (fun c_19 => ?_) (fun c_19 => ?_)
    · skip
      refine M.iconst (v := 0) dX12_isGood_40 (by decide) ?_
      refine M.zret dX12_isGood_41 rfl rfl ?_
      refine ⟨congrArg (fun z => some (Value.int z)) ?_, rfl, rfl⟩
      first
        | (rw [decide_eq_false (Int32.not_lt.mpr c_10)]; rfl)
        | (rw [bt1 c_19, Bool.not_true, Bool.and_false]; rfl)
        | (rw [bt1 c_33, Bool.not_true, Bool.and_false]; rfl)
    · skip
      refine M.aload_nR dX12_isGood_22 rfl ?_
      refine M.getr dX12_isGood_23 fl_X12_125 rfl rfl ?_
      refine M.aload_nR dX12_isGood_26 rfl ?_
      refine M.getr dX12_isGood_27 fl_X12_131 rfl rfl ?_
      refine M.iload_n dX12_isGood_30 rfl ?_
      refine M.ialdv (k9 := 53) (j := k) (g := F 53) (v := nI f) dX12_isGood_31 rfl rfl rfl rfl (show k < 300 by omega) ((h53 k hk).trans e2) ?_
      refine M.zaldv (k9 := 50) (j := f) (g := F 50) (v := bI b2) dX12_isGood_32 rfl rfl rfl rfl (show f < 200 by omega) ((h50 f hf).trans e3) ?_
      refine M.if_ne (tgt := 40) dX12_isGood_33 (by decide) (fun c_33 => ?_) (fun c_33 => ?_)
      · skip
        refine M.iconst (v := 0) dX12_isGood_40 (by decide) ?_
        refine M.zret dX12_isGood_41 rfl rfl ?_
        refine ⟨congrArg (fun z => some (Value.int z)) ?_, rfl, rfl⟩
        first
          | (rw [decide_eq_false (Int32.not_lt.mpr c_10)]; rfl)
          | (rw [bt1 c_19, Bool.not_true, Bool.and_false]; rfl)
          | (rw [bt1 c_33, Bool.not_true, Bool.and_false]; rfl)
      · skip
        refine M.iconst (v := 1) dX12_isGood_36 (by decide) ?_
        refine M.goto (tgt := 41) dX12_isGood_37 (by decide) ?_
        refine M.zret dX12_isGood_41 rfl rfl ?_
        refine ⟨congrArg (fun z => some (Value.int z)) ?_, rfl, rfl⟩
        rw [decide_eq_true (Int32.not_le.mp c_10), (bI_eq0 _).mp c_19, (bI_eq0 _).mp c_33]; rfl
