/-! constructors of the class -/
theorem kup_i1 {σ σ' : kh} {a b : Nat} {c d : kc} (e : σ' = kup σ a c) (h : b ≠ a) (hb : σ b = some d) : σ' b = some d := by rw [e]; exact kup_i h hb
theorem kup_s1 {σ σ' : kh} {a : Nat} {c : kc} (e : σ' = kup σ a c) : σ' a = some c := by rw [e]; exact kup_s _ _ _
/-- what was there but for a is kept -/
def ifr (σ : kh) (a : Nat) (σ' : kh) : Prop := ∀ p c, σ p = some c → p ≠ a → σ' p = some c
def ifs (σ : kh) (q : Nat) : Prop := ∀ p c, σ p = some c → p < q
theorem ifr.rf (σ : kh) (a : Nat) : ifr σ a σ := fun _ _ h _ => h
theorem ifr.wa {σ σ1 σ2 : kh} {a : Nat} {c : kc} (h : ifr σ a σ1) (e : σ2 = kup σ1 a c) : ifr σ a σ2 := fun p d hp hn => kup_i1 e hn (h p d hp hn)
theorem ifr.wq {σ σ1 σ2 : kh} {a q : Nat} {c : kc} (h : ifr σ a σ1) (e : σ2 = kup σ1 q c) (hq : ifs σ q) : ifr σ a σ2 := fun p d hp hn => kup_i1 e (Nat.ne_of_lt (hq p d hp)) (h p d hp hn)
theorem ifs.mk {σ σ1 : kh} {a q : Nat} {ca : kc} (h : ifr σ a σ1) (ha : σ1 a = some ca) (hq : ∀ p c, σ1 p = some c → p < q) : ifs σ q := fun p c hp => by
  by_cases e : p = a
  · rw [e]; exact hq _ _ ha
  · exact hq p c (h p c hp e)
theorem ifs.tr {σ : kh} {q r : Nat} (h : ifs σ q) (hr : q < r) : ifs σ r := fun p c hp => Nat.lt_trans (h p c hp) hr
def allP (P : Nat → Prop) : Nat → Prop
  | 0 => True
  | n + 1 => allP P n ∧ P n
theorem allP.at {P : Nat → Prop} : ∀ (n : Nat), allP P n → ∀ k, k < n → P k
  | 0, _, k, hk => absurd hk (Nat.not_lt_zero k)
  | n + 1, h, k, hk => by
    by_cases e : k = n
    · rw [e]; exact h.2
    · exact allP.at n h.1 k (by omega)
theorem inc_lt {f : Nat → Nat} {n : Nat} (h : ∀ i, i < n → f i < f (i + 1)) : ∀ j i, i < j → j ≤ n → f i < f j := by
  intro j
  induction j with
  | zero => intro i hi; exact absurd hi (Nat.not_lt_zero i)
  | succ j ih =>
    intro i hi hj
    by_cases e : i = j
    · rw [e]; exact h j (by omega)
    · exact Nat.lt_trans (ih i (by omega) (by omega)) (h j (by omega))
theorem inc_inj {f : Nat → Nat} {n : Nat} (h : ∀ i, i < n → f i < f (i + 1)) {i j : Nat} (hi : i ≤ n) (hj : j ≤ n) (e : f i = f j) : i = j := by
  rcases Nat.lt_trichotomy i j with q | q | q
  · exact absurd e (Nat.ne_of_lt (inc_lt h j i q hj))
  · exact q
  · exact absurd e.symm (Nat.ne_of_lt (inc_lt h i j q hi))

theorem i_Text {Λ : kL} {σ : kh} {t : Nat} (ht : σ t = some (.inr (10, [.null, .int 0, .int 0]))) {m : Nat} (hm : m ≤ 100000) : jCt Λ mX9_init 1 m [.ref t, .int (nI m)] σ (fun v σ' => v = none ∧ ∃ q, ifs σ q ∧ t < q ∧ σ' t = some (oT q 0 0) ∧ σ' q = some (aB m (fun _ => 0)) ∧ ifr σ t σ') := by
  refine (c_Text_init ht (x := nI m) (m := m) (if_neg (nI_pos (by omega))) hm).mono fun v σ' ⟨q, h1, h2, h3, h4⟩ => ?_
  have hq := h2 _ _ ht
  exact ⟨h3, q, h2, hq, by rw [h4]; exact kup_s _ _ _, by rw [h4]; exact kup_i (by omega) (kup_s _ _ _), fun p c hp hn => by rw [h4]; exact kup_i hn (kup_i (Nat.ne_of_lt (h2 p c hp)) hp)⟩
theorem i_TextS {Λ : kL} {σ : kh} {t u r : Nat} {b n : Int32} (ht : σ t = some (.inr (10, [.null, .int 0, .int 0]))) (hu : σ u = some (oT r b n)) (h : u ≠ t) : jCt Λ mX9_init_ 0 0 [.ref t, .ref u] σ (fun v σ' => v = none ∧ σ' t = some (oT r 0 0) ∧ ifr σ t σ') :=
  (c_Text_initS ht hu h).mono fun v σ' ⟨h3, h4⟩ => ⟨h3, by rw [h4]; exact kup_s _ _ _, fun p c hp hn => by rw [h4]; exact kup_i hn hp⟩
theorem i_List {Λ : kL} {σ : kh} {t : Nat} (ht : σ t = some (.inr (0, [.int 0, .null, .int 0]))) (hJ : kJd Λ) : jCt Λ mJx4a65c_init_da8c8 0 0 [.ref t] σ (fun v σ' => v = none ∧ σ' t = some (kLi []) ∧ ifr σ t σ') :=
  (c_list_init ht hJ).mono fun v σ' ⟨h3, h4⟩ => ⟨h3, by rw [h4]; exact kup_s _ _ _, fun p c hp hn => by rw [h4]; exact kup_i hn hp⟩
theorem ifr.tr {σ σ1 σ2 : kh} {a t : Nat} (h : ifr σ a σ1) (h2 : ifr σ1 t σ2) (ht : ifs σ t) : ifr σ a σ2 := fun p c hp hn => h2 p c (h p c hp hn) (Nat.ne_of_lt (ht p c hp))

theorem i_Field {Λ : kL} {σ : kh} {a u r nm : Nat} {b n : Int32} (ha : σ a = some (.inr (4, [.null, .null, .int 0]))) (hu : σ u = some (oT r b n)) (hne : u ≠ a) : jCt Λ mX3_init 1 3 [.ref a, .ref nm, .ref u] σ (fun v σ' => v = none ∧ ∃ q, ifs σ q ∧ σ' a = some (oFi nm q false) ∧ σ' q = some (oT r 0 0) ∧ ifr σ a σ') := by
  refine jCt.of pn_X3 [some (.ref a), some (.ref nm), some (.ref u)] rfl (Nat.le_of_ble_eq_true rfl) fun X => ?_
  refine J.aload_nR dX3_init_0 rfl ?_
  refine J.objInit dX3_init_1 lo_X3_1 oi_im oi_co rfl rfl ?_
  refine J.aload_nR dX3_init_4 rfl ?_
  refine J.iconst (v := 0) dX3_init_5 (by decide) ?_
  refine J.putf (fs' := [.null, .null, .int 0]) dX3_init_6 fp_X3_7 (fun h => by cases h) ha rfl rfl (Nat.le_of_ble_eq_true rfl) rfl ?_
  obtain ⟨σ_1, es_2⟩ : ∃ z, z = kup σ a (.inr (4, [.null, .null, .int 0])) := ⟨_, rfl⟩
  rw [← es_2]
  have h_3 : σ_1 a = some (.inr (4, [.null, .null, .int 0])) := kup_s1 es_2
  have h_4 : σ_1 u = some (.inr (10, [.ref r, .int b, .int n])) := kup_i1 es_2 hne hu
  have fr_5 : ifr σ a σ_1 := (ifr.rf σ a).wa es_2
  refine J.aload_nR dX3_init_9 rfl ?_
  refine J.aload_nR dX3_init_10 rfl ?_
  refine J.putf (fs' := [.ref nm, .null, .int 0]) dX3_init_11 fp_X3_13 (fun _ => rfl) h_3 rfl rfl (Nat.le_of_ble_eq_true rfl) rfl ?_
  obtain ⟨σ_6, es_7⟩ : ∃ z, z = kup σ_1 a (.inr (4, [.ref nm, .null, .int 0])) := ⟨_, rfl⟩
  rw [← es_7]
  have h_8 : σ_6 a = some (.inr (4, [.ref nm, .null, .int 0])) := kup_s1 es_7
  have h_9 : σ_6 u = some (.inr (10, [.ref r, .int b, .int n])) := kup_i1 es_7 hne h_4
  have fr_10 : ifr σ a σ_6 := fr_5.wa es_7
  refine J.aload_nR dX3_init_14 rfl ?_
  refine J.less (bc' := 0 + 1) (bs' := 0 + 3) (by omega) (by omega) ?_
  refine J.new dX3_init_15 nw_X3_17 (fun q_11 hb_12 hl_13 => ?_)
  obtain ⟨σ_14, es_15⟩ : ∃ z, z = kup σ_6 q_11 (.inr (10, [.null, .int 0, .int 0])) := ⟨_, rfl⟩
  rw [← es_15]
  have fs_16 : ifs σ q_11 := ifs.mk fr_10 h_8 hl_13
  have h_17 : σ_14 a = some (.inr (4, [.ref nm, .null, .int 0])) := kup_i1 es_15 (Nat.ne_of_lt (hl_13 _ _ h_8)) h_8
  have h_18 : σ_14 u = some (.inr (10, [.ref r, .int b, .int n])) := kup_i1 es_15 (Nat.ne_of_lt (hl_13 _ _ h_9)) h_9
  have h_19 : σ_14 q_11 = some (.inr (10, [.null, .int 0, .int 0])) := kup_s1 es_15
  have fr_20 : ifr σ a σ_14 := fr_10.wq es_15 fs_16
  refine J.dup dX3_init_18 rfl ?_
  refine J.aload_nR dX3_init_19 rfl ?_
  refine J.callI0 [.ref u] dX3_init_20 mdX9_init_ ⟨rfl, rfl⟩ imX9_init_ lk_X3_19 rfl rfl rfl rfl (i_TextS h_19 h_18 (Nat.ne_of_lt (hl_13 _ _ h_9))) ?_
  rintro _ σ_21 ⟨rfl, h_23, fz_22⟩
  have h_24 : σ_21 a = some (.inr (4, [.ref nm, .null, .int 0])) := fz_22 _ _ h_17 (Nat.ne_of_lt (hl_13 _ _ h_8))
  have h_25 : σ_21 u = some (.inr (10, [.ref r, .int b, .int n])) := fz_22 _ _ h_18 (Nat.ne_of_lt (hl_13 _ _ h_9))
  have fr_27 : ifr σ a σ_21 := fr_20.tr fz_22 fs_16
  refine J.putf (fs' := [.ref nm, .ref q_11, .int 0]) dX3_init_23 fp_X3_22 (fun _ => rfl) h_24 rfl rfl (Nat.le_of_ble_eq_true rfl) rfl ?_
  obtain ⟨σ_28, es_29⟩ : ∃ z, z = kup σ_21 a (.inr (4, [.ref nm, .ref q_11, .int 0])) := ⟨_, rfl⟩
  rw [← es_29]
  have h_30 : σ_28 a = some (.inr (4, [.ref nm, .ref q_11, .int 0])) := kup_s1 es_29
  have h_31 : σ_28 u = some (.inr (10, [.ref r, .int b, .int n])) := kup_i1 es_29 hne h_25
  have h_32 : σ_28 q_11 = some (.inr (10, [.ref r, .int 0, .int 0])) := kup_i1 es_29 (Ne.symm (Nat.ne_of_lt (hl_13 _ _ h_8))) h_23
  have fr_33 : ifr σ a σ_28 := fr_27.wa es_29
  refine J.vret dX3_init_26 rfl ?_
  exact ⟨rfl, q_11, fs_16, h_30, h_32, fr_33⟩

theorem i_Handles {Λ : kL} {σ : kh} {a : Nat} (ha : σ a = some (.inr (7, [.null, .null]))) (hJ : kJd Λ) : jCt Λ mX6_init 2 6 [.ref a] σ (fun v σ' => v = none ∧ ∃ q r, ifs σ q ∧ q < r ∧ σ' a = some (oHs q r) ∧ σ' q = some (kLi []) ∧ σ' r = some (kLi []) ∧ ifr σ a σ') := by
  refine jCt.of pn_X6 [some (.ref a)] rfl (Nat.le_of_ble_eq_true rfl) fun X => ?_
  refine J.aload_nR dX6_init_0 rfl ?_
  refine J.objInit dX6_init_1 lo_X6_3 oi_im oi_co rfl rfl ?_
  refine J.aload_nR dX6_init_4 rfl ?_
  refine J.less (bc' := 1 + 1) (bs' := 3 + 3) (by omega) (by omega) ?_
  refine J.new dX6_init_5 nw_X6_9 (fun q_1 hb_2 hl_3 => ?_)
  obtain ⟨σ_4, es_5⟩ : ∃ z, z = kup σ q_1 (.inr (0, [.int 0, .null, .int 0])) := ⟨_, rfl⟩
  rw [← es_5]
  have fs_6 : ifs σ q_1 := ifs.mk (ifr.rf σ a) ha hl_3
  have h_7 : σ_4 a = some (.inr (7, [.null, .null])) := kup_i1 es_5 (Nat.ne_of_lt (hl_3 _ _ ha)) ha
  have h_8 : σ_4 q_1 = some (.inr (0, [.int 0, .null, .int 0])) := kup_s1 es_5
  have fr_9 : ifr σ a σ_4 := (ifr.rf σ a).wq es_5 fs_6
  refine J.dup dX6_init_8 rfl ?_
  refine J.callI0 [] dX6_init_9 mdJx4a65c_init_da8c8 ⟨rfl, rfl⟩ imJx4a65c_init_da8c8 lk_X6_11 rfl rfl rfl rfl (i_List h_8 hJ) ?_
  rintro _ σ_10 ⟨rfl, h_12, fz_11⟩
  have h_13 : σ_10 a = some (.inr (7, [.null, .null])) := fz_11 _ _ h_7 (Nat.ne_of_lt (hl_3 _ _ ha))
  have fr_15 : ifr σ a σ_10 := fr_9.tr fz_11 fs_6
  refine J.putf (fs' := [.ref q_1, .null]) dX6_init_12 fp_X6_12 (fun _ => rfl) h_13 rfl rfl (Nat.le_of_ble_eq_true rfl) rfl ?_
  obtain ⟨σ_16, es_17⟩ : ∃ z, z = kup σ_10 a (.inr (7, [.ref q_1, .null])) := ⟨_, rfl⟩
  rw [← es_17]
  have h_18 : σ_16 a = some (.inr (7, [.ref q_1, .null])) := kup_s1 es_17
  have h_19 : σ_16 q_1 = some (kLi ([])) := kup_i1 es_17 (Ne.symm (Nat.ne_of_lt (hl_3 _ _ ha))) h_12
  have fr_20 : ifr σ a σ_16 := fr_15.wa es_17
  refine J.aload_nR dX6_init_15 rfl ?_
  refine J.less (bc' := 0 + 1) (bs' := 0 + 3) (by omega) (by omega) ?_
  refine J.new dX6_init_16 nw_X6_9 (fun q_21 hb_22 hl_23 => ?_)
  obtain ⟨σ_24, es_25⟩ : ∃ z, z = kup σ_16 q_21 (.inr (0, [.int 0, .null, .int 0])) := ⟨_, rfl⟩
  rw [← es_25]
  have fs_26 : ifs σ q_21 := ifs.mk fr_20 h_18 hl_23
  have h_27 : σ_24 a = some (.inr (7, [.ref q_1, .null])) := kup_i1 es_25 (Nat.ne_of_lt (hl_23 _ _ h_18)) h_18
  have h_28 : σ_24 q_1 = some (kLi ([])) := kup_i1 es_25 (Nat.ne_of_lt (hl_23 _ _ h_19)) h_19
  have h_29 : σ_24 q_21 = some (.inr (0, [.int 0, .null, .int 0])) := kup_s1 es_25
  have fr_30 : ifr σ a σ_24 := fr_20.wq es_25 fs_26
  refine J.dup dX6_init_19 rfl ?_
  refine J.callI0 [] dX6_init_20 mdJx4a65c_init_da8c8 ⟨rfl, rfl⟩ imJx4a65c_init_da8c8 lk_X6_11 rfl rfl rfl rfl (i_List h_29 hJ) ?_
  rintro _ σ_31 ⟨rfl, h_33, fz_32⟩
  have h_34 : σ_31 a = some (.inr (7, [.ref q_1, .null])) := fz_32 _ _ h_27 (Nat.ne_of_lt (hl_23 _ _ h_18))
  have h_35 : σ_31 q_1 = some (kLi ([])) := fz_32 _ _ h_28 (Nat.ne_of_lt (hl_23 _ _ h_19))
  have fr_37 : ifr σ a σ_31 := fr_30.tr fz_32 fs_26
  refine J.putf (fs' := [.ref q_1, .ref q_21]) dX6_init_23 fp_X6_18 (fun _ => rfl) h_34 rfl rfl (Nat.le_of_ble_eq_true rfl) rfl ?_
  obtain ⟨σ_38, es_39⟩ : ∃ z, z = kup σ_31 a (.inr (7, [.ref q_1, .ref q_21])) := ⟨_, rfl⟩
  rw [← es_39]
  have h_40 : σ_38 a = some (.inr (7, [.ref q_1, .ref q_21])) := kup_s1 es_39
  have h_41 : σ_38 q_1 = some (kLi ([])) := kup_i1 es_39 (Ne.symm (Nat.ne_of_lt (hl_3 _ _ ha))) h_35
  have h_42 : σ_38 q_21 = some (kLi ([])) := kup_i1 es_39 (Ne.symm (Nat.ne_of_lt (hl_23 _ _ h_18))) h_33
  have fr_43 : ifr σ a σ_38 := fr_37.wa es_39
  refine J.vret dX6_init_26 rfl ?_
  exact ⟨rfl, q_1, q_21, fs_6, (hl_23 _ _ h_19), h_40, h_41, h_42, fr_43⟩

theorem i_Sha {Λ : kL} {σ : kh} {a : Nat} (ha : σ a = some (.inr (9, [.null, .null, .null]))) : jCt Λ mX8_init 4 118 [.ref a] σ (fun v σ' => v = none ∧ ∃ q1 q2 q3 q4, ifs σ q1 ∧ q1 < q2 ∧ q2 < q3 ∧ q3 < q4 ∧ σ' a = some (.inr (9, [.ref q1, .ref q2, .ref q3])) ∧ σ' q1 = some (aI 8 (fun _ => 0)) ∧ σ' q2 = some (aI 64 (fun _ => 0)) ∧ σ' q3 = some (oT q4 0 0) ∧ σ' q4 = some (aB 43 (fun _ => 0)) ∧ ifr σ a σ') := by
  refine jCt.of pn_X8 [some (.ref a)] rfl (Nat.le_of_ble_eq_true rfl) fun X => ?_
  refine J.aload_nR dX8_init_0 rfl ?_
  refine J.objInit dX8_init_1 lo_X8_3 oi_im oi_co rfl rfl ?_
  refine J.aload_nR dX8_init_4 rfl ?_
  refine J.bipush (v := 8) dX8_init_5 (by decide) ?_
  refine J.less (bc' := 3 + 1) (bs' := 110 + 8) (by omega) (by omega) ?_
  refine J.newI (n := 8) dX8_init_7 ay_1 rfl (by decide) (fun q_1 hb_2 hl_3 => ?_)
  obtain ⟨σ_4, es_5⟩ : ∃ z, z = kup σ q_1 (aI 8 (fun _ => 0)) := ⟨_, rfl⟩
  rw [← es_5]
  have fs_6 : ifs σ q_1 := ifs.mk (ifr.rf σ a) ha hl_3
  have h_7 : σ_4 a = some (.inr (9, [.null, .null, .null])) := kup_i1 es_5 (Nat.ne_of_lt (hl_3 _ _ ha)) ha
  have h_8 : σ_4 q_1 = some (aI 8 (fun _ => 0)) := kup_s1 es_5
  have fr_9 : ifr σ a σ_4 := (ifr.rf σ a).wq es_5 fs_6
  refine J.putf (fs' := [.ref q_1, .null, .null]) dX8_init_9 fp_X8_9 (fun _ => rfl) h_7 rfl rfl (Nat.le_of_ble_eq_true rfl) rfl ?_
  obtain ⟨σ_10, es_11⟩ : ∃ z, z = kup σ_4 a (.inr (9, [.ref q_1, .null, .null])) := ⟨_, rfl⟩
  rw [← es_11]
  have h_12 : σ_10 a = some (.inr (9, [.ref q_1, .null, .null])) := kup_s1 es_11
  have h_13 : σ_10 q_1 = some (aI 8 (fun _ => 0)) := kup_i1 es_11 (Ne.symm (Nat.ne_of_lt (hl_3 _ _ ha))) h_8
  have fr_14 : ifr σ a σ_10 := fr_9.wa es_11
  refine J.aload_nR dX8_init_12 rfl ?_
  refine J.bipush (v := 64) dX8_init_13 (by decide) ?_
  refine J.less (bc' := 2 + 1) (bs' := 46 + 64) (by omega) (by omega) ?_
  refine J.newI (n := 64) dX8_init_15 ay_1 rfl (by decide) (fun q_15 hb_16 hl_17 => ?_)
  obtain ⟨σ_18, es_19⟩ : ∃ z, z = kup σ_10 q_15 (aI 64 (fun _ => 0)) := ⟨_, rfl⟩
  rw [← es_19]
  have fs_20 : ifs σ q_15 := ifs.mk fr_14 h_12 hl_17
  have h_21 : σ_18 a = some (.inr (9, [.ref q_1, .null, .null])) := kup_i1 es_19 (Nat.ne_of_lt (hl_17 _ _ h_12)) h_12
  have h_22 : σ_18 q_1 = some (aI 8 (fun _ => 0)) := kup_i1 es_19 (Nat.ne_of_lt (hl_17 _ _ h_13)) h_13
  have h_23 : σ_18 q_15 = some (aI 64 (fun _ => 0)) := kup_s1 es_19
  have fr_24 : ifr σ a σ_18 := fr_14.wq es_19 fs_20
  refine J.putf (fs' := [.ref q_1, .ref q_15, .null]) dX8_init_17 fp_X8_15 (fun _ => rfl) h_21 rfl rfl (Nat.le_of_ble_eq_true rfl) rfl ?_
  obtain ⟨σ_25, es_26⟩ : ∃ z, z = kup σ_18 a (.inr (9, [.ref q_1, .ref q_15, .null])) := ⟨_, rfl⟩
  rw [← es_26]
  have h_27 : σ_25 a = some (.inr (9, [.ref q_1, .ref q_15, .null])) := kup_s1 es_26
  have h_28 : σ_25 q_1 = some (aI 8 (fun _ => 0)) := kup_i1 es_26 (Ne.symm (Nat.ne_of_lt (hl_3 _ _ ha))) h_22
  have h_29 : σ_25 q_15 = some (aI 64 (fun _ => 0)) := kup_i1 es_26 (Ne.symm (Nat.ne_of_lt (hl_17 _ _ h_12))) h_23
  have fr_30 : ifr σ a σ_25 := fr_24.wa es_26
  refine J.aload_nR dX8_init_20 rfl ?_
  refine J.less (bc' := 1 + 1) (bs' := 43 + 3) (by omega) (by omega) ?_
  refine J.new dX8_init_21 nw_X8_18 (fun q_31 hb_32 hl_33 => ?_)
  obtain ⟨σ_34, es_35⟩ : ∃ z, z = kup σ_25 q_31 (.inr (10, [.null, .int 0, .int 0])) := ⟨_, rfl⟩
  rw [← es_35]
  have fs_36 : ifs σ q_31 := ifs.mk fr_30 h_27 hl_33
  have h_37 : σ_34 a = some (.inr (9, [.ref q_1, .ref q_15, .null])) := kup_i1 es_35 (Nat.ne_of_lt (hl_33 _ _ h_27)) h_27
  have h_38 : σ_34 q_1 = some (aI 8 (fun _ => 0)) := kup_i1 es_35 (Nat.ne_of_lt (hl_33 _ _ h_28)) h_28
  have h_39 : σ_34 q_15 = some (aI 64 (fun _ => 0)) := kup_i1 es_35 (Nat.ne_of_lt (hl_33 _ _ h_29)) h_29
  have h_40 : σ_34 q_31 = some (.inr (10, [.null, .int 0, .int 0])) := kup_s1 es_35
  have fr_41 : ifr σ a σ_34 := fr_30.wq es_35 fs_36
  refine J.dup dX8_init_24 rfl ?_
  refine J.bipush (v := 43) dX8_init_25 (by decide) ?_
  refine J.less (bc' := 0 + 1) (bs' := 0 + 43) (by omega) (by omega) ?_
  refine J.callI [.int (nI 43)] dX8_init_27 mdX9_init ⟨rfl, rfl⟩ imX9_init lk_X8_20 rfl rfl rfl rfl (i_Text h_40 (m := 43) (by decide)) ?_
  rintro _ σ_46 ⟨rfl, q_42, ks_43, ol_44, h_48, h_45, fz_47⟩
  have h_49 : σ_46 a = some (.inr (9, [.ref q_1, .ref q_15, .null])) := fz_47 _ _ h_37 (Nat.ne_of_lt (hl_33 _ _ h_27))
  have h_50 : σ_46 q_1 = some (aI 8 (fun _ => 0)) := fz_47 _ _ h_38 (Nat.ne_of_lt (hl_33 _ _ h_28))
  have h_51 : σ_46 q_15 = some (aI 64 (fun _ => 0)) := fz_47 _ _ h_39 (Nat.ne_of_lt (hl_33 _ _ h_29))
  have fr_53 : ifr σ a σ_46 := fr_41.tr fz_47 fs_36
  have fs_54 : ifs σ q_42 := ifs.mk fr_41 h_37 ks_43
  refine J.putf (fs' := [.ref q_1, .ref q_15, .ref q_31]) dX8_init_30 fp_X8_23 (fun _ => rfl) h_49 rfl rfl (Nat.le_of_ble_eq_true rfl) rfl ?_
  obtain ⟨σ_55, es_56⟩ : ∃ z, z = kup σ_46 a (.inr (9, [.ref q_1, .ref q_15, .ref q_31])) := ⟨_, rfl⟩
  rw [← es_56]
  have h_57 : σ_55 a = some (.inr (9, [.ref q_1, .ref q_15, .ref q_31])) := kup_s1 es_56
  have h_58 : σ_55 q_1 = some (aI 8 (fun _ => 0)) := kup_i1 es_56 (Ne.symm (Nat.ne_of_lt (hl_3 _ _ ha))) h_50
  have h_59 : σ_55 q_15 = some (aI 64 (fun _ => 0)) := kup_i1 es_56 (Ne.symm (Nat.ne_of_lt (hl_17 _ _ h_12))) h_51
  have h_60 : σ_55 q_31 = some (.inr (10, [.ref q_42, .int 0, .int 0])) := kup_i1 es_56 (Ne.symm (Nat.ne_of_lt (hl_33 _ _ h_27))) h_48
  have h_61 : σ_55 q_42 = some (aB 43 (fun _ => 0)) := kup_i1 es_56 (Ne.symm (Nat.ne_of_lt (ks_43 _ _ h_37))) h_45
  have fr_62 : ifr σ a σ_55 := fr_53.wa es_56
  refine J.vret dX8_init_33 rfl ?_
  exact ⟨rfl, q_1, q_15, q_31, q_42, fs_6, (hl_17 _ _ h_13), (hl_33 _ _ h_29), ol_44, h_57, h_58, h_59, h_60, h_61, fr_62⟩
