/-! the reference: its calls -/
theorem tl_upd {f : Nat → Int32} {v l : List Int32} (h : tl f 0 v.length = v) : tl (updl f v.length l) 0 (v ++ l).length = v ++ l := by
  refine tl_bs.mpr fun i hi => ?_
  rw [List.length_append] at hi
  rw [Nat.zero_add, List.getD_eq_getElem?_getD]
  by_cases e : i < v.length
  · rw [updl_out (Or.inl e), List.getElem?_append_left e, ← List.getD_eq_getElem?_getD]
    exact tl_at0 h e
  · have h9 := updl_in (f := f) (i := v.length) (l := l) (j := i - v.length) (by omega)
    rw [show v.length + (i - v.length) = i by omega] at h9
    rw [h9, List.getElem?_append_right (by omega), List.getD_eq_getElem?_getD]
theorem by_upd {f : Nat → Int32} {i : Nat} {l : List Int32} (hf : ∀ j, b8 (f j) = f j) (hl : bts l) : ∀ j, b8 (updl f i l j) = updl f i l j := by
  intro j
  by_cases e : i ≤ j ∧ j < i + l.length
  · rw [updl, if_pos e]
    exact bts_at hl (by omega)
  · rw [updl, if_neg e]
    exact hf j
theorem bts_dby (d : List Int32) (k : Nat) : bts (dby d k) := by
  intro x hx
  obtain ⟨j, -, e⟩ := List.mem_map.mp hx
  rw [← e, b8_b8]
theorem bts_app {a b : List Int32} (ha : bts a) (hb : bts b) : bts (a ++ b) := fun x hx => (List.mem_append.mp hx).elim (ha x) (hb x)
theorem bts_take {a : List Int32} (n : Nat) (ha : bts a) : bts (a.take n) := fun x hx => ha x (List.mem_of_mem_take hx)
theorem bts_drop {a : List Int32} (n : Nat) (ha : bts a) : bts (a.drop n) := fun x hx => ha x (List.mem_of_mem_drop hx)
theorem bts_nil : bts [] := fun _ h => by cases h
theorem tl_take {f : Nat → Int32} {v : List Int32} {n : Nat} (h : tl f 0 v.length = v) (hn : n ≤ v.length) : tl f 0 (v.take n).length = v.take n := by
  refine tl_bs.mpr fun i hi => ?_
  rw [List.length_take, Nat.min_eq_left hn] at hi
  rw [Nat.zero_add, tl_at0 h (by omega), List.getD_eq_getElem?_getD, List.getD_eq_getElem?_getD, List.getElem?_take_of_lt hi]
theorem lcmp_gt {a b n : Nat} (ha : a < 2 ^ 31) (hb : b < 2 ^ 31) (hn : n < 2 ^ 31) : (0 < lg_cmp ((nI a).toInt64 + (nI b).toInt64) (nI n).toInt64) ↔ n < a + b := by
  rw [nI_l ha, nI_l hb, nI_l hn, lN_add, lg_cmp]
  have e : (lN (a + b) > lN n) ↔ n < a + b := by
    show lN n < lN (a + b) ↔ _
    rw [Int64.lt_iff_toInt_lt, lN, lN, Int64.toInt_ofNat_of_lt (by omega), Int64.toInt_ofNat_of_lt (by omega)]
    omega
  by_cases h : n < a + b
  · rw [if_pos (e.mpr h)]
    exact ⟨fun _ => h, fun _ => by decide⟩
  · rw [if_neg (fun q => h (e.mp q))]
    refine ⟨fun q => absurd q ?_, fun q => absurd q h⟩
    by_cases e2 : lN (a + b) = lN n
    · rw [if_pos e2]; decide
    · rw [if_neg e2]; decide
theorem le_nI {x : Int32} {n : Nat} (h0 : ¬ x < 0) (hn : n < 2 ^ 31) : x ≤ nI n ↔ x.toNatClampNeg ≤ n := by
  obtain ⟨j, hj, e⟩ := nI_of h0
  rw [e, nI_clamp hj]
  exact nI_leI hj hn
theorem nle0 {x : Int32} (h : 0 ≤ x) : ¬ x < 0 := Int32.not_lt.mpr h
section PS
variable {Λ : kL} {m : Nat} {A : Nat → Nat} {I : Nat → Int32} {F : Nat → Nat → Int32} {N : Nat → Int32} {B : Nat → List Int32} {T R : Nat → List (List Int32)}
theorem p_status (hA : mInj A) (hR : mR I F N B T R) : mCt Λ mX12_status m A [.ref m] I F (mP (N 5, 0, N, B, T, R)) := (m_status hA).mono fun r I' F' ⟨e1, e2, e3⟩ => by
  subst e1; subst e2; subst e3
  obtain ⟨q_a, q_b, q_n, q_w, q_c, q_r, q_x, q_q, q_k, q_f, q_t⟩ := hR
  exact ⟨by rw [q_n.1], rfl, q_a, q_b, q_n, q_w, q_c, q_r, q_x, q_q, q_k, q_f, q_t⟩
theorem p_error (hA : mInj A) (hR : mR I F N B T R) : mCt Λ mX12_error m A [.ref m] I F (mP (N 6, 0, N, B, T, R)) := (m_error hA).mono fun r I' F' ⟨e1, e2, e3⟩ => by
  subst e1; subst e2; subst e3
  obtain ⟨q_a, q_b, q_n, q_w, q_c, q_r, q_x, q_q, q_k, q_f, q_t⟩ := hR
  exact ⟨by rw [q_n.2.1], rfl, q_a, q_b, q_n, q_w, q_c, q_r, q_x, q_q, q_k, q_f, q_t⟩
theorem p_outs (hA : mInj A) (hR : mR I F N B T R) : mCt Λ mX12_outs m A [.ref m] I F (mP (nI (B 1).length, 0, N, B, T, R)) := (m_outs hA).mono fun r I' F' ⟨e1, e2, e3⟩ => by
  subst e1; subst e2; subst e3
  obtain ⟨q_a, q_b, q_n, q_w, q_c, q_r, q_x, q_q, q_k, q_f, q_t⟩ := hR
  exact ⟨by rw [q_b.1], rfl, q_a, q_b, q_n, q_w, q_c, q_r, q_x, q_q, q_k, q_f, q_t⟩
theorem p_out (hA : mInj A) (hR : mR I F N B T R) (hW : wf N B T R) (x : Int32) : mCt Λ mX12_out m A [.ref m, .int x] I F (mP (opOut N B T R x)) := (m_out hA x hR.2.1.1 (by have := hW.1.2.2.1; omega)).mono fun r I' F' ⟨e1, e2, e3⟩ => by
  subst e1; subst e2; subst e3
  obtain ⟨q_a, q_b, q_n, q_w, q_c, q_r, q_x, q_q, q_k, q_f, q_t⟩ := hR
  refine ⟨congrArg (fun z => some (Value.int z)) ?_, rfl, q_a, q_b, q_n, q_w, q_c, q_r, q_x, q_q, q_k, q_f, q_t⟩
  rw [opOut]
  by_cases h : 0 ≤ x ∧ x < nI (B 1).length
  · rw [if_pos h, if_pos h]
    rw [tl_at0 q_b.2 (oix_lt (nle0 h.1) h.2 (by have := hW.1.2.2.1; omega))]
  · rw [if_neg h, if_neg h]
theorem p_end (hA : mInj A) (hR : mR I F N B T R) (hW : wf N B T R) (x : Int32) : mCt Λ mX12_end m A [.ref m, .int x] I F (mP (opEnd N B T R x)) := (m_end hA x).mono fun r I' F' ⟨e1, e2, e3⟩ => by
  subst e1; subst e2; subst e3
  obtain ⟨q_a, q_b, q_n, q_w, q_c, q_r, q_x, q_q, q_k, q_f, q_t⟩ := hR
  have hl := hW.1.1
  rw [opEnd, q_a.1]
  by_cases h : 0 ≤ x ∧ x ≤ nI (B 0).length
  · rw [if_pos h, if_pos h, if_pos h]
    have hx := (le_nI (nle0 h.1) (by omega)).mp h.2
    refine ⟨rfl, rfl, ⟨?_, tl_take q_a.2.1 hx, q_a.2.2⟩, q_b, q_n, q_w, q_c, q_r, q_x, q_q, q_k, q_f, q_t⟩
    show x = nI ((B 0).take x.toNatClampNeg).length
    rw [List.length_take, Nat.min_eq_left hx]
    exact oix_eq (nle0 h.1)
  · rw [if_neg h, if_neg h, if_neg h]
    exact ⟨rfl, rfl, q_a, q_b, q_n, q_w, q_c, q_r, q_x, q_q, q_k, q_f, q_t⟩
end PS
theorem drop_at1 {v : List Int32} {a x k : Nat} (h1 : k < x) (h : a + x ≤ v.length) : (v.drop a).take x = (v.drop a).take x := rfl
theorem dt_at {v : List Int32} {a x k : Nat} (h1 : k < x) (h : a + x ≤ v.length) : ((v.drop a).take x).getD k 0 = v.getD (a + k) 0 := by
  rw [List.getD_eq_getElem?_getD, List.getElem?_take_of_lt h1, List.getElem?_drop, List.getD_eq_getElem?_getD]
theorem dt_len {v : List Int32} {a x : Nat} (h : a + x ≤ v.length) : ((v.drop a).take x).length = x := by
  rw [List.length_take, List.length_drop, Nat.min_eq_left (by omega)]
theorem alln_b {p : Nat → Bool} {b : Bool} {k : Nat} {x : Bool} (hb : b = (x && alln p k)) : (b && p k) = (x && alln p (k + 1)) := by rw [hb, alln_s, Bool.and_assoc]

theorem p_feed {Λ : kL} {m : Nat} {A : Nat → Nat} {I : Nat → Int32} {F : Nat → Nat → Int32} (hA : mInj A) {N : Nat → Int32} {B : Nat → List Int32} {T R : Nat → List (List Int32)} (hR : mR I F N B T R) (hW : wf N B T R) (a b c d e : Int32) : mCt Λ mX12_feed m A [.ref m, .int a, .int b, .int c, .int d, .int e] I F (mP (opFeed N B T R a b c d e)) := by
  refine mCt.of hA pn_X12 [some (.ref m), some (.int a), some (.int b), some (.int c), some (.int d), some (.int e), none] rfl (Nat.le_of_ble_eq_true rfl) fun X => ?_
  obtain ⟨q_a, q_b, q_n, q_w, q_c, q_r, q_x, q_q, q_k, q_f, q_t⟩ := hR
  obtain ⟨w_a, w_n, w_w, w_c, w_r, w_x, w_q, w_k, w_f, w_t, w_m⟩ := hW
  have hl := w_a.1
  have h5 : ∀ j, j < 5 → (updF (updF (updF (updF (updF F 70 0 a) 70 1 b) 70 2 c) 70 3 d) 70 4 e) 70 j = [a, b, c, d, e].getD j 0 := fun j hj => by rcases j with _ | _ | _ | _ | _ | j; rfl; rfl; rfl; rfl; rfl; omega
  refine M.aload_nR dX12_feed_0 rfl ?_
  refine M.iconst (v := 0) dX12_feed_1 (by decide) ?_
  refine M.puti dX12_feed_2 fp_X12_188 rfl rfl ?_
  refine M.aload_nR dX12_feed_5 rfl ?_
  refine M.geti (v := nI (B 0).length) dX12_feed_6 fl_X12_348 rfl rfl q_a.1 ?_
  refine M.bipush (v := 20) dX12_feed_9 (by decide) ?_
  refine M.iadd dX12_feed_11 ?_
  rw [show (nI (B 0).length) + 20 = nI ((B 0).length + 20) from nI_add (B 0).length 20]
  refine M.sipush (v := 2000) dX12_feed_12 (by decide) ?_
  refine M.icmp_le (tgt := 20) dX12_feed_15 (by decide) (fun c_15 => ?_) (fun c_15 => ?_)
  · skip
    have hle : (B 0).length + 20 ≤ 2000 := (nI_leI (b := 2000) (by omega) (by omega)).mp c_15
    refine M.aload_nR dX12_feed_20 rfl ?_
    refine M.getr dX12_feed_21 fl_X12_173 rfl rfl ?_
    refine M.iconst (v := 0) dX12_feed_24 (by decide) ?_
    refine M.iload_n dX12_feed_25 rfl ?_
    refine M.iast (k9 := 70) (j := 0) dX12_feed_26 rfl rfl rfl (show 0 < 5 by omega) ?_
    refine M.aload_nR dX12_feed_27 rfl ?_
    refine M.getr dX12_feed_28 fl_X12_173 rfl rfl ?_
    refine M.iconst (v := 1) dX12_feed_31 (by decide) ?_
    refine M.iload_n dX12_feed_32 rfl ?_
    refine M.iast (k9 := 70) (j := 1) dX12_feed_33 rfl rfl rfl (show 1 < 5 by omega) ?_
    refine M.aload_nR dX12_feed_34 rfl ?_
    refine M.getr dX12_feed_35 fl_X12_173 rfl rfl ?_
    refine M.iconst (v := 2) dX12_feed_38 (by decide) ?_
    refine M.iload_n dX12_feed_39 rfl ?_
    refine M.iast (k9 := 70) (j := 2) dX12_feed_40 rfl rfl rfl (show 2 < 5 by omega) ?_
    refine M.aload_nR dX12_feed_41 rfl ?_
    refine M.getr dX12_feed_42 fl_X12_173 rfl rfl ?_
    refine M.iconst (v := 3) dX12_feed_45 (by decide) ?_
    refine M.iload dX12_feed_46 rfl ?_
    refine M.iast (k9 := 70) (j := 3) dX12_feed_48 rfl rfl rfl (show 3 < 5 by omega) ?_
    refine M.aload_nR dX12_feed_49 rfl ?_
    refine M.getr dX12_feed_50 fl_X12_173 rfl rfl ?_
    refine M.iconst (v := 4) dX12_feed_53 (by decide) ?_
    refine M.iload dX12_feed_54 rfl ?_
    refine M.iast (k9 := 70) (j := 4) dX12_feed_56 rfl rfl rfl (show 4 < 5 by omega) ?_
    refine M.iconst (v := 0) dX12_feed_57 (by decide) ?_
    refine M.istore (L' := [some (.ref m), some (.int a), some (.int b), some (.int c), some (.int d), some (.int e), some (.int 0)]) dX12_feed_58 (by decide) rfl rfl ?_
    have cut_60 : ∀ (k_60 : Nat) (k : Nat), (k ≤ 20) → (21 ≤ k + k_60) → M Λ X mX12_feed m A (mP (opFeed N B T R a b c d e)) (upd I 0 0) (setF (updF (updF (updF (updF (updF F 70 0 a) 70 1 b) 70 2 c) 70 3 d) 70 4 e) 1 (updl (F 1) (B 0).length (dby [a, b, c, d, e] k))) 60 [some (.ref m), some (.int a), some (.int b), some (.int c), some (.int d), some (.int e), some (.int (nI k))] [] := by
      intro k_60
      induction k_60 with
      | zero => intro k h1 h2; exact absurd h2 (by omega)
      | succ k_60 ih_60 =>
        intro k h1 h2
        refine M.iload dX12_feed_60 rfl ?_
        refine M.bipush (v := 20) dX12_feed_62 (by decide) ?_
        refine M.icmp_ge (tgt := 106) dX12_feed_64 (by decide) (fun c_64 => ?_) (fun c_64 => ?_)
        · skip
          have e1 := nI_gen (n := 20) c_64 h1 (by omega); subst e1
          refine M.aload_nR dX12_feed_106 rfl ?_
          refine M.dup dX12_feed_107 rfl ?_
          refine M.geti (v := nI (B 0).length) dX12_feed_108 fl_X12_348 rfl rfl q_a.1 ?_
          refine M.bipush (v := 20) dX12_feed_111 (by decide) ?_
          refine M.iadd dX12_feed_113 ?_
          rw [show (nI (B 0).length) + 20 = nI ((B 0).length + 20) from nI_add (B 0).length 20]
          refine M.puti dX12_feed_114 fp_X12_348 rfl rfl ?_
          refine M.aload_nR dX12_feed_117 rfl ?_
          refine M.geti (v := nI ((B 0).length + 20)) dX12_feed_118 fl_X12_348 rfl rfl rfl ?_
          refine M.iret dX12_feed_121 rfl ?_
          rw [opFeed, if_neg (by omega)]
          refine ⟨rfl, rfl, ⟨?_, tl_upd q_a.2.1, by_upd q_a.2.2 (bts_dby _ _)⟩, q_b, q_n, q_w, q_c, q_r, q_x, q_q, q_k, q_f, q_t⟩
          show nI ((B 0).length + 20) = nI (B 0 ++ dby [a, b, c, d, e] 20).length
          rw [List.length_append, dby_len]
        · skip
          have lt_k : k < 20 := nI_ltn (n := 20) c_64 (by omega) (by omega)
          refine M.aload_nR dX12_feed_67 rfl ?_
          refine M.getr dX12_feed_68 fl_X12_9 rfl rfl ?_
          refine M.aload_nR dX12_feed_71 rfl ?_
          refine M.geti (v := nI (B 0).length) dX12_feed_72 fl_X12_348 rfl rfl q_a.1 ?_
          refine M.iload dX12_feed_75 rfl ?_
          refine M.iadd dX12_feed_77 ?_
          rw [show (nI (B 0).length) + (nI k) = nI ((B 0).length + k) from nI_add ((B 0).length) k]
          refine M.aload_nR dX12_feed_78 rfl ?_
          refine M.getr dX12_feed_79 fl_X12_173 rfl rfl ?_
          refine M.iload dX12_feed_82 rfl ?_
          refine M.iconst (v := 4) dX12_feed_84 (by decide) ?_
          refine M.idiv dX12_feed_85 (by decide) ?_
          rw [show (nI k) / 4 = nI (k / 4) from pk_div (by omega) (by decide) (by decide)]
          refine M.ialdv (k9 := 70) (j := k / 4) (g := (updF (updF (updF (updF (updF F 70 0 a) 70 1 b) 70 2 c) 70 3 d) 70 4 e) 70) (v := [a, b, c, d, e].getD (k / 4) 0) dX12_feed_86 rfl rfl rfl rfl (show k / 4 < 5 by omega) (h5 (k / 4) (by omega)) ?_
          refine M.bipush (v := 24) dX12_feed_87 (by decide) ?_
          refine M.bipush (v := 8) dX12_feed_89 (by decide) ?_
          refine M.iload dX12_feed_91 rfl ?_
          refine M.iconst (v := 4) dX12_feed_93 (by decide) ?_
          refine M.irem dX12_feed_94 (by decide) ?_
          rw [show (nI k) - (nI k) / 4 * 4 = nI (k % 4) from pk_rem (by omega) (by decide) (by decide)]
          refine M.imul dX12_feed_95 ?_
          rw [show 8 * (nI (k % 4)) = nI (8 * (k % 4)) from nI_mulc 8 (k % 4)]
          refine M.isub dX12_feed_96 ?_
          rw [show 24 - (nI (8 * (k % 4))) = nI (24 - 8 * (k % 4)) from pk_sub (a := 24) (by omega)]
          refine M.ishr dX12_feed_97 ?_
          refine M.i2b8 dX12_feed_98 ?_
          refine M.bast1 (k9 := 1) (j := (B 0).length + (dby [a, b, c, d, e] k).length) dX12_feed_99 rfl rfl (by rw [dby_len]) (show (B 0).length + (dby [a, b, c, d, e] k).length < 2000 by rw [dby_len]; omega) (b8_b8 _) ?_
          rw [updF_set, updl_snoc, ← dby_s]
          refine M.iinc (v := nI (k + 1)) (L' := [some (.ref m), some (.int a), some (.int b), some (.int c), some (.int d), some (.int e), some (.int (nI (k + 1)))]) dX12_feed_100 rfl (nI_1 k) (by decide) rfl rfl ?_
          refine M.goto (tgt := 60) dX12_feed_103 (by decide) ?_
          exact ih_60 (k + 1) (by omega) (by omega)
    have t9 := cut_60 21 0 (by omega) (by omega)
    rw [show dby [a, b, c, d, e] 0 = [] from rfl, updl_nil, show setF (updF (updF (updF (updF (updF F 70 0 a) 70 1 b) 70 2 c) 70 3 d) 70 4 e) 1 (F 1) = (updF (updF (updF (updF (updF F 70 0 a) 70 1 b) 70 2 c) 70 3 d) 70 4 e) from setF_self (updF (updF (updF (updF (updF F 70 0 a) 70 1 b) 70 2 c) 70 3 d) 70 4 e) 1] at t9
    exact t9
  · skip
    have hgt : 2000 < (B 0).length + 20 := Nat.lt_of_not_le fun q => c_15 ((nI_leI (b := 2000) (by omega) (by omega)).mpr q)
    refine M.iconst (v := (-1)) dX12_feed_18 (by decide) ?_
    refine M.iret dX12_feed_19 rfl ?_
    rw [opFeed, if_pos hgt]
    exact ⟨rfl, rfl, q_a, q_b, q_n, q_w, q_c, q_r, q_x, q_q, q_k, q_f, q_t⟩

theorem p_again {Λ : kL} {m : Nat} {A : Nat → Nat} {I : Nat → Int32} {F : Nat → Nat → Int32} (hA : mInj A) {N : Nat → Int32} {B : Nat → List Int32} {T R : Nat → List (List Int32)} (hR : mR I F N B T R) (hW : wf N B T R) (f x : Int32) : mCt Λ mX12_again m A [.ref m, .int f, .int x] I F (mP (opAgain N B T R f x)) := by
  refine mCt.of hA pn_X12 [some (.ref m), some (.int f), some (.int x), none] rfl (Nat.le_of_ble_eq_true rfl) fun X => ?_
  obtain ⟨q_a, q_b, q_n, q_w, q_c, q_r, q_x, q_q, q_k, q_f, q_t⟩ := hR
  obtain ⟨w_a, w_n, w_w, w_c, w_r, w_x, w_q, w_k, w_f, w_t, w_m⟩ := hW
  have hl := w_a.1
  have hl1 := w_a.2.2.1
  refine M.aload_nR dX12_again_0 rfl ?_
  refine M.iconst (v := 0) dX12_again_1 (by decide) ?_
  refine M.puti dX12_again_2 fp_X12_188 rfl rfl ?_
  refine M.iload_n dX12_again_5 rfl ?_
  refine M.if_lt (tgt := 39) dX12_again_6 (by decide) (fun c_6 => ?_) (fun c_6 => ?_)
  · skip
    refine M.iconst (v := (-1)) dX12_again_39 (by decide) ?_
    refine M.iret dX12_again_40 rfl ?_
    rw [opAgain, if_pos (by first | exact Or.inl c_6 | exact Or.inr (Or.inl c_10) | exact Or.inr (Or.inr (Or.inl hgt)) | exact Or.inr (Or.inr (Or.inr hgt2)))]
    exact ⟨rfl, rfl, q_a, q_b, q_n, q_w, q_c, q_r, q_x, q_q, q_k, q_f, q_t⟩
  · skip
    have hf0 : ¬ f < 0 := c_6
    refine M.iload_n dX12_again_9 rfl ?_
    refine M.if_lt (tgt := 39) dX12_again_10 (by decide) (fun c_10 => ?_) (fun c_10 => ?_)
    · skip
      refine M.iconst (v := (-1)) dX12_again_39 (by decide) ?_
      refine M.iret dX12_again_40 rfl ?_
      rw [opAgain, if_pos (by first | exact Or.inl c_6 | exact Or.inr (Or.inl c_10) | exact Or.inr (Or.inr (Or.inl hgt)) | exact Or.inr (Or.inr (Or.inr hgt2)))]
      exact ⟨rfl, rfl, q_a, q_b, q_n, q_w, q_c, q_r, q_x, q_q, q_k, q_f, q_t⟩
    · skip
      have hx0 : ¬ x < 0 := c_10
      have hcf : f.toNatClampNeg < 2 ^ 31 := by obtain ⟨j, hj, e⟩ := nI_of hf0; rw [e, nI_clamp hj]; exact hj
      have hcx : x.toNatClampNeg < 2 ^ 31 := by obtain ⟨j, hj, e⟩ := nI_of hx0; rw [e, nI_clamp hj]; exact hj
      have hcm := lcmp_gt (n := (B 1).length) hcf hcx (by omega)
      rw [← oix_eq hf0, ← oix_eq hx0] at hcm
      refine M.iload_n dX12_again_13 rfl ?_
      refine M.i2l dX12_again_14 ?_
      refine M.iload_n dX12_again_15 rfl ?_
      refine M.i2l dX12_again_16 ?_
      refine M.ladd dX12_again_17 ?_
      refine M.aload_nR dX12_again_18 rfl ?_
      refine M.geti (v := nI (B 1).length) dX12_again_19 fl_X12_296 rfl rfl q_b.1 ?_
      refine M.i2l dX12_again_22 ?_
      refine M.lcmp dX12_again_23 ?_
      refine M.if_gt (tgt := 39) dX12_again_24 (by decide) (fun c_24 => ?_) (fun c_24 => ?_)
      · skip
        have hgt := hcm.mp c_24
        refine M.iconst (v := (-1)) dX12_again_39 (by decide) ?_
        refine M.iret dX12_again_40 rfl ?_
        rw [opAgain, if_pos (by first | exact Or.inl c_6 | exact Or.inr (Or.inl c_10) | exact Or.inr (Or.inr (Or.inl hgt)) | exact Or.inr (Or.inr (Or.inr hgt2)))]
        exact ⟨rfl, rfl, q_a, q_b, q_n, q_w, q_c, q_r, q_x, q_q, q_k, q_f, q_t⟩
      · skip
        have hle : f.toNatClampNeg + x.toNatClampNeg ≤ (B 1).length := Nat.le_of_not_lt fun q => c_24 (hcm.mpr q)
        refine M.aload_nR dX12_again_27 rfl ?_
        refine M.geti (v := nI (B 0).length) dX12_again_28 fl_X12_348 rfl rfl q_a.1 ?_
        refine M.iload_n dX12_again_31 rfl ?_
        refine M.iadd dX12_again_32 ?_
        rw [show (nI (B 0).length) + x = nI ((B 0).length + x.toNatClampNeg) from (by have h9 := nI_add (B 0).length x.toNatClampNeg; rwa [← oix_eq hx0] at h9)]
        refine M.sipush (v := 2000) dX12_again_33 (by decide) ?_
        refine M.icmp_le (tgt := 41) dX12_again_36 (by decide) (fun c_36 => ?_) (fun c_36 => ?_)
        · skip
          have hle2 : (B 0).length + x.toNatClampNeg ≤ 2000 := (nI_leI (b := 2000) (by omega) (by omega)).mp c_36
          refine M.iconst (v := 0) dX12_again_41 (by decide) ?_
          refine M.istore_n (L' := [some (.ref m), some (.int f), some (.int x), some (.int 0)]) dX12_again_42 (by decide) rfl rfl ?_
          have cut_43 : ∀ (k_43 : Nat) (k : Nat), (k ≤ x.toNatClampNeg) → (x.toNatClampNeg + 1 ≤ k + k_43) → M Λ X mX12_again m A (mP (opAgain N B T R f x)) (upd I 0 0) (setF F 1 (updl (F 1) (B 0).length ((((B 1).drop f.toNatClampNeg).take x.toNatClampNeg).take k))) 43 [some (.ref m), some (.int (nI f.toNatClampNeg)), some (.int (nI x.toNatClampNeg)), some (.int (nI k))] [] := by
            intro k_43
            induction k_43 with
            | zero => intro k h1 h2; exact absurd h2 (by omega)
            | succ k_43 ih_43 =>
              intro k h1 h2
              have htl : ((((B 1).drop f.toNatClampNeg).take x.toNatClampNeg).take k).length = k := by rw [List.length_take, dt_len hle, Nat.min_eq_left h1]
              refine M.iload_n dX12_again_43 rfl ?_
              refine M.iload_n dX12_again_44 rfl ?_
              refine M.icmp_ge (tgt := 73) dX12_again_45 (by decide) (fun c_45 => ?_) (fun c_45 => ?_)
              · skip
                have e1 := nI_gen c_45 h1 (by omega); subst e1
                rw [List.take_of_length_le (by rw [dt_len hle]; exact Nat.le_refl _)]
                refine M.aload_nR dX12_again_73 rfl ?_
                refine M.dup dX12_again_74 rfl ?_
                refine M.geti (v := nI (B 0).length) dX12_again_75 fl_X12_348 rfl rfl q_a.1 ?_
                refine M.iload_n dX12_again_78 rfl ?_
                refine M.iadd dX12_again_79 ?_
                rw [show (nI (B 0).length) + (nI x.toNatClampNeg) = nI ((B 0).length + x.toNatClampNeg) from nI_add (B 0).length x.toNatClampNeg]
                refine M.puti dX12_again_80 fp_X12_348 rfl rfl ?_
                refine M.aload_nR dX12_again_83 rfl ?_
                refine M.geti (v := nI ((B 0).length + x.toNatClampNeg)) dX12_again_84 fl_X12_348 rfl rfl rfl ?_
                refine M.iret dX12_again_87 rfl ?_
                rw [opAgain, if_neg (fun q => q.elim hf0 (fun q => q.elim hx0 (fun q => q.elim (fun z => by omega) (fun z => by omega))))]
                refine ⟨rfl, rfl, ⟨?_, tl_upd q_a.2.1, by_upd q_a.2.2 (bts_take _ (bts_drop _ w_a.2.2.2))⟩, q_b, q_n, q_w, q_c, q_r, q_x, q_q, q_k, q_f, q_t⟩
                show nI ((B 0).length + x.toNatClampNeg) = nI (B 0 ++ (((B 1).drop f.toNatClampNeg).take x.toNatClampNeg)).length
                rw [List.length_append, dt_len hle]
              · skip
                have lt_k : k < x.toNatClampNeg := nI_ltn c_45 (by omega) (by omega)
                refine M.aload_nR dX12_again_48 rfl ?_
                refine M.getr dX12_again_49 fl_X12_9 rfl rfl ?_
                refine M.aload_nR dX12_again_52 rfl ?_
                refine M.geti (v := nI (B 0).length) dX12_again_53 fl_X12_348 rfl rfl q_a.1 ?_
                refine M.iload_n dX12_again_56 rfl ?_
                refine M.iadd dX12_again_57 ?_
                rw [show (nI (B 0).length) + (nI k) = nI ((B 0).length + k) from nI_add ((B 0).length) k]
                refine M.aload_nR dX12_again_58 rfl ?_
                refine M.getr dX12_again_59 fl_X12_13 rfl rfl ?_
                refine M.iload_n dX12_again_62 rfl ?_
                refine M.iload_n dX12_again_63 rfl ?_
                refine M.iadd dX12_again_64 ?_
                rw [show (nI f.toNatClampNeg) + (nI k) = nI (f.toNatClampNeg + k) from nI_add f.toNatClampNeg k]
                refine M.baldv (k9 := 3) (j := f.toNatClampNeg + k) (g := F 3) (v := (((B 1).drop f.toNatClampNeg).take x.toNatClampNeg).getD k 0) dX12_again_65 rfl rfl rfl rfl (show f.toNatClampNeg + k < 8000 by omega) (by rw [dt_at lt_k hle]; exact tl_at0 q_b.2 (by omega)) ?_
                refine M.bast1 (k9 := 1) (j := (B 0).length + ((((B 1).drop f.toNatClampNeg).take x.toNatClampNeg).take k).length) dX12_again_66 rfl rfl (by rw [htl]) (show (B 0).length + ((((B 1).drop f.toNatClampNeg).take x.toNatClampNeg).take k).length < 2000 by rw [htl]; omega) (bts_at (bts_take _ (bts_drop _ w_a.2.2.2)) (by rw [dt_len hle]; exact lt_k)) ?_
                rw [updF_set, updl_snoc, ← take_at (by rw [dt_len hle]; exact lt_k)]
                refine M.iinc (v := nI (k + 1)) (L' := [some (.ref m), some (.int (nI f.toNatClampNeg)), some (.int (nI x.toNatClampNeg)), some (.int (nI (k + 1)))]) dX12_again_67 rfl (nI_1 k) (by decide) rfl rfl ?_
                refine M.goto (tgt := 43) dX12_again_70 (by decide) ?_
                exact ih_43 (k + 1) (by omega) (by omega)
          have t9 := cut_43 (x.toNatClampNeg + 1) 0 (by omega) (by omega)
          rw [List.take_zero, updl_nil, setF_self, ← oix_eq hf0, ← oix_eq hx0] at t9
          exact t9
        · skip
          have hgt2 : 2000 < (B 0).length + x.toNatClampNeg := Nat.lt_of_not_le fun q => c_36 ((nI_leI (b := 2000) (by omega) (by omega)).mpr q)
          refine M.iconst (v := (-1)) dX12_again_39 (by decide) ?_
          refine M.iret dX12_again_40 rfl ?_
          rw [opAgain, if_pos (by first | exact Or.inl c_6 | exact Or.inr (Or.inl c_10) | exact Or.inr (Or.inr (Or.inl hgt)) | exact Or.inr (Or.inr (Or.inr hgt2)))]
          exact ⟨rfl, rfl, q_a, q_b, q_n, q_w, q_c, q_r, q_x, q_q, q_k, q_f, q_t⟩

theorem p_lives {Λ : kL} {m : Nat} {A : Nat → Nat} {I : Nat → Int32} {F : Nat → Nat → Int32} (hA : mInj A) {N : Nat → Int32} {B : Nat → List Int32} {T R : Nat → List (List Int32)} (hR : mR I F N B T R) (hW : wf N B T R) (a b c : Int32) : mCt Λ mX12_lives m A [.ref m, .int a, .int b, .int c] I F (fun r I' F' => r = none ∧ I' 0 = (opLives N B T R a b c).2.1 ∧ mR I' F' (opLives N B T R a b c).2.2.1 (opLives N B T R a b c).2.2.2.1 (opLives N B T R a b c).2.2.2.2.1 (opLives N B T R a b c).2.2.2.2.2) := by
  refine mCt.of hA pn_X12 [some (.ref m), some (.int a), some (.int b), some (.int c)] rfl (Nat.le_of_ble_eq_true rfl) fun X => ?_
  obtain ⟨q_a, q_b, q_n, q_w, q_c, q_r, q_x, q_q, q_k, q_f, q_t⟩ := hR
  refine M.aload_nR dX12_lives_0 rfl ?_
  refine M.iconst (v := 0) dX12_lives_1 (by decide) ?_
  refine M.puti dX12_lives_2 fp_X12_188 rfl rfl ?_
  refine M.aload_nR dX12_lives_5 rfl ?_
  refine M.iload_n dX12_lives_6 rfl ?_
  refine M.callJ (v := .int (bI (lifeb a))) [.int a] dX12_lives_7 mdX12_isLife ssX12_isLife lk_X12_362 rfl rfl rfl rfl (fun σ9 => m_isLife a) ?_
  refine M.if_eq (tgt := 27) dX12_lives_10 (by decide) (fun c_10 => ?_) (fun c_10 => ?_)
  · skip
    refine M.iconst (v := 1) dX12_lives_27 (by decide) ?_
    refine M.goto (tgt := 32) dX12_lives_28 (by decide) ?_
    refine M.iconst (v := 1) dX12_lives_32 (by decide) ?_
    refine M.callV [.int 1, .int 1] dX12_lives_33 mdX12_throwsIf imX12_throwsIf seX12_throwsIf lk_X12_357 rfl rfl rfl rfl (m_throwsIf hA true 1) ?_
    rintro _ I9 F9 ⟨rfl, e9, e8⟩
    have e9 := e9.symm; subst e9; have e8 := e8.symm; subst e8
    refine M.if_eq (tgt := 40) dX12_lives_36 (by decide) (fun c_36 => absurd c_36 (by decide)) (fun c_36 => ?_)
    refine M.vret dX12_lives_39 rfl ?_
    have hc9 : (lifeb a && lifeb b && lifeb c) = false := by first | rw [(bI_eq0 _).mp c_10, Bool.false_and, Bool.false_and] | rw [(bI_eq0 _).mp c_17, Bool.and_false, Bool.false_and] | rw [(bI_eq0 _).mp c_24, Bool.and_false]
    rw [opLives, if_pos hc9]
    exact ⟨rfl, rfl, q_a, q_b, q_n, q_w, q_c, q_r, q_x, q_q, q_k, q_f, q_t⟩
  · skip
    refine M.iload_n dX12_lives_13 rfl ?_
    refine M.callJ (v := .int (bI (lifeb b))) [.int b] dX12_lives_14 mdX12_isLife ssX12_isLife lk_X12_362 rfl rfl rfl rfl (fun σ9 => m_isLife b) ?_
    refine M.if_eq (tgt := 27) dX12_lives_17 (by decide) (fun c_17 => ?_) (fun c_17 => ?_)
    · skip
      refine M.iconst (v := 1) dX12_lives_27 (by decide) ?_
      refine M.goto (tgt := 32) dX12_lives_28 (by decide) ?_
      refine M.iconst (v := 1) dX12_lives_32 (by decide) ?_
      refine M.callV [.int 1, .int 1] dX12_lives_33 mdX12_throwsIf imX12_throwsIf seX12_throwsIf lk_X12_357 rfl rfl rfl rfl (m_throwsIf hA true 1) ?_
      rintro _ I9 F9 ⟨rfl, e9, e8⟩
      have e9 := e9.symm; subst e9; have e8 := e8.symm; subst e8
      refine M.if_eq (tgt := 40) dX12_lives_36 (by decide) (fun c_36 => absurd c_36 (by decide)) (fun c_36 => ?_)
      refine M.vret dX12_lives_39 rfl ?_
      have hc9 : (lifeb a && lifeb b && lifeb c) = false := by first | rw [(bI_eq0 _).mp c_10, Bool.false_and, Bool.false_and] | rw [(bI_eq0 _).mp c_17, Bool.and_false, Bool.false_and] | rw [(bI_eq0 _).mp c_24, Bool.and_false]
      rw [opLives, if_pos hc9]
      exact ⟨rfl, rfl, q_a, q_b, q_n, q_w, q_c, q_r, q_x, q_q, q_k, q_f, q_t⟩
    · skip
      refine M.iload_n dX12_lives_20 rfl ?_
      refine M.callJ (v := .int (bI (lifeb c))) [.int c] dX12_lives_21 mdX12_isLife ssX12_isLife lk_X12_362 rfl rfl rfl rfl (fun σ9 => m_isLife c) ?_
      refine M.if_ne (tgt := 31) dX12_lives_24 (by decide) (fun c_24 => ?_) (fun c_24 => ?_)
      · skip
        refine M.iconst (v := 0) dX12_lives_31 (by decide) ?_
        refine M.iconst (v := 1) dX12_lives_32 (by decide) ?_
        refine M.callV [.int 0, .int 1] dX12_lives_33 mdX12_throwsIf imX12_throwsIf seX12_throwsIf lk_X12_357 rfl rfl rfl rfl (m_throwsIf hA false 1) ?_
        rintro _ I9 F9 ⟨rfl, e9, e8⟩
        have e9 := e9.symm; subst e9; have e8 := e8.symm; subst e8
        refine M.if_eq (tgt := 40) dX12_lives_36 (by decide) (fun c_36 => ?_) (fun c_36 => absurd rfl c_36)
        refine M.aload_nR dX12_lives_40 rfl ?_
        refine M.iload_n dX12_lives_41 rfl ?_
        refine M.puti dX12_lives_42 fp_X12_60 rfl rfl ?_
        refine M.aload_nR dX12_lives_45 rfl ?_
        refine M.iload_n dX12_lives_46 rfl ?_
        refine M.puti dX12_lives_47 fp_X12_64 rfl rfl ?_
        refine M.aload_nR dX12_lives_50 rfl ?_
        refine M.iload_n dX12_lives_51 rfl ?_
        refine M.puti dX12_lives_52 fp_X12_67 rfl rfl ?_
        refine M.vret dX12_lives_55 rfl ?_
        have hc9 : ¬ (lifeb a && lifeb b && lifeb c) = false := by rw [bt1 c_10, bt1 c_17, bt1 c_24]; decide
        rw [opLives, if_neg hc9]
        exact ⟨rfl, rfl, q_a, q_b, ⟨q_n.1, q_n.2.1, q_n.2.2.1, rfl, rfl, rfl⟩, q_w, q_c, q_r, q_x, q_q, q_k, q_f, q_t⟩
      · skip
        refine M.iconst (v := 1) dX12_lives_27 (by decide) ?_
        refine M.goto (tgt := 32) dX12_lives_28 (by decide) ?_
        refine M.iconst (v := 1) dX12_lives_32 (by decide) ?_
        refine M.callV [.int 1, .int 1] dX12_lives_33 mdX12_throwsIf imX12_throwsIf seX12_throwsIf lk_X12_357 rfl rfl rfl rfl (m_throwsIf hA true 1) ?_
        rintro _ I9 F9 ⟨rfl, e9, e8⟩
        have e9 := e9.symm; subst e9; have e8 := e8.symm; subst e8
        refine M.if_eq (tgt := 40) dX12_lives_36 (by decide) (fun c_36 => absurd c_36 (by decide)) (fun c_36 => ?_)
        refine M.vret dX12_lives_39 rfl ?_
        have hc9 : (lifeb a && lifeb b && lifeb c) = false := by first | rw [(bI_eq0 _).mp c_10, Bool.false_and, Bool.false_and] | rw [(bI_eq0 _).mp c_17, Bool.and_false, Bool.false_and] | rw [(bI_eq0 _).mp c_24, Bool.and_false]
        rw [opLives, if_pos hc9]
        exact ⟨rfl, rfl, q_a, q_b, q_n, q_w, q_c, q_r, q_x, q_q, q_k, q_f, q_t⟩

theorem upd4 (f : Nat → Int32) (n : Nat) (a b c d : Int32) : updl f n [a, b, c, d] = upd (upd (upd (upd f n a) (n + 1) b) (n + 2) c) (n + 3) d := by
  rw [show [a, b, c, d] = (([a] ++ [b]) ++ [c]) ++ [d] from rfl, ← updl_snoc, ← updl_snoc, ← updl_snoc, updl_one]
  rfl

theorem p_dice {Λ : kL} {m : Nat} {A : Nat → Nat} {I : Nat → Int32} {F : Nat → Nat → Int32} (hA : mInj A) {N : Nat → Int32} {B : Nat → List Int32} {T R : Nat → List (List Int32)} (hR : mR I F N B T R) (hW : wf N B T R) (a b c d : Int32) : mCt Λ mX12_dice m A [.ref m, .int a, .int b, .int c, .int d] I F (mP (opDice N B T R a b c d)) := by
  refine mCt.of hA pn_X12 [some (.ref m), some (.int a), some (.int b), some (.int c), some (.int d)] rfl (Nat.le_of_ble_eq_true rfl) fun X => ?_
  obtain ⟨q_a, q_b, q_n, q_w, q_c, q_r, q_x, q_q, q_k, q_f, q_t⟩ := hR
  obtain ⟨w_a, w_n, w_w, w_c, w_r, w_x, w_q, w_k, w_f, w_t, w_m⟩ := hW
  have hl := w_x.1
  refine M.aload_nR dX12_dice_0 rfl ?_
  refine M.iconst (v := 0) dX12_dice_1 (by decide) ?_
  refine M.puti dX12_dice_2 fp_X12_188 rfl rfl ?_
  refine M.aload_nR dX12_dice_5 rfl ?_
  refine M.geti (v := nI (T 20).length) dX12_dice_6 fl_X12_278 rfl rfl q_x.1 ?_
  refine M.bipush (v := 60) dX12_dice_9 (by decide) ?_
  refine M.icmp_ne (tgt := 16) dX12_dice_11 (by decide) (fun c_11 => ?_) (fun c_11 => ?_)
  · skip
    have n60 : ¬ (T 20).length = 60 := fun q => c_11 ((nI_eq (a := (T 20).length) (b := 60) (by omega) (by omega)).mpr q)
    refine M.aload_nR dX12_dice_16 rfl ?_
    refine M.getr dX12_dice_17 fl_X12_54 rfl rfl ?_
    refine M.iconst (v := 4) dX12_dice_20 (by decide) ?_
    refine M.aload_nR dX12_dice_21 rfl ?_
    refine M.geti (v := nI (T 20).length) dX12_dice_22 fl_X12_278 rfl rfl q_x.1 ?_
    refine M.imul dX12_dice_25 ?_
    rw [show 4 * (nI (T 20).length) = nI (4 * (T 20).length) from nI_mulc 4 ((T 20).length)]
    refine M.iload_n dX12_dice_26 rfl ?_
    refine M.iast (k9 := 21) (j := 4 * (T 20).length) dX12_dice_27 rfl rfl rfl (show 4 * (T 20).length + 0 < 240 by omega) ?_
    refine M.aload_nR dX12_dice_28 rfl ?_
    refine M.getr dX12_dice_29 fl_X12_54 rfl rfl ?_
    refine M.iconst (v := 4) dX12_dice_32 (by decide) ?_
    refine M.aload_nR dX12_dice_33 rfl ?_
    refine M.geti (v := nI (T 20).length) dX12_dice_34 fl_X12_278 rfl rfl q_x.1 ?_
    refine M.imul dX12_dice_37 ?_
    rw [show 4 * (nI (T 20).length) = nI (4 * (T 20).length) from nI_mulc 4 ((T 20).length)]
    refine M.iconst (v := 1) dX12_dice_38 (by decide) ?_
    refine M.iadd dX12_dice_39 ?_
    rw [show (nI (4 * (T 20).length)) + 1 = nI (4 * (T 20).length + 1) from nI_add (4 * (T 20).length) 1]
    refine M.iload_n dX12_dice_40 rfl ?_
    refine M.iast (k9 := 21) (j := 4 * (T 20).length + 1) dX12_dice_41 rfl rfl rfl (show 4 * (T 20).length + 1 < 240 by omega) ?_
    refine M.aload_nR dX12_dice_42 rfl ?_
    refine M.getr dX12_dice_43 fl_X12_54 rfl rfl ?_
    refine M.iconst (v := 4) dX12_dice_46 (by decide) ?_
    refine M.aload_nR dX12_dice_47 rfl ?_
    refine M.geti (v := nI (T 20).length) dX12_dice_48 fl_X12_278 rfl rfl q_x.1 ?_
    refine M.imul dX12_dice_51 ?_
    rw [show 4 * (nI (T 20).length) = nI (4 * (T 20).length) from nI_mulc 4 ((T 20).length)]
    refine M.iconst (v := 2) dX12_dice_52 (by decide) ?_
    refine M.iadd dX12_dice_53 ?_
    rw [show (nI (4 * (T 20).length)) + 2 = nI (4 * (T 20).length + 2) from nI_add (4 * (T 20).length) 2]
    refine M.iload_n dX12_dice_54 rfl ?_
    refine M.iast (k9 := 21) (j := 4 * (T 20).length + 2) dX12_dice_55 rfl rfl rfl (show 4 * (T 20).length + 2 < 240 by omega) ?_
    refine M.aload_nR dX12_dice_56 rfl ?_
    refine M.getr dX12_dice_57 fl_X12_54 rfl rfl ?_
    refine M.iconst (v := 4) dX12_dice_60 (by decide) ?_
    refine M.aload_nR dX12_dice_61 rfl ?_
    refine M.geti (v := nI (T 20).length) dX12_dice_62 fl_X12_278 rfl rfl q_x.1 ?_
    refine M.imul dX12_dice_65 ?_
    rw [show 4 * (nI (T 20).length) = nI (4 * (T 20).length) from nI_mulc 4 ((T 20).length)]
    refine M.iconst (v := 3) dX12_dice_66 (by decide) ?_
    refine M.iadd dX12_dice_67 ?_
    rw [show (nI (4 * (T 20).length)) + 3 = nI (4 * (T 20).length + 3) from nI_add (4 * (T 20).length) 3]
    refine M.iload dX12_dice_68 rfl ?_
    refine M.iast (k9 := 21) (j := 4 * (T 20).length + 3) dX12_dice_70 rfl rfl rfl (show 4 * (T 20).length + 3 < 240 by omega) ?_
    refine M.aload_nR dX12_dice_71 rfl ?_
    refine M.dup dX12_dice_72 rfl ?_
    refine M.geti (v := nI (T 20).length) dX12_dice_73 fl_X12_278 rfl rfl q_x.1 ?_
    refine M.iconst (v := 1) dX12_dice_76 (by decide) ?_
    refine M.iadd dX12_dice_77 ?_
    rw [show (nI (T 20).length) + 1 = nI ((T 20).length + 1) from nI_1 _]
    refine M.puti dX12_dice_78 fp_X12_278 rfl rfl ?_
    refine M.aload_nR dX12_dice_81 rfl ?_
    refine M.geti (v := nI ((T 20).length + 1)) dX12_dice_82 fl_X12_278 rfl rfl rfl ?_
    refine M.iret dX12_dice_85 rfl ?_
    rw [opDice, if_neg n60]
    refine ⟨rfl, rfl, q_a, q_b, q_n, q_w, q_c, q_r, ⟨?_, ?_, q_x.2.2.1, q_x.2.2.2⟩, q_q, q_k, q_f, q_t⟩
    · show nI ((T 20).length + 1) = nI (T 20 ++ [[a, b, c, d]]).length
      rw [List.length_append, List.length_singleton]
    · have h9 := mDi_app q_x.2.1 (d := [a, b, c, d]) rfl
      rw [upd4] at h9
      exact h9
  · skip
    have e60 : (T 20).length = 60 := (nI_eq (a := (T 20).length) (b := 60) (by omega) (by omega)).mp c_11
    refine M.iconst (v := (-1)) dX12_dice_14 (by decide) ?_
    refine M.iret dX12_dice_15 rfl ?_
    rw [opDice, if_pos e60]
    exact ⟨rfl, rfl, q_a, q_b, q_n, q_w, q_c, q_r, q_x, q_q, q_k, q_f, q_t⟩

theorem p_tick {Λ : kL} {m : Nat} {A : Nat → Nat} {I : Nat → Int32} {F : Nat → Nat → Int32} (hA : mInj A) {N : Nat → Int32} {B : Nat → List Int32} {T R : Nat → List (List Int32)} (hR : mR I F N B T R) (hW : wf N B T R) (x : Int32) : mCt Λ mX12_tick m A [.ref m, .int x] I F (mP (opTick N B T R x)) := by
  refine mCt.of hA pn_X12 [some (.ref m), some (.int x)] rfl (Nat.le_of_ble_eq_true rfl) fun X => ?_
  obtain ⟨q_a, q_b, q_n, q_w, q_c, q_r, q_x, q_q, q_k, q_f, q_t⟩ := hR
  obtain ⟨w_a, w_n, w_w, w_c, w_r, w_x, w_q, w_k, w_f, w_t, w_m⟩ := hW
  refine M.aload_nR dX12_tick_0 rfl ?_
  refine M.iconst (v := 0) dX12_tick_1 (by decide) ?_
  refine M.puti dX12_tick_2 fp_X12_188 rfl rfl ?_
  refine M.aload_nR dX12_tick_5 rfl ?_
  refine M.iload_n dX12_tick_6 rfl ?_
  refine M.if_lt (tgt := 17) dX12_tick_7 (by decide) (fun c_7 => ?_) (fun c_7 => ?_)
  · skip
    refine M.iconst (v := 1) dX12_tick_17 (by decide) ?_
    refine M.goto (tgt := 22) dX12_tick_18 (by decide) ?_
    refine M.iconst (v := 1) dX12_tick_22 (by decide) ?_
    refine M.callV [.int 1, .int 1] dX12_tick_23 mdX12_throwsIf imX12_throwsIf seX12_throwsIf lk_X12_357 rfl rfl rfl rfl (m_throwsIf hA true 1) ?_
    rintro _ I9 F9 ⟨rfl, e9, e8⟩
    have e9 := e9.symm; subst e9; have e8 := e8.symm; subst e8
    refine M.if_eq (tgt := 31) dX12_tick_26 (by decide) (fun c_26 => absurd c_26 (by decide)) (fun c_26 => ?_)
    refine M.iconst (v := 0) dX12_tick_29 (by decide) ?_
    refine M.iret dX12_tick_30 rfl ?_
    rw [opTick, if_pos (by first | exact Or.inl c_7 | exact Or.inr (Int32.not_le.mp c_14))]
    exact ⟨rfl, rfl, q_a, q_b, q_n, q_w, q_c, q_r, q_x, q_q, q_k, q_f, q_t⟩
  · skip
    refine M.iload_n dX12_tick_10 rfl ?_
    refine M.ldcw (v := 100000) dX12_tick_11 co_X12_365 ?_
    refine M.icmp_le (tgt := 21) dX12_tick_14 (by decide) (fun c_14 => ?_) (fun c_14 => ?_)
    · skip
      refine M.iconst (v := 0) dX12_tick_21 (by decide) ?_
      refine M.iconst (v := 1) dX12_tick_22 (by decide) ?_
      refine M.callV [.int 0, .int 1] dX12_tick_23 mdX12_throwsIf imX12_throwsIf seX12_throwsIf lk_X12_357 rfl rfl rfl rfl (m_throwsIf hA false 1) ?_
      rintro _ I9 F9 ⟨rfl, e9, e8⟩
      have e9 := e9.symm; subst e9; have e8 := e8.symm; subst e8
      refine M.if_eq (tgt := 31) dX12_tick_26 (by decide) (fun c_26 => ?_) (fun c_26 => absurd rfl c_26)
      refine M.aload_nR dX12_tick_31 rfl ?_
      refine M.dup dX12_tick_32 rfl ?_
      refine M.geti (v := N 25) dX12_tick_33 fl_X12_366 rfl rfl q_n.2.2.1 ?_
      refine M.iload_n dX12_tick_36 rfl ?_
      refine M.iadd dX12_tick_37 ?_
      refine M.puti dX12_tick_38 fp_X12_366 rfl rfl ?_
      refine M.aload_nR dX12_tick_41 rfl ?_
      refine M.geti (v := (N 25) + x) dX12_tick_42 fl_X12_366 rfl rfl rfl ?_
      refine M.iret dX12_tick_45 rfl ?_
      rw [opTick, if_neg (fun q => q.elim c_7 (fun z => absurd c_14 (Int32.not_le.mpr z)))]
      exact ⟨rfl, rfl, q_a, q_b, ⟨q_n.1, q_n.2.1, rfl, q_n.2.2.2.1, q_n.2.2.2.2.1, q_n.2.2.2.2.2⟩, q_w, q_c, q_r, q_x, q_q, q_k, q_f, q_t⟩
    · skip
      refine M.iconst (v := 1) dX12_tick_17 (by decide) ?_
      refine M.goto (tgt := 22) dX12_tick_18 (by decide) ?_
      refine M.iconst (v := 1) dX12_tick_22 (by decide) ?_
      refine M.callV [.int 1, .int 1] dX12_tick_23 mdX12_throwsIf imX12_throwsIf seX12_throwsIf lk_X12_357 rfl rfl rfl rfl (m_throwsIf hA true 1) ?_
      rintro _ I9 F9 ⟨rfl, e9, e8⟩
      have e9 := e9.symm; subst e9; have e8 := e8.symm; subst e8
      refine M.if_eq (tgt := 31) dX12_tick_26 (by decide) (fun c_26 => absurd c_26 (by decide)) (fun c_26 => ?_)
      refine M.iconst (v := 0) dX12_tick_29 (by decide) ?_
      refine M.iret dX12_tick_30 rfl ?_
      rw [opTick, if_pos (by first | exact Or.inl c_7 | exact Or.inr (Int32.not_le.mp c_14))]
      exact ⟨rfl, rfl, q_a, q_b, q_n, q_w, q_c, q_r, q_x, q_q, q_k, q_f, q_t⟩
