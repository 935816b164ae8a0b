/-! Text: numbers, escapes, base64url -/
theorem sixN_bit (p : Nat → Bool) {j : Nat} (hj : j < 6) : (sixN p 6).testBit j = p (5 - j) := by
  simp only [sixN]
  rcases (show j = 0 ∨ j = 1 ∨ j = 2 ∨ j = 3 ∨ j = 4 ∨ j = 5 by omega) with rfl | rfl | rfl | rfl | rfl | rfl <;>
  (cases h0 : p 0 <;> cases h1 : p 1 <;> cases h2 : p 2 <;> cases h3 : p 3 <;> cases h4 : p 4 <;> cases h5 : p 5 <;> simp [h0, h1, h2, h3, h4, h5] <;> decide)
def both (h l : Int32) : Int64 := ((h.toInt64 &&& 4294967295) <<< ((32 : Int32).toInt64 &&& 63)) ||| (l.toInt64 &&& 4294967295)
theorem low_bit {x : Int32} {j : Nat} : (x.toInt64 &&& 4294967295).toBitVec.getLsbD j = (decide (j < 32) && x.toBitVec.getLsbD j) := by
  rw [Int64.toBitVec_and, BitVec.getLsbD_and, Int32.toBitVec_toInt64, BitVec.getLsbD_signExtend]
  have e : (4294967295 : Int64).toBitVec.getLsbD j = decide (j < 32) := by
    have : (4294967295 : Int64).toBitVec = BitVec.ofNat 64 (2 ^ 32 - 1) := by decide
    rw [this, BitVec.getLsbD_ofNat, Nat.testBit_two_pow_sub_one]
    by_cases h : j < 32
    · simp [h, show j < 64 by omega]
    · simp [h]
  rw [e]
  by_cases h : j < 32
  · simp [h, show j < 64 by omega]
  · simp [h]
theorem both_bit {h l : Int32} {j : Nat} (hj : j < 64) : (both h l).toBitVec.getLsbD j = if j < 32 then l.toBitVec.getLsbD j else h.toBitVec.getLsbD (j - 32) := by
  have e : (both h l).toBitVec = ((h.toInt64 &&& 4294967295).toBitVec <<< 32) ||| (l.toInt64 &&& 4294967295).toBitVec := by
    rw [both, Int64.toBitVec_or, Int64.toBitVec_shiftLeft]
    rfl
  rw [e, BitVec.getLsbD_or, BitVec.getLsbD_shiftLeft, low_bit, low_bit]
  by_cases h1 : j < 32
  · simp [h1]
  · rw [if_neg h1]
    simp [h1, hj]
    omega
theorem both_six {h l : Int32} {s : Nat} (hs : s < 32) {p : Nat → Bool} (hp : ∀ i, i < 6 → p i = if s + i < 32 then h.toBitVec.getLsbD (31 - (s + i)) else l.toBitVec.getLsbD (63 - (s + i))) : ((((both h l).toUInt64 >>> ((nI (58 - s)).toInt64.toUInt64 &&& Int64.toUInt64 63)).toInt64).toInt32 &&& 63) = nI (sixN p 6) := by
  apply Int32.toBitVec_inj.mp
  have e1 : ((nI (58 - s)).toInt64.toUInt64 &&& Int64.toUInt64 63).toBitVec.toNat % 64 = 58 - s := (show ∀ s, s < 32 → ((nI (58 - s)).toInt64.toUInt64 &&& Int64.toUInt64 63).toBitVec.toNat % 64 = 58 - s by decide) s hs
  apply BitVec.eq_of_getLsbD_eq
  intro j hj
  rw [Int32.toBitVec_and, BitVec.getLsbD_and, Int64.toBitVec_toInt32, BitVec.getLsbD_signExtend]
  have e63 : (63 : Int32).toBitVec.getLsbD j = decide (j < 6) := (show ∀ j, j < 32 → (63 : Int32).toBitVec.getLsbD j = decide (j < 6) by decide) j hj
  have eR : (nI (sixN p 6)).toBitVec.getLsbD j = (decide (j < 6) && p (5 - j)) := by
    have : (nI (sixN p 6)).toBitVec = BitVec.ofNat 32 (sixN p 6) := rfl
    rw [this, BitVec.getLsbD_ofNat]
    by_cases h6 : j < 6
    · rw [sixN_bit p h6]; simp [hj, h6]
    · have := sixN_lt p 6
      rw [Nat.testBit_lt_two_pow (Nat.lt_of_lt_of_le this (Nat.pow_le_pow_right (by omega) (show 6 ≤ j by omega)))]
      simp [h6]
  rw [e63, eR]
  by_cases h6 : j < 6
  · have eB : ((both h l).toUInt64 >>> ((nI (58 - s)).toInt64.toUInt64 &&& Int64.toUInt64 63)).toInt64.toBitVec.getLsbD j = (both h l).toBitVec.getLsbD (58 - s + j) := by
      show ((both h l).toUInt64 >>> ((nI (58 - s)).toInt64.toUInt64 &&& Int64.toUInt64 63)).toBitVec.getLsbD j = _
      rw [UInt64.toBitVec_shiftRight, BitVec.ushiftRight_eq', BitVec.getLsbD_ushiftRight, BitVec.toNat_umod]
      show (both h l).toBitVec.getLsbD (_ % 64 + j) = _
      rw [e1]
    rw [if_pos (show j < 64 by omega), eB, both_bit (by omega), hp (5 - j) (by omega)]
    by_cases h32 : 58 - s + j < 32
    · rw [if_pos h32, if_neg (by omega), show 63 - (s + (5 - j)) = 58 - s + j by omega]
      simp [h6, hj, show j < 64 by omega]
    · rw [if_neg h32, if_pos (by omega), show 31 - (s + (5 - j)) = 58 - s + j - 32 by omega]
      simp [h6, hj, show j < 64 by omega]
  · simp [h6]

theorem b64c : ∀ j, j < 64 → b8 (sb_base64.getD j 0 &&& 255) = b8 (sgn6 (nI j)) := by decide +kernel
theorem hexc : ∀ j, j < 16 → b8 (sb_0123456789ABCDEF.getD j 0 &&& 255) = b8 (hxc (nI j)) := by decide +kernel
theorem esc_hi : ∀ n, n < 256 → (nI n >>> ((4 : Int32) &&& 31)) &&& 15 = nI (n / 16) ∧ nI n >>> ((4 : Int32) &&& 31) = nI (n / 16) ∧ nI n &&& 15 = nI (n % 16) := by decide +kernel
theorem b255 (x : Int32) : ∃ n, n < 256 ∧ x &&& 255 = nI n := by
  obtain ⟨j, hj, e⟩ := pk_andE x (m := 255) 8 (by decide)
  exact ⟨j, hj, e⟩
theorem b64_s (d : List Int32) (k : Nat) : b64 d (k + 1) = b64 d k ++ [b8 (sgn6 (six (fun i => dbt d (6 * k + i)) 6))] := by rw [b64, b64, List.range_succ, List.map_append]; rfl
theorem dbt_both {d : List Int32} {k i : Nat} (hi : i < 6) : dbt d (6 * k + i) = if 6 * k % 32 + i < 32 then (d.getD (6 * k / 32) 0).toBitVec.getLsbD (31 - (6 * k % 32 + i)) else (d.getD (6 * k / 32 + 1) 0).toBitVec.getLsbD (63 - (6 * k % 32 + i)) := by
  rw [dbt]
  by_cases h : 6 * k % 32 + i < 32
  · rw [if_pos h, show (6 * k + i) / 32 = 6 * k / 32 by omega, show (6 * k + i) % 32 = 6 * k % 32 + i by omega]
  · rw [if_neg h, show (6 * k + i) / 32 = 6 * k / 32 + 1 by omega, show 31 - (6 * k + i) % 32 = 63 - (6 * k % 32 + i) by omega]

theorem c_Text_addNumber {Λ : kL} {σ : kh} {t r b n cap : Nat} {f : Nat → Int32} (ht : σ t = some (oT r (nI b) (nI n))) (hr : σ r = some (aB cap f)) (hc : b + n + 7 ≤ cap) (hm : cap ≤ 100000) {a : Nat} (ha : a ≤ 1000000) : jCt Λ mX9_addNumber 0 0 [.ref t, .int (nI a)] σ (fun v σ' => v = none ∧ σ' = tapp σ t r cap f b n (cdl a 7)) := by
  refine jCt.of pn_X9 [some (.ref t), some (.int (nI a)), none] rfl (Nat.le_of_ble_eq_true rfl) fun X => ?_
  have n_rt : r ≠ t := kne_ao hr ht
  have p10d : ∀ q, 10 ^ (q + 1) / 10 = 10 ^ q := fun q => by rw [Nat.pow_succ, Nat.mul_div_cancel _ (by omega)]
  refine J.ldc (v := 1000000) dX9_addNumber_0 co_X9_46 ?_
  refine J.istore_n (L' := [some (.ref t), some (.int (nI a)), some (.int 1000000)]) dX9_addNumber_2 (by decide) rfl rfl ?_
  have cut_3 : ∀ (k_3 : Nat) (i : Nat) (acc : List Int32), (i ≤ 7) → (i + 1 ≤ k_3) → (acc ++ cdl a i = cdl a 7) → (acc.length + i ≤ 7) → J Λ X mX9_addNumber 0 0 (jZ Λ X (fun v σ' => v = none ∧ σ' = tapp σ t r cap f b n (cdl a 7)) 0 0) 0 0 (tapp σ t r cap f b n acc) 3 [some (.ref t), some (.int (nI a)), some (.int (nI (10 ^ i / 10)))] [] := by
    intro k_3
    induction k_3 with
    | zero => intro i acc h1 h3 hacc hal; exact absurd h3 (by omega)
    | succ k_3 ih_3 =>
      intro i acc h1 h3 hacc hal
      have h_t : (tapp σ t r cap f b n acc) t = some (oT r (nI b) (nI (n + acc.length))) := tapp_t
      have h_r : (tapp σ t r cap f b n acc) r = some (aB cap (updl f (b + n) acc)) := tapp_r n_rt
      rcases i with _ | i
      · skip
        refine J.iload_n dX9_addNumber_3 rfl ?_
        refine J.if_le (tgt := 33) dX9_addNumber_4 (by decide) (fun c_4 => ?_) (fun c_4 => absurd (by decide) c_4)
        refine J.vret dX9_addNumber_33 rfl ?_
        refine ⟨rfl, ?_⟩
        rw [← hacc, cdl, List.append_nil]
      · have hp9 := pw10 (j := i) (by omega)
        rw [p10d]
        refine J.iload_n dX9_addNumber_3 rfl ?_
        refine J.if_le (tgt := 33) dX9_addNumber_4 (by decide) (fun c_4 => absurd c_4 (nI_nle hp9.1 (by omega))) (fun c_4 => ?_)
        refine J.iload_n dX9_addNumber_7 rfl ?_
        refine J.iload_n dX9_addNumber_8 rfl ?_
        refine J.icmp_lt (tgt := 25) dX9_addNumber_9 (by decide) (fun c_9 => ?_) (fun c_9 => ?_)
        · skip
          have hlt : a < 10 ^ i := (nI_ltI (by omega) (by omega)).mp c_9
          refine J.iload_n dX9_addNumber_25 rfl ?_
          refine J.bipush (v := 10) dX9_addNumber_26 (by decide) ?_
          refine J.idiv dX9_addNumber_28 (by decide) ?_
          rw [show (nI (10 ^ i)) / 10 = nI (10 ^ i / 10) from pk_div (by omega) (by decide) (by decide)]
          refine J.istore_n (L' := [some (.ref t), some (.int (nI a)), some (.int (nI (10 ^ i / 10)))]) dX9_addNumber_29 (by decide) rfl rfl ?_
          refine J.goto (tgt := 3) dX9_addNumber_30 (by decide) ?_
          exact ih_3 i acc (by omega) (by omega) (by rw [cdl, if_neg (by omega), List.nil_append] at hacc; exact hacc) (by omega)
        · skip
          have hge : 10 ^ i ≤ a := Nat.le_of_not_lt fun q => c_9 ((nI_ltI (by omega) (by omega)).mpr q)
          refine J.aload_nR dX9_addNumber_12 rfl ?_
          refine J.bipush (v := 48) dX9_addNumber_13 (by decide) ?_
          refine J.iload_n dX9_addNumber_15 rfl ?_
          refine J.iload_n dX9_addNumber_16 rfl ?_
          refine J.idiv dX9_addNumber_17 (nI_ne0 (by omega) (by omega)) ?_
          rw [show (nI a) / (nI (10 ^ i)) = nI (a / 10 ^ i) from pk_div (by omega) (by omega) (by omega)]
          refine J.bipush (v := 10) dX9_addNumber_18 (by decide) ?_
          refine J.irem dX9_addNumber_20 (by decide) ?_
          rw [show (nI (a / 10 ^ i)) - (nI (a / 10 ^ i)) / 10 * 10 = nI (a / 10 ^ i % 10) from pk_rem (Nat.lt_of_le_of_lt (Nat.div_le_self _ _) (by omega)) (by decide) (by decide)]
          refine J.iadd dX9_addNumber_21 ?_
          rw [show 48 + (nI (a / 10 ^ i % 10)) = nI (48 + a / 10 ^ i % 10) from nI_add 48 _]
          refine J.callV0 [.int (nI (48 + a / 10 ^ i % 10))] dX9_addNumber_22 mdX9_add imX9_add seX9_add kc_10 h_t lk_X9_28 rfl rfl rfl rfl (c_Text_add1 h_t h_r (by first | omega | (simp only [List.length_append, List.length_cons, List.length_nil]; omega)) hm (nI (48 + a / 10 ^ i % 10))) ?_
          rintro _ _ ⟨rfl, rfl⟩
          rw [tapp_tapp]
          have h_t : (tapp σ t r cap f b n (acc ++ [b8 (nI (48 + a / 10 ^ i % 10))])) t = some (oT r (nI b) (nI (n + (acc ++ [b8 (nI (48 + a / 10 ^ i % 10))]).length))) := tapp_t
          have h_r : (tapp σ t r cap f b n (acc ++ [b8 (nI (48 + a / 10 ^ i % 10))])) r = some (aB cap (updl f (b + n) (acc ++ [b8 (nI (48 + a / 10 ^ i % 10))]))) := tapp_r n_rt
          refine J.iload_n dX9_addNumber_25 rfl ?_
          refine J.bipush (v := 10) dX9_addNumber_26 (by decide) ?_
          refine J.idiv dX9_addNumber_28 (by decide) ?_
          rw [show (nI (10 ^ i)) / 10 = nI (10 ^ i / 10) from pk_div (by omega) (by decide) (by decide)]
          refine J.istore_n (L' := [some (.ref t), some (.int (nI a)), some (.int (nI (10 ^ i / 10)))]) dX9_addNumber_29 (by decide) rfl rfl ?_
          refine J.goto (tgt := 3) dX9_addNumber_30 (by decide) ?_
          exact ih_3 i _ (by omega) (by omega) (by rw [← hacc, cdl, if_pos hge, List.append_assoc]) (by rw [List.length_append, List.length_singleton]; omega)
  have t9 := cut_3 9 7 [] (by omega) (by omega) (by rw [List.nil_append]) (by rw [List.length_nil]; omega)
  rw [tapp_nil ht hr] at t9
  exact t9

theorem c_Text_addEscaped {Λ : kL} {σ : kh} {t r b n cap : Nat} {f : Nat → Int32} (ht : σ t = some (oT r (nI b) (nI n))) (hr : σ r = some (aB cap f)) (hSt : kSt Λ) {u r2 b2 n2 cap2 : Nat} {f2 : Nat → Int32} (hu : σ u = some (oT r2 (nI b2) (nI n2))) (hr2 : σ r2 = some (aB cap2 f2)) (hc2 : b2 + n2 ≤ cap2) (hm2 : cap2 ≤ 100000) (n_ut : u ≠ t) (n_r2r : r2 ≠ r) (hc : b + n + 3 * n2 ≤ cap) (hm : cap ≤ 100000) : jCt Λ mX9_addEscaped 0 0 [.ref t, .ref u] σ (fun v σ' => v = none ∧ σ' = tapp σ t r cap f b n ((tl f2 b2 n2).flatMap escb)) := by
  refine jCt.of pn_X9 [some (.ref t), some (.ref u), none, none] rfl (Nat.le_of_ble_eq_true rfl) fun X => ?_
  have n_rt : r ≠ t := kne_ao hr ht
  have n_ur : u ≠ r := kne_oa hu hr
  have n_r2t : r2 ≠ t := kne_ao hr2 ht
  refine J.iconst (v := 0) dX9_addEscaped_0 (by decide) ?_
  refine J.istore_n (L' := [some (.ref t), some (.ref u), some (.int 0), none]) dX9_addEscaped_1 (by decide) rfl rfl ?_
  have cut_2 : ∀ (k_2 : Nat) (i : Nat), (i ≤ n2) → (n2 + 1 ≤ i + k_2) → J Λ X mX9_addEscaped 0 0 (jZ Λ X (fun v σ' => v = none ∧ σ' = tapp σ t r cap f b n ((tl f2 b2 n2).flatMap escb)) 0 0) 0 0 (tapp σ t r cap f b n (((tl f2 b2 n2).take i).flatMap escb)) 2 [some (.ref t), some (.ref u), some (.int (nI i)), none] [] := by
    intro k_2
    induction k_2 with
    | zero => intro i h1 h2; exact absurd h2 (by omega)
    | succ k_2 ih_2 =>
      intro i h1 h2
      have hel := esc_le (tl f2 b2 n2) i (by rw [tl_len]; exact h1)
      have h_t : (tapp σ t r cap f b n (((tl f2 b2 n2).take i).flatMap escb)) t = some (oT r (nI b) (nI (n + (((tl f2 b2 n2).take i).flatMap escb).length))) := tapp_t
      have h_r : (tapp σ t r cap f b n (((tl f2 b2 n2).take i).flatMap escb)) r = some (aB cap (updl f (b + n) (((tl f2 b2 n2).take i).flatMap escb))) := tapp_r n_rt
      have h_u : (tapp σ t r cap f b n (((tl f2 b2 n2).take i).flatMap escb)) u = some (oT r2 (nI b2) (nI n2)) := tapp_i n_ut n_ur hu
      have h_r2 : (tapp σ t r cap f b n (((tl f2 b2 n2).take i).flatMap escb)) r2 = some (aB cap2 f2) := tapp_i n_r2t n_r2r hr2
      refine J.iload_n dX9_addEscaped_2 rfl ?_
      refine J.aload_nR dX9_addEscaped_3 rfl ?_
      refine J.getf dX9_addEscaped_4 fl_X9_15 h_u rfl ?_
      refine J.icmp_ge (tgt := 71) dX9_addEscaped_7 (by decide) (fun c_7 => ?_) (fun c_7 => ?_)
      · skip
        refine J.vret dX9_addEscaped_71 rfl ?_
        have e1 := nI_gen c_7 h1 (by omega); subst e1
        refine ⟨rfl, ?_⟩
        rw [List.take_of_length_le (i := i) (l := tl f2 b2 i) (by rw [tl_len]; exact Nat.le_refl _)]
      · skip
        have lt_i : i < n2 := nI_ltn c_7 (by omega) (by omega)
        refine J.aload_nR dX9_addEscaped_10 rfl ?_
        refine J.iload_n dX9_addEscaped_11 rfl ?_
        refine J.callV0 [.int (nI i)] dX9_addEscaped_12 mdX9_at imX9_at seX9_at kc_10 h_u lk_X9_32 rfl rfl rfl rfl (c_Text_atn h_u h_r2 hc2 hm2 lt_i) ?_
        rintro _ σ9 ⟨rfl, e9⟩
        have e9 := e9.symm; subst e9
        refine J.istore_n (L' := [some (.ref t), some (.ref u), some (.int (nI i)), some (.int (f2 (b2 + i) &&& 255))]) dX9_addEscaped_15 (by decide) rfl rfl ?_
        refine J.iload_n dX9_addEscaped_16 rfl ?_
        refine J.callS0 (b := 0) [.int (f2 (b2 + i) &&& 255)] dX9_addEscaped_17 mdX11_isUnreserved ssX11_isUnreserved lk_X9_47 rfl rfl rfl rfl (c_isUnreserved (f2 (b2 + i) &&& 255)) ?_
        rintro _ σ9 ⟨rfl, e9⟩
        have e9 := e9.symm; subst e9
        refine J.if_eq (tgt := 31) dX9_addEscaped_20 (by decide) (fun c_20 => ?_) (fun c_20 => ?_)
        · skip
          have hu9 := (bI_eq0 _).mp c_20
          obtain ⟨n9, hn9, e9x⟩ := b255 (f2 (b2 + i))
          refine J.aload_nR dX9_addEscaped_31 rfl ?_
          refine J.bipush (v := 37) dX9_addEscaped_32 (by decide) ?_
          refine J.callV0 [.int 37] dX9_addEscaped_34 mdX9_add imX9_add seX9_add kc_10 h_t lk_X9_28 rfl rfl rfl rfl (c_Text_add1 h_t h_r (by first | omega | (simp only [List.length_append, List.length_cons, List.length_nil]; omega)) hm 37) ?_
          rintro _ _ ⟨rfl, rfl⟩
          rw [tapp_tapp]
          rw [show b8 37 = 37 from (by decide)]
          have h_u : (tapp σ t r cap f b n ((((tl f2 b2 n2).take i).flatMap escb) ++ [37])) u = some (.inr (10, [.ref r2, .int (nI b2), .int (nI n2)])) := tapp_i n_ut n_ur hu
          have h_r2 : (tapp σ t r cap f b n ((((tl f2 b2 n2).take i).flatMap escb) ++ [37])) r2 = some (aB cap2 f2) := tapp_i n_r2t n_r2r hr2
          have h_t : (tapp σ t r cap f b n ((((tl f2 b2 n2).take i).flatMap escb) ++ [37])) t = some (oT r (nI b) (nI (n + ((((tl f2 b2 n2).take i).flatMap escb) ++ [37]).length))) := tapp_t
          have h_r : (tapp σ t r cap f b n ((((tl f2 b2 n2).take i).flatMap escb) ++ [37])) r = some (aB cap (updl f (b + n) ((((tl f2 b2 n2).take i).flatMap escb) ++ [37]))) := tapp_r n_rt
          refine J.aload_nR dX9_addEscaped_37 rfl ?_
          refine J.ldcS dX9_addEscaped_38 sr_X9_51 ?_
          refine J.iload_n dX9_addEscaped_40 rfl ?_
          refine J.iconst (v := 4) dX9_addEscaped_41 (by decide) ?_
          refine J.ishr dX9_addEscaped_42 ?_
          rw [show (f2 (b2 + i) &&& 255) >>> ((4 : Int32) &&& 31) = (f2 (b2 + i) &&& 255) >>> ((4 : Int32) &&& 31) from rfl]
          refine J.bipush (v := 15) dX9_addEscaped_43 (by decide) ?_
          refine J.iand dX9_addEscaped_45 ?_
          rw [show ((f2 (b2 + i) &&& 255) >>> ((4 : Int32) &&& 31)) &&& 15 = nI (n9 / 16) from (by rw [e9x]; exact (esc_hi n9 hn9).1)]
          refine J.callC0 [.int (nI (n9 / 16))] dX9_addEscaped_46 mdJ0_charAt_5068e imJ0_charAt_5068e seJ0_charAt_5068e (st_X9_51 hSt).O lm_X9_42 rfl rfl rfl rfl (c_charAt (st_X9_51 hSt) (show (n9 / 16) < 16 by omega)) ?_
          rintro _ σ9 ⟨rfl, e9⟩
          have e9 := e9.symm; subst e9
          refine J.callV0 [.int (sb_0123456789ABCDEF.getD (n9 / 16) 0 &&& 255)] dX9_addEscaped_49 mdX9_add imX9_add seX9_add kc_10 h_t lk_X9_28 rfl rfl rfl rfl (c_Text_add1 h_t h_r (by first | omega | (simp only [List.length_append, List.length_cons, List.length_nil]; omega)) hm (sb_0123456789ABCDEF.getD (n9 / 16) 0 &&& 255)) ?_
          rintro _ _ ⟨rfl, rfl⟩
          rw [tapp_tapp]
          rw [show b8 (sb_0123456789ABCDEF.getD (n9 / 16) 0 &&& 255) = b8 (hxc ((f2 (b2 + i) &&& 255) >>> ((4 : Int32) &&& 31))) from (by rw [hexc _ (by omega), e9x, (esc_hi n9 hn9).2.1])]
          have h_u : (tapp σ t r cap f b n (((((tl f2 b2 n2).take i).flatMap escb) ++ [37]) ++ [b8 (hxc ((f2 (b2 + i) &&& 255) >>> ((4 : Int32) &&& 31)))])) u = some (.inr (10, [.ref r2, .int (nI b2), .int (nI n2)])) := tapp_i n_ut n_ur hu
          have h_r2 : (tapp σ t r cap f b n (((((tl f2 b2 n2).take i).flatMap escb) ++ [37]) ++ [b8 (hxc ((f2 (b2 + i) &&& 255) >>> ((4 : Int32) &&& 31)))])) r2 = some (aB cap2 f2) := tapp_i n_r2t n_r2r hr2
          have h_t : (tapp σ t r cap f b n (((((tl f2 b2 n2).take i).flatMap escb) ++ [37]) ++ [b8 (hxc ((f2 (b2 + i) &&& 255) >>> ((4 : Int32) &&& 31)))])) t = some (oT r (nI b) (nI (n + (((((tl f2 b2 n2).take i).flatMap escb) ++ [37]) ++ [b8 (hxc ((f2 (b2 + i) &&& 255) >>> ((4 : Int32) &&& 31)))]).length))) := tapp_t
          have h_r : (tapp σ t r cap f b n (((((tl f2 b2 n2).take i).flatMap escb) ++ [37]) ++ [b8 (hxc ((f2 (b2 + i) &&& 255) >>> ((4 : Int32) &&& 31)))])) r = some (aB cap (updl f (b + n) (((((tl f2 b2 n2).take i).flatMap escb) ++ [37]) ++ [b8 (hxc ((f2 (b2 + i) &&& 255) >>> ((4 : Int32) &&& 31)))]))) := tapp_r n_rt
          refine J.aload_nR dX9_addEscaped_52 rfl ?_
          refine J.ldcS dX9_addEscaped_53 sr_X9_51 ?_
          refine J.iload_n dX9_addEscaped_55 rfl ?_
          refine J.bipush (v := 15) dX9_addEscaped_56 (by decide) ?_
          refine J.iand dX9_addEscaped_58 ?_
          rw [show (f2 (b2 + i) &&& 255) &&& 15 = nI (n9 % 16) from (by rw [e9x]; exact (esc_hi n9 hn9).2.2)]
          refine J.callC0 [.int (nI (n9 % 16))] dX9_addEscaped_59 mdJ0_charAt_5068e imJ0_charAt_5068e seJ0_charAt_5068e (st_X9_51 hSt).O lm_X9_42 rfl rfl rfl rfl (c_charAt (st_X9_51 hSt) (show (n9 % 16) < 16 by omega)) ?_
          rintro _ σ9 ⟨rfl, e9⟩
          have e9 := e9.symm; subst e9
          refine J.callV0 [.int (sb_0123456789ABCDEF.getD (n9 % 16) 0 &&& 255)] dX9_addEscaped_62 mdX9_add imX9_add seX9_add kc_10 h_t lk_X9_28 rfl rfl rfl rfl (c_Text_add1 h_t h_r (by first | omega | (simp only [List.length_append, List.length_cons, List.length_nil]; omega)) hm (sb_0123456789ABCDEF.getD (n9 % 16) 0 &&& 255)) ?_
          rintro _ _ ⟨rfl, rfl⟩
          rw [tapp_tapp]
          rw [show b8 (sb_0123456789ABCDEF.getD (n9 % 16) 0 &&& 255) = b8 (hxc ((f2 (b2 + i) &&& 255) &&& 15)) from (by rw [hexc _ (by omega), e9x, (esc_hi n9 hn9).2.2])]
          have h_u : (tapp σ t r cap f b n ((((((tl f2 b2 n2).take i).flatMap escb) ++ [37]) ++ [b8 (hxc ((f2 (b2 + i) &&& 255) >>> ((4 : Int32) &&& 31)))]) ++ [b8 (hxc ((f2 (b2 + i) &&& 255) &&& 15))])) u = some (.inr (10, [.ref r2, .int (nI b2), .int (nI n2)])) := tapp_i n_ut n_ur hu
          have h_r2 : (tapp σ t r cap f b n ((((((tl f2 b2 n2).take i).flatMap escb) ++ [37]) ++ [b8 (hxc ((f2 (b2 + i) &&& 255) >>> ((4 : Int32) &&& 31)))]) ++ [b8 (hxc ((f2 (b2 + i) &&& 255) &&& 15))])) r2 = some (aB cap2 f2) := tapp_i n_r2t n_r2r hr2
          have h_t : (tapp σ t r cap f b n ((((((tl f2 b2 n2).take i).flatMap escb) ++ [37]) ++ [b8 (hxc ((f2 (b2 + i) &&& 255) >>> ((4 : Int32) &&& 31)))]) ++ [b8 (hxc ((f2 (b2 + i) &&& 255) &&& 15))])) t = some (oT r (nI b) (nI (n + ((((((tl f2 b2 n2).take i).flatMap escb) ++ [37]) ++ [b8 (hxc ((f2 (b2 + i) &&& 255) >>> ((4 : Int32) &&& 31)))]) ++ [b8 (hxc ((f2 (b2 + i) &&& 255) &&& 15))]).length))) := tapp_t
          have h_r : (tapp σ t r cap f b n ((((((tl f2 b2 n2).take i).flatMap escb) ++ [37]) ++ [b8 (hxc ((f2 (b2 + i) &&& 255) >>> ((4 : Int32) &&& 31)))]) ++ [b8 (hxc ((f2 (b2 + i) &&& 255) &&& 15))])) r = some (aB cap (updl f (b + n) ((((((tl f2 b2 n2).take i).flatMap escb) ++ [37]) ++ [b8 (hxc ((f2 (b2 + i) &&& 255) >>> ((4 : Int32) &&& 31)))]) ++ [b8 (hxc ((f2 (b2 + i) &&& 255) &&& 15))]))) := tapp_r n_rt
          refine J.iinc (v := nI (i + 1)) (L' := [some (.ref t), some (.ref u), some (.int (nI (i + 1))), some (.int (f2 (b2 + i) &&& 255))]) dX9_addEscaped_65 rfl (nI_1 i) (by decide) rfl rfl ?_
          refine J.goto (tgt := 2) dX9_addEscaped_68 (by decide) ?_
          refine J.drop (i := 3) (L' := [some (.ref t), some (.ref u), some (.int (nI (i + 1))), none]) rfl ?_
          have t9 := ih_2 (i + 1) (by omega) (by omega)
          rw [fm_take (by rw [tl_len]; exact lt_i), tl_at lt_i, escb_f hu9, ← app3] at t9
          exact t9
        · skip
          have hu9 := bt1 c_20
          refine J.aload_nR dX9_addEscaped_23 rfl ?_
          refine J.iload_n dX9_addEscaped_24 rfl ?_
          refine J.callV0 [.int (f2 (b2 + i) &&& 255)] dX9_addEscaped_25 mdX9_add imX9_add seX9_add kc_10 h_t lk_X9_28 rfl rfl rfl rfl (c_Text_add1 h_t h_r (by first | omega | (simp only [List.length_append, List.length_cons, List.length_nil]; omega)) hm (f2 (b2 + i) &&& 255)) ?_
          rintro _ _ ⟨rfl, rfl⟩
          rw [tapp_tapp]
          have h_u : (tapp σ t r cap f b n ((((tl f2 b2 n2).take i).flatMap escb) ++ [b8 (f2 (b2 + i) &&& 255)])) u = some (.inr (10, [.ref r2, .int (nI b2), .int (nI n2)])) := tapp_i n_ut n_ur hu
          have h_r2 : (tapp σ t r cap f b n ((((tl f2 b2 n2).take i).flatMap escb) ++ [b8 (f2 (b2 + i) &&& 255)])) r2 = some (aB cap2 f2) := tapp_i n_r2t n_r2r hr2
          have h_t : (tapp σ t r cap f b n ((((tl f2 b2 n2).take i).flatMap escb) ++ [b8 (f2 (b2 + i) &&& 255)])) t = some (oT r (nI b) (nI (n + ((((tl f2 b2 n2).take i).flatMap escb) ++ [b8 (f2 (b2 + i) &&& 255)]).length))) := tapp_t
          have h_r : (tapp σ t r cap f b n ((((tl f2 b2 n2).take i).flatMap escb) ++ [b8 (f2 (b2 + i) &&& 255)])) r = some (aB cap (updl f (b + n) ((((tl f2 b2 n2).take i).flatMap escb) ++ [b8 (f2 (b2 + i) &&& 255)]))) := tapp_r n_rt
          refine J.goto (tgt := 65) dX9_addEscaped_28 (by decide) ?_
          refine J.iinc (v := nI (i + 1)) (L' := [some (.ref t), some (.ref u), some (.int (nI (i + 1))), some (.int (f2 (b2 + i) &&& 255))]) dX9_addEscaped_65 rfl (nI_1 i) (by decide) rfl rfl ?_
          refine J.goto (tgt := 2) dX9_addEscaped_68 (by decide) ?_
          refine J.drop (i := 3) (L' := [some (.ref t), some (.ref u), some (.int (nI (i + 1))), none]) rfl ?_
          have t9 := ih_2 (i + 1) (by omega) (by omega)
          rw [fm_take (by rw [tl_len]; exact lt_i), tl_at lt_i, escb_t hu9] at t9
          exact t9
  have t9 := cut_2 (n2 + 1) 0 (by omega) (by omega)
  rw [List.take_zero, List.flatMap_nil, tapp_nil ht hr] at t9
  exact t9

theorem c_Text_addBase64 {Λ : kL} {σ : kh} {t r b n cap : Nat} {f : Nat → Int32} (ht : σ t = some (oT r (nI b) (nI n))) (hr : σ r = some (aB cap f)) (hSt : kSt Λ) {a len : Nat} {g : Nat → Int32} (ha : σ a = some (aI len g)) (hl : len ≤ 8) (n_ar : a ≠ r) (hc : b + n + ((32 * len + 5) / 6) ≤ cap) (hm : cap ≤ 100000) : jCt Λ mX9_addBase64 0 0 [.ref t, .ref a] σ (fun v σ' => v = none ∧ σ' = tapp σ t r cap f b n (b64 (tl g 0 len) ((32 * len + 5) / 6))) := by
  refine jCt.of pn_X9 [some (.ref t), some (.ref a), none, none, none, none, none, none, none, none, none] rfl (Nat.le_of_ble_eq_true rfl) fun X => ?_
  have n_rt : r ≠ t := kne_ao hr ht
  have n_at : a ≠ t := kne_ao ha ht
  refine J.aload_nR dX9_addBase64_0 rfl ?_
  refine J.alen (v := nI len) dX9_addBase64_1 ha (by decide) rfl ?_
  refine J.bipush (v := 32) dX9_addBase64_2 (by decide) ?_
  refine J.imul dX9_addBase64_4 ?_
  rw [show (nI len) * 32 = nI (32 * len) from (by rw [Int32.mul_comm]; exact nI_mulc 32 len)]
  refine J.istore_n (L' := [some (.ref t), some (.ref a), some (.int (nI (32 * len))), none, none, none, none, none, none, none, none]) dX9_addBase64_5 (by decide) rfl rfl ?_
  refine J.iconst (v := 0) dX9_addBase64_6 (by decide) ?_
  refine J.istore_n (L' := [some (.ref t), some (.ref a), some (.int (nI (32 * len))), some (.int 0), none, none, none, none, none, none, none]) dX9_addBase64_7 (by decide) rfl rfl ?_
  have cut_8 : ∀ (k_8 : Nat) (k : Nat), (k ≤ ((32 * len + 5) / 6)) → (((32 * len + 5) / 6) + 1 ≤ k + k_8) → J Λ X mX9_addBase64 0 0 (jZ Λ X (fun v σ' => v = none ∧ σ' = tapp σ t r cap f b n (b64 (tl g 0 len) ((32 * len + 5) / 6))) 0 0) 0 0 (tapp σ t r cap f b n (b64 (tl g 0 len) k)) 8 [some (.ref t), some (.ref a), some (.int (nI (32 * len))), some (.int (nI (6 * k))), none, none, none, none, none, none, none] [] := by
    intro k_8
    induction k_8 with
    | zero => intro k h1 h2; exact absurd h2 (by omega)
    | succ k_8 ih_8 =>
      intro k h1 h2
      have hbl := b64_len (tl g 0 len) k
      have h_t : (tapp σ t r cap f b n (b64 (tl g 0 len) k)) t = some (oT r (nI b) (nI (n + (b64 (tl g 0 len) k).length))) := tapp_t
      have h_r : (tapp σ t r cap f b n (b64 (tl g 0 len) k)) r = some (aB cap (updl f (b + n) (b64 (tl g 0 len) k))) := tapp_r n_rt
      have h_a : (tapp σ t r cap f b n (b64 (tl g 0 len) k)) a = some (aI len g) := tapp_i n_at n_ar ha
      refine J.iload_n dX9_addBase64_8 rfl ?_
      refine J.iload_n dX9_addBase64_9 rfl ?_
      refine J.icmp_ge (tgt := 95) dX9_addBase64_10 (by decide) (fun c_10 => ?_) (fun c_10 => ?_)
      · skip
        refine J.vret dX9_addBase64_95 rfl ?_
        have e1 : k = ((32 * len + 5) / 6) := by have := (nI_leI (by omega) (by omega)).mp c_10; omega
        subst e1
        exact ⟨rfl, rfl⟩
      · skip
        have lt_k : 6 * k < 32 * len := nI_ltn c_10 (by omega) (by omega)
        refine J.iload_n dX9_addBase64_13 rfl ?_
        refine J.bipush (v := 32) dX9_addBase64_14 (by decide) ?_
        refine J.idiv dX9_addBase64_16 (by decide) ?_
        rw [show (nI (6 * k)) / 32 = nI (6 * k / 32) from pk_div (by omega) (by decide) (by decide)]
        refine J.istore (L' := [some (.ref t), some (.ref a), some (.int (nI (32 * len))), some (.int (nI (6 * k))), some (.int (nI (6 * k / 32))), none, none, none, none, none, none]) dX9_addBase64_17 (by decide) rfl rfl ?_
        refine J.aload_nR dX9_addBase64_19 rfl ?_
        refine J.iload dX9_addBase64_20 rfl ?_
        refine J.iaload (j := 6 * k / 32) dX9_addBase64_22 h_a rfl (by omega) (by omega) ?_
        refine J.i2l dX9_addBase64_23 ?_
        refine J.ldc2 (v := 4294967295) dX9_addBase64_24 co_X9_53 ?_
        refine J.land dX9_addBase64_27 ?_
        refine J.lstore (L' := [some (.ref t), some (.ref a), some (.int (nI (32 * len))), some (.int (nI (6 * k))), some (.int (nI (6 * k / 32))), some (.long (((g (6 * k / 32)).toInt64) &&& 4294967295)), none, none, none, none, none]) dX9_addBase64_28 (by decide) rfl rfl ?_
        refine J.iload dX9_addBase64_30 rfl ?_
        refine J.iconst (v := 1) dX9_addBase64_32 (by decide) ?_
        refine J.iadd dX9_addBase64_33 ?_
        rw [show (nI (6 * k / 32)) + 1 = nI (6 * k / 32 + 1) from nI_1 _]
        refine J.aload_nR dX9_addBase64_34 rfl ?_
        refine J.alen (v := nI len) dX9_addBase64_35 h_a (by decide) rfl ?_
        refine J.icmp_ge (tgt := 53) dX9_addBase64_36 (by decide) (fun c_36 => ?_) (fun c_36 => ?_)
        · skip
          have hk1 : ¬ 6 * k / 32 + 1 < len := by have := (nI_leI (by omega) (by omega)).mp c_36; omega
          have hlo : ((tl g 0 len)).getD (6 * k / 32 + 1) 0 = 0 := by rw [List.getD_eq_getElem?_getD, List.getElem?_eq_none (by rw [tl_len]; omega)]; rfl
          refine J.lconst (v := 0) dX9_addBase64_53 (by decide) ?_
          refine J.lstore (L' := [some (.ref t), some (.ref a), some (.int (nI (32 * len))), some (.int (nI (6 * k))), some (.int (nI (6 * k / 32))), some (.long (((g (6 * k / 32)).toInt64) &&& 4294967295)), none, some (.long 0), none, none, none]) dX9_addBase64_54 (by decide) rfl rfl ?_
          refine J.lload dX9_addBase64_56 rfl ?_
          refine J.bipush (v := 32) dX9_addBase64_58 (by decide) ?_
          refine J.lshl dX9_addBase64_60 rfl ?_
          refine J.lload dX9_addBase64_61 rfl ?_
          refine J.lor dX9_addBase64_63 ?_
          refine J.lstore (L' := [some (.ref t), some (.ref a), some (.int (nI (32 * len))), some (.int (nI (6 * k))), some (.int (nI (6 * k / 32))), some (.long (((g (6 * k / 32)).toInt64) &&& 4294967295)), none, some (.long 0), none, some (.long (((((g (6 * k / 32)).toInt64) &&& 4294967295) <<< ((32 : Int32).toInt64 &&& 63)) ||| 0)), none]) dX9_addBase64_64 (by decide) rfl rfl ?_
          refine J.aload_nR dX9_addBase64_66 rfl ?_
          refine J.ldcS dX9_addBase64_67 sr_X9_55 ?_
          refine J.lload dX9_addBase64_69 rfl ?_
          refine J.bipush (v := 58) dX9_addBase64_71 (by decide) ?_
          refine J.iload_n dX9_addBase64_73 rfl ?_
          refine J.bipush (v := 32) dX9_addBase64_74 (by decide) ?_
          refine J.irem dX9_addBase64_76 (by decide) ?_
          rw [show (nI (6 * k)) - (nI (6 * k)) / 32 * 32 = nI (6 * k % 32) from pk_rem (by omega) (by decide) (by decide)]
          refine J.isub dX9_addBase64_77 ?_
          rw [show 58 - (nI (6 * k % 32)) = nI (58 - 6 * k % 32) from pk_sub (a := 58) (by omega)]
          refine J.lushr dX9_addBase64_78 rfl ?_
          refine J.l2i dX9_addBase64_79 ?_
          refine J.bipush (v := 63) dX9_addBase64_80 (by decide) ?_
          refine J.iand dX9_addBase64_82 ?_
          rw [show ((((((((g (6 * k / 32)).toInt64) &&& 4294967295) <<< ((32 : Int32).toInt64 &&& 63)) ||| 0).toUInt64 >>> ((nI (58 - 6 * k % 32) : Int32).toInt64.toUInt64 &&& Int64.toUInt64 63)).toInt64).toInt32) &&& 63 = nI (sixN (fun i => dbt (tl g 0 len) (6 * k + i)) 6) from (by have h9 := both_six (h := g (6 * k / 32)) (l := ((tl g 0 len)).getD (6 * k / 32 + 1) 0) (s := 6 * k % 32) (Nat.mod_lt _ (by decide)) (p := (fun i => dbt (tl g 0 len) (6 * k + i))) (fun i hi => by have h8 := dbt_both (d := (tl g 0 len)) (k := k) hi; rw [tl_at (show 6 * k / 32 < len by omega), Nat.zero_add] at h8; exact h8); rw [hlo] at h9; exact h9)]
          refine J.callC0 [.int (nI (sixN (fun i => dbt (tl g 0 len) (6 * k + i)) 6))] dX9_addBase64_83 mdJ0_charAt_5068e imJ0_charAt_5068e seJ0_charAt_5068e (st_X9_55 hSt).O lm_X9_42 rfl rfl rfl rfl (c_charAt (st_X9_55 hSt) (show (sixN (fun i => dbt (tl g 0 len) (6 * k + i)) 6) < 64 from sixN_lt _ 6)) ?_
          rintro _ σ9 ⟨rfl, e9⟩
          have e9 := e9.symm; subst e9
          refine J.callV0 [.int (sb_base64.getD (sixN (fun i => dbt (tl g 0 len) (6 * k + i)) 6) 0 &&& 255)] dX9_addBase64_86 mdX9_add imX9_add seX9_add kc_10 h_t lk_X9_28 rfl rfl rfl rfl (c_Text_add1 h_t h_r (by first | omega | (simp only [List.length_append, List.length_cons, List.length_nil]; omega)) hm (sb_base64.getD (sixN (fun i => dbt (tl g 0 len) (6 * k + i)) 6) 0 &&& 255)) ?_
          rintro _ _ ⟨rfl, rfl⟩
          rw [tapp_tapp]
          rw [show b8 (sb_base64.getD (sixN (fun i => dbt (tl g 0 len) (6 * k + i)) 6) 0 &&& 255) = b8 (sgn6 (six (fun i => dbt (tl g 0 len) (6 * k + i)) 6)) from (by rw [b64c _ (sixN_lt _ 6), six_N])]
          have h_a : (tapp σ t r cap f b n ((b64 (tl g 0 len) k) ++ [b8 (sgn6 (six (fun i => dbt (tl g 0 len) (6 * k + i)) 6))])) a = some (aI len g) := tapp_i n_at n_ar ha
          have h_t : (tapp σ t r cap f b n ((b64 (tl g 0 len) k) ++ [b8 (sgn6 (six (fun i => dbt (tl g 0 len) (6 * k + i)) 6))])) t = some (oT r (nI b) (nI (n + ((b64 (tl g 0 len) k) ++ [b8 (sgn6 (six (fun i => dbt (tl g 0 len) (6 * k + i)) 6))]).length))) := tapp_t
          have h_r : (tapp σ t r cap f b n ((b64 (tl g 0 len) k) ++ [b8 (sgn6 (six (fun i => dbt (tl g 0 len) (6 * k + i)) 6))])) r = some (aB cap (updl f (b + n) ((b64 (tl g 0 len) k) ++ [b8 (sgn6 (six (fun i => dbt (tl g 0 len) (6 * k + i)) 6))]))) := tapp_r n_rt
          refine J.iinc (v := nI (6 * (k + 1))) (L' := [some (.ref t), some (.ref a), some (.int (nI (32 * len))), some (.int (nI (6 * (k + 1)))), some (.int (nI (6 * k / 32))), some (.long (((g (6 * k / 32)).toInt64) &&& 4294967295)), none, some (.long 0), none, some (.long (((((g (6 * k / 32)).toInt64) &&& 4294967295) <<< ((32 : Int32).toInt64 &&& 63)) ||| 0)), none]) dX9_addBase64_89 rfl (nI_add (6 * k) 6) (by decide) rfl rfl ?_
          refine J.goto (tgt := 8) dX9_addBase64_92 (by decide) ?_
          refine J.drop (i := 4) (L' := [some (.ref t), some (.ref a), some (.int (nI (32 * len))), some (.int (nI (6 * (k + 1)))), none, some (.long (((g (6 * k / 32)).toInt64) &&& 4294967295)), none, some (.long 0), none, some (.long (((((g (6 * k / 32)).toInt64) &&& 4294967295) <<< ((32 : Int32).toInt64 &&& 63)) ||| 0)), none]) rfl ?_
          refine J.drop (i := 5) (L' := [some (.ref t), some (.ref a), some (.int (nI (32 * len))), some (.int (nI (6 * (k + 1)))), none, none, none, some (.long 0), none, some (.long (((((g (6 * k / 32)).toInt64) &&& 4294967295) <<< ((32 : Int32).toInt64 &&& 63)) ||| 0)), none]) rfl ?_
          refine J.drop (i := 7) (L' := [some (.ref t), some (.ref a), some (.int (nI (32 * len))), some (.int (nI (6 * (k + 1)))), none, none, none, none, none, some (.long (((((g (6 * k / 32)).toInt64) &&& 4294967295) <<< ((32 : Int32).toInt64 &&& 63)) ||| 0)), none]) rfl ?_
          refine J.drop (i := 9) (L' := [some (.ref t), some (.ref a), some (.int (nI (32 * len))), some (.int (nI (6 * (k + 1)))), none, none, none, none, none, none, none]) rfl ?_
          have t9 := ih_8 (k + 1) (by omega) (by omega)
          rw [b64_s] at t9
          exact t9
        · skip
          have hk1 : 6 * k / 32 + 1 < len := nI_ltn c_36 (by omega) (by omega)
          have hlo : ((tl g 0 len)).getD (6 * k / 32 + 1) 0 = g (6 * k / 32 + 1) := by rw [tl_at hk1, Nat.zero_add]
          refine J.aload_nR dX9_addBase64_39 rfl ?_
          refine J.iload dX9_addBase64_40 rfl ?_
          refine J.iconst (v := 1) dX9_addBase64_42 (by decide) ?_
          refine J.iadd dX9_addBase64_43 ?_
          rw [show (nI (6 * k / 32)) + 1 = nI (6 * k / 32 + 1) from nI_1 _]
          refine J.iaload (j := 6 * k / 32 + 1) dX9_addBase64_44 h_a rfl (by omega) (by omega) ?_
          refine J.i2l dX9_addBase64_45 ?_
          refine J.ldc2 (v := 4294967295) dX9_addBase64_46 co_X9_53 ?_
          refine J.land dX9_addBase64_49 ?_
          refine J.goto (tgt := 54) dX9_addBase64_50 (by decide) ?_
          refine J.lstore (L' := [some (.ref t), some (.ref a), some (.int (nI (32 * len))), some (.int (nI (6 * k))), some (.int (nI (6 * k / 32))), some (.long (((g (6 * k / 32)).toInt64) &&& 4294967295)), none, some (.long (((g (6 * k / 32 + 1)).toInt64) &&& 4294967295)), none, none, none]) dX9_addBase64_54 (by decide) rfl rfl ?_
          refine J.lload dX9_addBase64_56 rfl ?_
          refine J.bipush (v := 32) dX9_addBase64_58 (by decide) ?_
          refine J.lshl dX9_addBase64_60 rfl ?_
          refine J.lload dX9_addBase64_61 rfl ?_
          refine J.lor dX9_addBase64_63 ?_
          refine J.lstore (L' := [some (.ref t), some (.ref a), some (.int (nI (32 * len))), some (.int (nI (6 * k))), some (.int (nI (6 * k / 32))), some (.long (((g (6 * k / 32)).toInt64) &&& 4294967295)), none, some (.long (((g (6 * k / 32 + 1)).toInt64) &&& 4294967295)), none, some (.long (((((g (6 * k / 32)).toInt64) &&& 4294967295) <<< ((32 : Int32).toInt64 &&& 63)) ||| (((g (6 * k / 32 + 1)).toInt64) &&& 4294967295))), none]) dX9_addBase64_64 (by decide) rfl rfl ?_
          refine J.aload_nR dX9_addBase64_66 rfl ?_
          refine J.ldcS dX9_addBase64_67 sr_X9_55 ?_
          refine J.lload dX9_addBase64_69 rfl ?_
          refine J.bipush (v := 58) dX9_addBase64_71 (by decide) ?_
          refine J.iload_n dX9_addBase64_73 rfl ?_
          refine J.bipush (v := 32) dX9_addBase64_74 (by decide) ?_
          refine J.irem dX9_addBase64_76 (by decide) ?_
          rw [show (nI (6 * k)) - (nI (6 * k)) / 32 * 32 = nI (6 * k % 32) from pk_rem (by omega) (by decide) (by decide)]
          refine J.isub dX9_addBase64_77 ?_
          rw [show 58 - (nI (6 * k % 32)) = nI (58 - 6 * k % 32) from pk_sub (a := 58) (by omega)]
          refine J.lushr dX9_addBase64_78 rfl ?_
          refine J.l2i dX9_addBase64_79 ?_
          refine J.bipush (v := 63) dX9_addBase64_80 (by decide) ?_
          refine J.iand dX9_addBase64_82 ?_
          rw [show ((((((((g (6 * k / 32)).toInt64) &&& 4294967295) <<< ((32 : Int32).toInt64 &&& 63)) ||| (((g (6 * k / 32 + 1)).toInt64) &&& 4294967295)).toUInt64 >>> ((nI (58 - 6 * k % 32) : Int32).toInt64.toUInt64 &&& Int64.toUInt64 63)).toInt64).toInt32) &&& 63 = nI (sixN (fun i => dbt (tl g 0 len) (6 * k + i)) 6) from (by have h9 := both_six (h := g (6 * k / 32)) (l := ((tl g 0 len)).getD (6 * k / 32 + 1) 0) (s := 6 * k % 32) (Nat.mod_lt _ (by decide)) (p := (fun i => dbt (tl g 0 len) (6 * k + i))) (fun i hi => by have h8 := dbt_both (d := (tl g 0 len)) (k := k) hi; rw [tl_at (show 6 * k / 32 < len by omega), Nat.zero_add] at h8; exact h8); rw [hlo] at h9; exact h9)]
          refine J.callC0 [.int (nI (sixN (fun i => dbt (tl g 0 len) (6 * k + i)) 6))] dX9_addBase64_83 mdJ0_charAt_5068e imJ0_charAt_5068e seJ0_charAt_5068e (st_X9_55 hSt).O lm_X9_42 rfl rfl rfl rfl (c_charAt (st_X9_55 hSt) (show (sixN (fun i => dbt (tl g 0 len) (6 * k + i)) 6) < 64 from sixN_lt _ 6)) ?_
          rintro _ σ9 ⟨rfl, e9⟩
          have e9 := e9.symm; subst e9
          refine J.callV0 [.int (sb_base64.getD (sixN (fun i => dbt (tl g 0 len) (6 * k + i)) 6) 0 &&& 255)] dX9_addBase64_86 mdX9_add imX9_add seX9_add kc_10 h_t lk_X9_28 rfl rfl rfl rfl (c_Text_add1 h_t h_r (by first | omega | (simp only [List.length_append, List.length_cons, List.length_nil]; omega)) hm (sb_base64.getD (sixN (fun i => dbt (tl g 0 len) (6 * k + i)) 6) 0 &&& 255)) ?_
          rintro _ _ ⟨rfl, rfl⟩
          rw [tapp_tapp]
          rw [show b8 (sb_base64.getD (sixN (fun i => dbt (tl g 0 len) (6 * k + i)) 6) 0 &&& 255) = b8 (sgn6 (six (fun i => dbt (tl g 0 len) (6 * k + i)) 6)) from (by rw [b64c _ (sixN_lt _ 6), six_N])]
          have h_a : (tapp σ t r cap f b n ((b64 (tl g 0 len) k) ++ [b8 (sgn6 (six (fun i => dbt (tl g 0 len) (6 * k + i)) 6))])) a = some (aI len g) := tapp_i n_at n_ar ha
          have h_t : (tapp σ t r cap f b n ((b64 (tl g 0 len) k) ++ [b8 (sgn6 (six (fun i => dbt (tl g 0 len) (6 * k + i)) 6))])) t = some (oT r (nI b) (nI (n + ((b64 (tl g 0 len) k) ++ [b8 (sgn6 (six (fun i => dbt (tl g 0 len) (6 * k + i)) 6))]).length))) := tapp_t
          have h_r : (tapp σ t r cap f b n ((b64 (tl g 0 len) k) ++ [b8 (sgn6 (six (fun i => dbt (tl g 0 len) (6 * k + i)) 6))])) r = some (aB cap (updl f (b + n) ((b64 (tl g 0 len) k) ++ [b8 (sgn6 (six (fun i => dbt (tl g 0 len) (6 * k + i)) 6))]))) := tapp_r n_rt
          refine J.iinc (v := nI (6 * (k + 1))) (L' := [some (.ref t), some (.ref a), some (.int (nI (32 * len))), some (.int (nI (6 * (k + 1)))), some (.int (nI (6 * k / 32))), some (.long (((g (6 * k / 32)).toInt64) &&& 4294967295)), none, some (.long (((g (6 * k / 32 + 1)).toInt64) &&& 4294967295)), none, some (.long (((((g (6 * k / 32)).toInt64) &&& 4294967295) <<< ((32 : Int32).toInt64 &&& 63)) ||| (((g (6 * k / 32 + 1)).toInt64) &&& 4294967295))), none]) dX9_addBase64_89 rfl (nI_add (6 * k) 6) (by decide) rfl rfl ?_
          refine J.goto (tgt := 8) dX9_addBase64_92 (by decide) ?_
          refine J.drop (i := 4) (L' := [some (.ref t), some (.ref a), some (.int (nI (32 * len))), some (.int (nI (6 * (k + 1)))), none, some (.long (((g (6 * k / 32)).toInt64) &&& 4294967295)), none, some (.long (((g (6 * k / 32 + 1)).toInt64) &&& 4294967295)), none, some (.long (((((g (6 * k / 32)).toInt64) &&& 4294967295) <<< ((32 : Int32).toInt64 &&& 63)) ||| (((g (6 * k / 32 + 1)).toInt64) &&& 4294967295))), none]) rfl ?_
          refine J.drop (i := 5) (L' := [some (.ref t), some (.ref a), some (.int (nI (32 * len))), some (.int (nI (6 * (k + 1)))), none, none, none, some (.long (((g (6 * k / 32 + 1)).toInt64) &&& 4294967295)), none, some (.long (((((g (6 * k / 32)).toInt64) &&& 4294967295) <<< ((32 : Int32).toInt64 &&& 63)) ||| (((g (6 * k / 32 + 1)).toInt64) &&& 4294967295))), none]) rfl ?_
          refine J.drop (i := 7) (L' := [some (.ref t), some (.ref a), some (.int (nI (32 * len))), some (.int (nI (6 * (k + 1)))), none, none, none, none, none, some (.long (((((g (6 * k / 32)).toInt64) &&& 4294967295) <<< ((32 : Int32).toInt64 &&& 63)) ||| (((g (6 * k / 32 + 1)).toInt64) &&& 4294967295))), none]) rfl ?_
          refine J.drop (i := 9) (L' := [some (.ref t), some (.ref a), some (.int (nI (32 * len))), some (.int (nI (6 * (k + 1)))), none, none, none, none, none, none, none]) rfl ?_
          have t9 := ih_8 (k + 1) (by omega) (by omega)
          rw [b64_s] at t9
          exact t9
  have t9 := cut_8 (((32 * len + 5) / 6) + 1) 0 (by omega) (by omega)
  rw [show b64 (tl g 0 len) 0 = [] from rfl, tapp_nil ht hr] at t9
  exact t9
