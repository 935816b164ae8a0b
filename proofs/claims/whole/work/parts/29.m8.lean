/-! the reference: HANDLES -/
theorem shr_ofs {s : Nat} (h : s < 32) : (nI s &&& 31).toBitVec.smod 32 = BitVec.ofNat 32 s := (show ∀ s, s < 32 → (nI s &&& 31).toBitVec.smod 32 = BitVec.ofNat 32 s by decide) s h
theorem shr_bit {x : Int32} {s : Nat} (h : s < 32) : (x >>> (nI s &&& 31)) &&& 1 = bI (x.toBitVec.getLsbD s) := by
  apply Int32.toBitVec_inj.mp
  rw [Int32.toBitVec_and, Int32.toBitVec_shiftRight, shr_ofs h]
  apply BitVec.eq_of_getLsbD_eq
  intro i hi
  rw [BitVec.getLsbD_and, BitVec.sshiftRight', BitVec.getLsbD_sshiftRight]
  cases hb : x.toBitVec.getLsbD s with
  | false =>
    by_cases h0 : i = 0
    · subst h0
      rw [BitVec.getLsbD_eq_getElem h] at hb
      simp [bI, hb, Nat.mod_eq_of_lt (show s < 4294967296 by omega), h]
    · simp [bI, h0]
  | true =>
    by_cases h0 : i = 0
    · subst h0
      rw [BitVec.getLsbD_eq_getElem h] at hb
      simp [bI, hb, Nat.mod_eq_of_lt (show s < 4294967296 by omega), h]
    · simp [bI, h0]
theorem b8_bit {x : Int32} {i : Nat} (h : i < 8) : (b8 x).toBitVec.getLsbD i = x.toBitVec.getLsbD i := by
  rw [b8, Int8.toBitVec_toInt32, Int32.toBitVec_toInt8, BitVec.getLsbD_signExtend, BitVec.getLsbD_signExtend]
  simp [h, show i < 32 by omega]
theorem sar_bit {x : Int32} {s i : Nat} (h : s + i < 32) : (x >>> (nI s &&& 31)).toBitVec.getLsbD i = x.toBitVec.getLsbD (s + i) := by
  rw [Int32.toBitVec_shiftRight, shr_ofs (by omega), BitVec.sshiftRight', BitVec.getLsbD_sshiftRight]
  simp [Nat.mod_eq_of_lt (show s < 4294967296 by omega), h, show i < 32 by omega]
def six (p : Nat → Bool) : Nat → Int32
  | 0 => 0
  | i + 1 => 2 * six p i + bI (p i)
theorem six_congr {p q : Nat → Bool} {n : Nat} (h : ∀ i, i < n → p i = q i) : six p n = six q n := by
  induction n with
  | zero => rfl
  | succ n ih => rw [six, six, ih fun i hi => h i (by omega), h n (by omega)]
/-- a bit of numbers in a row, the highest first -/
def dbt (d : List Int32) (b : Nat) : Bool := (d.getD (b / 32) 0).toBitVec.getLsbD (31 - b % 32)
/-- a bit of bytes in a row -/
def bbt (f : Nat → Int32) (n b : Nat) : Bool := if b < 8 * n then (f (b / 8)).toBitVec.getLsbD (7 - b % 8) else false
theorem bbt_dbt {f : Nat → Int32} {d : List Int32} (h : ∀ q, q < 4 * d.length → f q = b8 (d.getD (q / 4) 0 >>> (nI (24 - 8 * (q % 4)) &&& 31))) (b : Nat) : bbt f (4 * d.length) b = dbt d b := by
  rw [bbt, dbt]
  by_cases hb : b < 8 * (4 * d.length)
  · rw [if_pos hb, h (b / 8) (by omega), b8_bit (by omega), sar_bit (by omega)]
    congr 1
    · congr 2
      omega
    · omega
  · rw [if_neg hb, List.getD_eq_getElem?_getD, List.getElem?_eq_none (by omega)]
    simp
def bbt_t {f : Nat → Int32} {n b : Nat} (h : b < 8 * n) : (f (b / 8) >>> (nI (7 - b % 8) &&& 31)) &&& 1 = bI (bbt f n b) := by
  rw [shr_bit (by omega), bbt, if_pos h]
/-- signs of base64url of bytes -/
def cdk (f : Nat → Int32) (n k : Nat) : List Int32 := (List.range k).map fun k => b8 (sgn6 (six (fun i => bbt f n (6 * k + i)) 6))
def b64 (d : List Int32) (k : Nat) : List Int32 := (List.range k).map fun k => b8 (sgn6 (six (fun i => dbt d (6 * k + i)) 6))
/-- the bytes of numbers -/
def dby (d : List Int32) (k : Nat) : List Int32 := (List.range k).map fun q => b8 (d.getD (q / 4) 0 >>> (nI (24 - 8 * (q % 4)) &&& 31))
theorem cdk_len (f : Nat → Int32) (n k : Nat) : (cdk f n k).length = k := by rw [cdk, List.length_map, List.length_range]
theorem b64_len (d : List Int32) (k : Nat) : (b64 d k).length = k := by rw [b64, List.length_map, List.length_range]
theorem dby_len (d : List Int32) (k : Nat) : (dby d k).length = k := by rw [dby, List.length_map, List.length_range]
theorem cdk_s (f : Nat → Int32) (n k : Nat) : cdk f n (k + 1) = cdk f n k ++ [b8 (sgn6 (six (fun i => bbt f n (6 * k + i)) 6))] := by rw [cdk, cdk, List.range_succ, List.map_append]; rfl
theorem dby_s (d : List Int32) (k : Nat) : dby d (k + 1) = dby d k ++ [b8 (d.getD (k / 4) 0 >>> (nI (24 - 8 * (k % 4)) &&& 31))] := by rw [dby, dby, List.range_succ, List.map_append]; rfl
theorem dby_at {d : List Int32} {k q : Nat} (h : q < k) : (dby d k).getD q 0 = b8 (d.getD (q / 4) 0 >>> (nI (24 - 8 * (q % 4)) &&& 31)) := by
  rw [dby, List.getD_eq_getElem?_getD, List.getElem?_map, List.getElem?_range h]
  rfl
theorem cdk_b64 {f : Nat → Int32} {d : List Int32} {n k : Nat} (hn : n = 4 * d.length) (h : ∀ q, q < n → f q = b8 (d.getD (q / 4) 0 >>> (nI (24 - 8 * (q % 4)) &&& 31))) : cdk f n k = b64 d k := by
  subst hn
  rw [cdk, b64]
  refine List.map_congr_left fun j _ => ?_
  rw [six_congr fun i _ => bbt_dbt h (6 * j + i)]
theorem bts_b64 (d : List Int32) (k : Nat) : bts (b64 d k) := by
  intro x hx
  obtain ⟨j, -, e⟩ := List.mem_map.mp hx
  rw [← e, b8_b8]
def hs (F : Nat → Nat → Int32) (a b : Nat → Int32) : Nat → Nat → Int32 := setF (setF F 68 a) 69 b
theorem hs_hs (F : Nat → Nat → Int32) (a b c d : Nat → Int32) : hs (hs F a b) c d = hs F c d := by
  funext k
  rw [hs, hs, hs]
  by_cases h : k = 69
  · rw [h, setF_s, setF_s]
  · rw [setF_n _ _ h, setF_n _ _ h]
    by_cases h2 : k = 68
    · rw [h2, setF_s, setF_s]
    · rw [setF_n _ _ h2, setF_n _ _ h2, setF_n _ _ h, setF_n _ _ h2]
theorem hs_id (F : Nat → Nat → Int32) : hs F (F 68) (F 69) = F := by rw [hs, setF_self, setF_self]
/-- the numbers that are taken for one token, or for two -/
def gv (U W : List (List Int32)) (na nr : Nat) (both : Bool) : Option (List (List Int32) × List (List Int32)) :=
  if na = 300 ∨ (both = true ∧ nr = 300) then none
  else match tk1 U W with
    | none => none
    | some (d, W1) => if both = true then (match tk1 (U ++ [d]) W1 with
        | none => none
        | some (e, W2) => some ([d, e], W2)) else some ([d], W1)

theorem m_coded_16 {Λ : kL} {m : Nat} {A : Nat → Nat} {I : Nat → Int32} {F : Nat → Nat → Int32} (hA : mInj A)  : mCt Λ mX12_coded m A [.ref (A 68), .int 16, .ref (A 69)] I F (fun r I' F' => r = some (.int 22) ∧ I' = I ∧ F' = setF F 69 (updl (F 69) 0 (cdk (F 68) 16 22))) := by
  refine mCt.of hA pn_X12 [some (.ref (A 68)), some (.int 16), some (.ref (A 69)), none, none, none, none] rfl (Nat.le_of_ble_eq_true rfl) fun X => ?_
  refine M.bipush (v := 8) dX12_coded_0 (by decide) ?_
  refine M.iload_n dX12_coded_2 rfl ?_
  refine M.imul dX12_coded_3 ?_
  rw [show (8 : Int32) * 16 = (128 : Int32) from (by decide)]
  refine M.iconst (v := 5) dX12_coded_4 (by decide) ?_
  refine M.iadd dX12_coded_5 ?_
  rw [show (128 : Int32) + 5 = (133 : Int32) from (by decide)]
  refine M.bipush (v := 6) dX12_coded_6 (by decide) ?_
  refine M.idiv dX12_coded_8 (by decide) ?_
  rw [show (133 : Int32) / 6 = (22 : Int32) from (by decide)]
  refine M.istore_n (L' := [some (.ref (A 68)), some (.int 16), some (.ref (A 69)), some (.int 22), none, none, none]) dX12_coded_9 (by decide) rfl rfl ?_
  refine M.iconst (v := 0) dX12_coded_10 (by decide) ?_
  refine M.istore (L' := [some (.ref (A 68)), some (.int 16), some (.ref (A 69)), some (.int 22), some (.int 0), none, none]) dX12_coded_11 (by decide) rfl rfl ?_
  have cut_13 : ∀ (k_13 : Nat) (k : Nat), (k ≤ 22) → (23 ≤ k + k_13) → M Λ X mX12_coded m A (fun r I' F' => r = some (.int 22) ∧ I' = I ∧ F' = setF F 69 (updl (F 69) 0 (cdk (F 68) 16 22))) I (setF F 69 (updl (F 69) 0 (cdk (F 68) 16 k))) 13 [some (.ref (A 68)), some (.int 16), some (.ref (A 69)), some (.int 22), some (.int (nI k)), none, none] [] := by
    intro k_13
    induction k_13 with
    | zero => intro k h1 h2; exact absurd h2 (by omega)
    | succ k_13 ih_13 =>
      intro k h1 h2
      refine M.iload dX12_coded_13 rfl ?_
      refine M.iload_n dX12_coded_15 rfl ?_
      refine M.icmp_ge (tgt := 102) dX12_coded_16 (by decide) (fun c_16 => ?_) (fun c_16 => ?_)
      · skip
        have e1 := nI_gen (n := 22) c_16 h1 (by omega); subst e1
        refine M.iload_n dX12_coded_102 rfl ?_
        refine M.iret dX12_coded_103 rfl ?_
        exact ⟨rfl, rfl, rfl⟩
      · skip
        have lt_k : k < 22 := nI_ltn (n := 22) c_16 (by omega) (by omega)
        refine M.iconst (v := 0) dX12_coded_19 (by decide) ?_
        refine M.istore (L' := [some (.ref (A 68)), some (.int 16), some (.ref (A 69)), some (.int 22), some (.int (nI k)), some (.int 0), none]) dX12_coded_20 (by decide) rfl rfl ?_
        refine M.bipush (v := 6) dX12_coded_22 (by decide) ?_
        refine M.iload dX12_coded_24 rfl ?_
        refine M.imul dX12_coded_26 ?_
        rw [show 6 * (nI k) = nI (6 * k) from nI_mulc 6 k]
        refine M.istore (L' := [some (.ref (A 68)), some (.int 16), some (.ref (A 69)), some (.int 22), some (.int (nI k)), some (.int 0), some (.int (nI (6 * k)))]) dX12_coded_27 (by decide) rfl rfl ?_
        have cut_29 : ∀ (k_29 : Nat) (i : Nat), (i ≤ 6) → (7 ≤ i + k_29) → M Λ X mX12_coded m A (fun r I' F' => r = some (.int 22) ∧ I' = I ∧ F' = setF F 69 (updl (F 69) 0 (cdk (F 68) 16 22))) I (setF F 69 (updl (F 69) 0 (cdk (F 68) 16 k))) 29 [some (.ref (A 68)), some (.int 16), some (.ref (A 69)), some (.int 22), some (.int (nI k)), some (.int (six (fun i => bbt (F 68) 16 (6 * k + i)) i)), some (.int (nI (6 * k + i)))] [] := by
          intro k_29
          induction k_29 with
          | zero => intro i h3 h4; exact absurd h4 (by omega)
          | succ k_29 ih_29 =>
            intro i h3 h4
            refine M.iload dX12_coded_29 rfl ?_
            refine M.bipush (v := 6) dX12_coded_31 (by decide) ?_
            refine M.iload dX12_coded_33 rfl ?_
            refine M.imul dX12_coded_35 ?_
            rw [show 6 * (nI k) = nI (6 * k) from nI_mulc 6 k]
            refine M.bipush (v := 6) dX12_coded_36 (by decide) ?_
            refine M.iadd dX12_coded_38 ?_
            rw [show (nI (6 * k)) + 6 = nI (6 * k + 6) from nI_add (6 * k) 6]
            refine M.icmp_ge (tgt := 86) dX12_coded_39 (by decide) (fun c_39 => ?_) (fun c_39 => ?_)
            · skip
              have e2 : i = 6 := by have := nI_gen c_39 (by omega) (by omega); omega
              subst e2
              skip
              refine M.aload_nR dX12_coded_86 rfl ?_
              refine M.iload dX12_coded_87 rfl ?_
              refine M.iload dX12_coded_89 rfl ?_
              refine M.callJ (v := .int (sgn6 (six (fun i => bbt (F 68) 16 (6 * k + i)) 6))) [.int (six (fun i => bbt (F 68) 16 (6 * k + i)) 6)] dX12_coded_91 mdX12_sign ssX12_sign lk_X12_201 rfl rfl rfl rfl (fun σ9 => m_sign (six (fun i => bbt (F 68) 16 (6 * k + i)) 6)) ?_
              refine M.i2b8 dX12_coded_94 ?_
              refine M.bast1 (k9 := 69) (j := 0 + (cdk (F 68) 16 k).length) dX12_coded_95 rfl rfl (by rw [cdk_len, Nat.zero_add]) (show 0 + (cdk (F 68) 16 k).length < 44 by rw [cdk_len]; omega) (b8_b8 _) ?_
              rw [updF_set, updl_snoc, ← cdk_s]
              refine M.iinc (v := nI (k + 1)) (L' := [some (.ref (A 68)), some (.int 16), some (.ref (A 69)), some (.int 22), some (.int (nI (k + 1))), some (.int (six (fun i => bbt (F 68) 16 (6 * k + i)) 6)), some (.int (nI (6 * k + 6)))]) dX12_coded_96 rfl (nI_1 k) (by decide) rfl rfl ?_
              refine M.goto (tgt := 13) dX12_coded_99 (by decide) ?_
              refine M.drop (i := 5) (L' := [some (.ref (A 68)), some (.int 16), some (.ref (A 69)), some (.int 22), some (.int (nI (k + 1))), none, some (.int (nI (6 * k + 6)))]) rfl ?_
              refine M.drop (i := 6) (L' := [some (.ref (A 68)), some (.int 16), some (.ref (A 69)), some (.int 22), some (.int (nI (k + 1))), none, none]) rfl ?_
              exact ih_13 (k + 1) (by omega) (by omega)
            · skip
              have lt_i : i < 6 := by have := nI_ltn c_39 (by omega) (by omega); omega
              refine M.iconst (v := 2) dX12_coded_42 (by decide) ?_
              refine M.iload dX12_coded_43 rfl ?_
              refine M.imul dX12_coded_45 ?_
              refine M.iload dX12_coded_46 rfl ?_
              refine M.bipush (v := 8) dX12_coded_48 (by decide) ?_
              refine M.iload_n dX12_coded_50 rfl ?_
              refine M.imul dX12_coded_51 ?_
              rw [show (8 : Int32) * 16 = (128 : Int32) from (by decide)]
              refine M.icmp_ge (tgt := 76) dX12_coded_52 (by decide) (fun c_52 => ?_) (fun c_52 => ?_)
              · skip
                have lt_b : ¬ 6 * k + i < 8 * 16 := by have := (nI_leI (a := 128) (by omega) (by omega)).mp c_52; omega
                refine M.iconst (v := 0) dX12_coded_76 (by decide) ?_
                refine M.iadd dX12_coded_77 ?_
                rw [show (2 * (six (fun i => bbt (F 68) 16 (6 * k + i)) i)) + 0 = six (fun i => bbt (F 68) 16 (6 * k + i)) (i + 1) from (by rw [six, bbt, if_neg lt_b]; rfl)]
                refine M.istore (L' := [some (.ref (A 68)), some (.int 16), some (.ref (A 69)), some (.int 22), some (.int (nI k)), some (.int (six (fun i => bbt (F 68) 16 (6 * k + i)) (i + 1))), some (.int (nI (6 * k + i)))]) dX12_coded_78 (by decide) rfl rfl ?_
                refine M.iinc (v := nI (6 * k + (i + 1))) (L' := [some (.ref (A 68)), some (.int 16), some (.ref (A 69)), some (.int 22), some (.int (nI k)), some (.int (six (fun i => bbt (F 68) 16 (6 * k + i)) (i + 1))), some (.int (nI (6 * k + (i + 1))))]) dX12_coded_80 rfl (nI_1 (6 * k + i)) (by decide) rfl rfl ?_
                refine M.goto (tgt := 29) dX12_coded_83 (by decide) ?_
                exact ih_29 (i + 1) (by omega) (by omega)
              · skip
                have lt_b : 6 * k + i < 8 * 16 := nI_ltn (n := 128) c_52 (by omega) (by omega)
                refine M.aload_nR dX12_coded_55 rfl ?_
                refine M.iload dX12_coded_56 rfl ?_
                refine M.bipush (v := 8) dX12_coded_58 (by decide) ?_
                refine M.idiv dX12_coded_60 (by decide) ?_
                rw [show (nI (6 * k + i)) / 8 = nI ((6 * k + i) / 8) from pk_div (by omega) (by decide) (by decide)]
                refine M.bald (k9 := 68) (j := (6 * k + i) / 8) (g := F 68) dX12_coded_61 rfl rfl rfl rfl (show (6 * k + i) / 8 < 16 by omega) ?_
                refine M.bipush (v := 7) dX12_coded_62 (by decide) ?_
                refine M.iload dX12_coded_64 rfl ?_
                refine M.bipush (v := 8) dX12_coded_66 (by decide) ?_
                refine M.irem dX12_coded_68 (by decide) ?_
                rw [show (nI (6 * k + i)) - (nI (6 * k + i)) / 8 * 8 = nI ((6 * k + i) % 8) from pk_rem (by omega) (by decide) (by decide)]
                refine M.isub dX12_coded_69 ?_
                rw [show 7 - (nI ((6 * k + i) % 8)) = nI (7 - (6 * k + i) % 8) from pk_sub (a := 7) (by omega)]
                refine M.ishr dX12_coded_70 ?_
                refine M.iconst (v := 1) dX12_coded_71 (by decide) ?_
                refine M.iand dX12_coded_72 ?_
                rw [show (((F 68) ((6 * k + i) / 8)) >>> ((nI (7 - (6 * k + i) % 8) : Int32) &&& 31)) &&& 1 = bI (bbt (F 68) 16 (6 * k + i)) from bbt_t lt_b]
                refine M.goto (tgt := 77) dX12_coded_73 (by decide) ?_
                refine M.iadd dX12_coded_77 ?_
                rw [show (2 * (six (fun i => bbt (F 68) 16 (6 * k + i)) i)) + (bI (bbt (F 68) 16 (6 * k + i))) = six (fun i => bbt (F 68) 16 (6 * k + i)) (i + 1) from rfl]
                refine M.istore (L' := [some (.ref (A 68)), some (.int 16), some (.ref (A 69)), some (.int 22), some (.int (nI k)), some (.int (six (fun i => bbt (F 68) 16 (6 * k + i)) (i + 1))), some (.int (nI (6 * k + i)))]) dX12_coded_78 (by decide) rfl rfl ?_
                refine M.iinc (v := nI (6 * k + (i + 1))) (L' := [some (.ref (A 68)), some (.int 16), some (.ref (A 69)), some (.int 22), some (.int (nI k)), some (.int (six (fun i => bbt (F 68) 16 (6 * k + i)) (i + 1))), some (.int (nI (6 * k + (i + 1))))]) dX12_coded_80 rfl (nI_1 (6 * k + i)) (by decide) rfl rfl ?_
                refine M.goto (tgt := 29) dX12_coded_83 (by decide) ?_
                exact ih_29 (i + 1) (by omega) (by omega)
        exact cut_29 7 0 (by omega) (by omega)
  have t9 := cut_13 23 0 (by omega) (by omega)
  rw [show cdk (F 68) 16 0 = [] from rfl, updl_nil, setF_self] at t9
  exact t9

theorem m_coded_32 {Λ : kL} {m : Nat} {A : Nat → Nat} {I : Nat → Int32} {F : Nat → Nat → Int32} (hA : mInj A)  : mCt Λ mX12_coded m A [.ref (A 71), .int 32, .ref (A 69)] I F (fun r I' F' => r = some (.int 43) ∧ I' = I ∧ F' = setF F 69 (updl (F 69) 0 (cdk (F 71) 32 43))) := by
  refine mCt.of hA pn_X12 [some (.ref (A 71)), some (.int 32), some (.ref (A 69)), none, none, none, none] rfl (Nat.le_of_ble_eq_true rfl) fun X => ?_
  refine M.bipush (v := 8) dX12_coded_0 (by decide) ?_
  refine M.iload_n dX12_coded_2 rfl ?_
  refine M.imul dX12_coded_3 ?_
  rw [show (8 : Int32) * 32 = (256 : Int32) from (by decide)]
  refine M.iconst (v := 5) dX12_coded_4 (by decide) ?_
  refine M.iadd dX12_coded_5 ?_
  rw [show (256 : Int32) + 5 = (261 : Int32) from (by decide)]
  refine M.bipush (v := 6) dX12_coded_6 (by decide) ?_
  refine M.idiv dX12_coded_8 (by decide) ?_
  rw [show (261 : Int32) / 6 = (43 : Int32) from (by decide)]
  refine M.istore_n (L' := [some (.ref (A 71)), some (.int 32), some (.ref (A 69)), some (.int 43), none, none, none]) dX12_coded_9 (by decide) rfl rfl ?_
  refine M.iconst (v := 0) dX12_coded_10 (by decide) ?_
  refine M.istore (L' := [some (.ref (A 71)), some (.int 32), some (.ref (A 69)), some (.int 43), some (.int 0), none, none]) dX12_coded_11 (by decide) rfl rfl ?_
  have cut_13 : ∀ (k_13 : Nat) (k : Nat), (k ≤ 43) → (44 ≤ k + k_13) → M Λ X mX12_coded m A (fun r I' F' => r = some (.int 43) ∧ I' = I ∧ F' = setF F 69 (updl (F 69) 0 (cdk (F 71) 32 43))) I (setF F 69 (updl (F 69) 0 (cdk (F 71) 32 k))) 13 [some (.ref (A 71)), some (.int 32), some (.ref (A 69)), some (.int 43), some (.int (nI k)), none, none] [] := by
    intro k_13
    induction k_13 with
    | zero => intro k h1 h2; exact absurd h2 (by omega)
    | succ k_13 ih_13 =>
      intro k h1 h2
      refine M.iload dX12_coded_13 rfl ?_
      refine M.iload_n dX12_coded_15 rfl ?_
      refine M.icmp_ge (tgt := 102) dX12_coded_16 (by decide) (fun c_16 => ?_) (fun c_16 => ?_)
      · skip
        have e1 := nI_gen (n := 43) c_16 h1 (by omega); subst e1
        refine M.iload_n dX12_coded_102 rfl ?_
        refine M.iret dX12_coded_103 rfl ?_
        exact ⟨rfl, rfl, rfl⟩
      · skip
        have lt_k : k < 43 := nI_ltn (n := 43) c_16 (by omega) (by omega)
        refine M.iconst (v := 0) dX12_coded_19 (by decide) ?_
        refine M.istore (L' := [some (.ref (A 71)), some (.int 32), some (.ref (A 69)), some (.int 43), some (.int (nI k)), some (.int 0), none]) dX12_coded_20 (by decide) rfl rfl ?_
        refine M.bipush (v := 6) dX12_coded_22 (by decide) ?_
        refine M.iload dX12_coded_24 rfl ?_
        refine M.imul dX12_coded_26 ?_
        rw [show 6 * (nI k) = nI (6 * k) from nI_mulc 6 k]
        refine M.istore (L' := [some (.ref (A 71)), some (.int 32), some (.ref (A 69)), some (.int 43), some (.int (nI k)), some (.int 0), some (.int (nI (6 * k)))]) dX12_coded_27 (by decide) rfl rfl ?_
        have cut_29 : ∀ (k_29 : Nat) (i : Nat), (i ≤ 6) → (7 ≤ i + k_29) → M Λ X mX12_coded m A (fun r I' F' => r = some (.int 43) ∧ I' = I ∧ F' = setF F 69 (updl (F 69) 0 (cdk (F 71) 32 43))) I (setF F 69 (updl (F 69) 0 (cdk (F 71) 32 k))) 29 [some (.ref (A 71)), some (.int 32), some (.ref (A 69)), some (.int 43), some (.int (nI k)), some (.int (six (fun i => bbt (F 71) 32 (6 * k + i)) i)), some (.int (nI (6 * k + i)))] [] := by
          intro k_29
          induction k_29 with
          | zero => intro i h3 h4; exact absurd h4 (by omega)
          | succ k_29 ih_29 =>
            intro i h3 h4
            refine M.iload dX12_coded_29 rfl ?_
            refine M.bipush (v := 6) dX12_coded_31 (by decide) ?_
            refine M.iload dX12_coded_33 rfl ?_
            refine M.imul dX12_coded_35 ?_
            rw [show 6 * (nI k) = nI (6 * k) from nI_mulc 6 k]
            refine M.bipush (v := 6) dX12_coded_36 (by decide) ?_
            refine M.iadd dX12_coded_38 ?_
            rw [show (nI (6 * k)) + 6 = nI (6 * k + 6) from nI_add (6 * k) 6]
            refine M.icmp_ge (tgt := 86) dX12_coded_39 (by decide) (fun c_39 => ?_) (fun c_39 => ?_)
            · skip
              have e2 : i = 6 := by have := nI_gen c_39 (by omega) (by omega); omega
              subst e2
              skip
              refine M.aload_nR dX12_coded_86 rfl ?_
              refine M.iload dX12_coded_87 rfl ?_
              refine M.iload dX12_coded_89 rfl ?_
              refine M.callJ (v := .int (sgn6 (six (fun i => bbt (F 71) 32 (6 * k + i)) 6))) [.int (six (fun i => bbt (F 71) 32 (6 * k + i)) 6)] dX12_coded_91 mdX12_sign ssX12_sign lk_X12_201 rfl rfl rfl rfl (fun σ9 => m_sign (six (fun i => bbt (F 71) 32 (6 * k + i)) 6)) ?_
              refine M.i2b8 dX12_coded_94 ?_
              refine M.bast1 (k9 := 69) (j := 0 + (cdk (F 71) 32 k).length) dX12_coded_95 rfl rfl (by rw [cdk_len, Nat.zero_add]) (show 0 + (cdk (F 71) 32 k).length < 44 by rw [cdk_len]; omega) (b8_b8 _) ?_
              rw [updF_set, updl_snoc, ← cdk_s]
              refine M.iinc (v := nI (k + 1)) (L' := [some (.ref (A 71)), some (.int 32), some (.ref (A 69)), some (.int 43), some (.int (nI (k + 1))), some (.int (six (fun i => bbt (F 71) 32 (6 * k + i)) 6)), some (.int (nI (6 * k + 6)))]) dX12_coded_96 rfl (nI_1 k) (by decide) rfl rfl ?_
              refine M.goto (tgt := 13) dX12_coded_99 (by decide) ?_
              refine M.drop (i := 5) (L' := [some (.ref (A 71)), some (.int 32), some (.ref (A 69)), some (.int 43), some (.int (nI (k + 1))), none, some (.int (nI (6 * k + 6)))]) rfl ?_
              refine M.drop (i := 6) (L' := [some (.ref (A 71)), some (.int 32), some (.ref (A 69)), some (.int 43), some (.int (nI (k + 1))), none, none]) rfl ?_
              exact ih_13 (k + 1) (by omega) (by omega)
            · skip
              have lt_i : i < 6 := by have := nI_ltn c_39 (by omega) (by omega); omega
              refine M.iconst (v := 2) dX12_coded_42 (by decide) ?_
              refine M.iload dX12_coded_43 rfl ?_
              refine M.imul dX12_coded_45 ?_
              refine M.iload dX12_coded_46 rfl ?_
              refine M.bipush (v := 8) dX12_coded_48 (by decide) ?_
              refine M.iload_n dX12_coded_50 rfl ?_
              refine M.imul dX12_coded_51 ?_
              rw [show (8 : Int32) * 32 = (256 : Int32) from (by decide)]
              refine M.icmp_ge (tgt := 76) dX12_coded_52 (by decide) (fun c_52 => ?_) (fun c_52 => ?_)
              · skip
                have lt_b : ¬ 6 * k + i < 8 * 32 := by have := (nI_leI (a := 256) (by omega) (by omega)).mp c_52; omega
                refine M.iconst (v := 0) dX12_coded_76 (by decide) ?_
                refine M.iadd dX12_coded_77 ?_
                rw [show (2 * (six (fun i => bbt (F 71) 32 (6 * k + i)) i)) + 0 = six (fun i => bbt (F 71) 32 (6 * k + i)) (i + 1) from (by rw [six, bbt, if_neg lt_b]; rfl)]
                refine M.istore (L' := [some (.ref (A 71)), some (.int 32), some (.ref (A 69)), some (.int 43), some (.int (nI k)), some (.int (six (fun i => bbt (F 71) 32 (6 * k + i)) (i + 1))), some (.int (nI (6 * k + i)))]) dX12_coded_78 (by decide) rfl rfl ?_
                refine M.iinc (v := nI (6 * k + (i + 1))) (L' := [some (.ref (A 71)), some (.int 32), some (.ref (A 69)), some (.int 43), some (.int (nI k)), some (.int (six (fun i => bbt (F 71) 32 (6 * k + i)) (i + 1))), some (.int (nI (6 * k + (i + 1))))]) dX12_coded_80 rfl (nI_1 (6 * k + i)) (by decide) rfl rfl ?_
                refine M.goto (tgt := 29) dX12_coded_83 (by decide) ?_
                exact ih_29 (i + 1) (by omega) (by omega)
              · skip
                have lt_b : 6 * k + i < 8 * 32 := nI_ltn (n := 256) c_52 (by omega) (by omega)
                refine M.aload_nR dX12_coded_55 rfl ?_
                refine M.iload dX12_coded_56 rfl ?_
                refine M.bipush (v := 8) dX12_coded_58 (by decide) ?_
                refine M.idiv dX12_coded_60 (by decide) ?_
                rw [show (nI (6 * k + i)) / 8 = nI ((6 * k + i) / 8) from pk_div (by omega) (by decide) (by decide)]
                refine M.bald (k9 := 71) (j := (6 * k + i) / 8) (g := F 71) dX12_coded_61 rfl rfl rfl rfl (show (6 * k + i) / 8 < 32 by omega) ?_
                refine M.bipush (v := 7) dX12_coded_62 (by decide) ?_
                refine M.iload dX12_coded_64 rfl ?_
                refine M.bipush (v := 8) dX12_coded_66 (by decide) ?_
                refine M.irem dX12_coded_68 (by decide) ?_
                rw [show (nI (6 * k + i)) - (nI (6 * k + i)) / 8 * 8 = nI ((6 * k + i) % 8) from pk_rem (by omega) (by decide) (by decide)]
                refine M.isub dX12_coded_69 ?_
                rw [show 7 - (nI ((6 * k + i) % 8)) = nI (7 - (6 * k + i) % 8) from pk_sub (a := 7) (by omega)]
                refine M.ishr dX12_coded_70 ?_
                refine M.iconst (v := 1) dX12_coded_71 (by decide) ?_
                refine M.iand dX12_coded_72 ?_
                rw [show (((F 71) ((6 * k + i) / 8)) >>> ((nI (7 - (6 * k + i) % 8) : Int32) &&& 31)) &&& 1 = bI (bbt (F 71) 32 (6 * k + i)) from bbt_t lt_b]
                refine M.goto (tgt := 77) dX12_coded_73 (by decide) ?_
                refine M.iadd dX12_coded_77 ?_
                rw [show (2 * (six (fun i => bbt (F 71) 32 (6 * k + i)) i)) + (bI (bbt (F 71) 32 (6 * k + i))) = six (fun i => bbt (F 71) 32 (6 * k + i)) (i + 1) from rfl]
                refine M.istore (L' := [some (.ref (A 71)), some (.int 32), some (.ref (A 69)), some (.int 43), some (.int (nI k)), some (.int (six (fun i => bbt (F 71) 32 (6 * k + i)) (i + 1))), some (.int (nI (6 * k + i)))]) dX12_coded_78 (by decide) rfl rfl ?_
                refine M.iinc (v := nI (6 * k + (i + 1))) (L' := [some (.ref (A 71)), some (.int 32), some (.ref (A 69)), some (.int 43), some (.int (nI k)), some (.int (six (fun i => bbt (F 71) 32 (6 * k + i)) (i + 1))), some (.int (nI (6 * k + (i + 1))))]) dX12_coded_80 rfl (nI_1 (6 * k + i)) (by decide) rfl rfl ?_
                refine M.goto (tgt := 29) dX12_coded_83 (by decide) ?_
                exact ih_29 (i + 1) (by omega) (by omega)
        exact cut_29 7 0 (by omega) (by omega)
  have t9 := cut_13 44 0 (by omega) (by omega)
  rw [show cdk (F 71) 32 0 = [] from rfl, updl_nil, setF_self] at t9
  exact t9

theorem m_handle {Λ : kL} {m : Nat} {A : Nat → Nat} {I : Nat → Int32} {F : Nat → Nat → Int32} (hA : mInj A) {a : Nat} (ha : 4 * a + 4 ≤ 3200) {d : List Int32} (hd : tl (F 23) (4 * a) 4 = d) : mCt Λ mX12_handle m A [.ref m, .int (nI a)] I F (fun r I' F' => r = none ∧ I' = I ∧ F' = hs F (updl (F 68) 0 (dby d 16)) (updl (F 69) 0 (b64 d 22))) := by
  refine mCt.of hA pn_X12 [some (.ref m), some (.int (nI a)), none] rfl (Nat.le_of_ble_eq_true rfl) fun X => ?_
  have hdl : d.length = 4 := by rw [← hd, tl_len]
  have hd4 : tl (F 23) (4 * a) d.length = d := by rw [hdl]; exact hd
  refine M.iconst (v := 0) dX12_handle_0 (by decide) ?_
  refine M.istore_n (L' := [some (.ref m), some (.int (nI a)), some (.int 0)]) dX12_handle_1 (by decide) rfl rfl ?_
  have cut_2 : ∀ (k_2 : Nat) (k : Nat), (k ≤ 16) → (17 ≤ k + k_2) → M Λ X mX12_handle m A (fun r I' F' => r = none ∧ I' = I ∧ F' = hs F (updl (F 68) 0 (dby d 16)) (updl (F 69) 0 (b64 d 22))) I (setF F 68 (updl (F 68) 0 (dby d k))) 2 [some (.ref m), some (.int (nI a)), some (.int (nI k))] [] := by
    intro k_2
    induction k_2 with
    | zero => intro k h1 h2; exact absurd h2 (by omega)
    | succ k_2 ih_2 =>
      intro k h1 h2
      refine M.iload_n dX12_handle_2 rfl ?_
      refine M.bipush (v := 16) dX12_handle_3 (by decide) ?_
      refine M.icmp_ge (tgt := 43) dX12_handle_5 (by decide) (fun c_5 => ?_) (fun c_5 => ?_)
      · skip
        have e1 := nI_gen (n := 16) c_5 h1 (by omega); subst e1
        have hq9 : ∀ q, q < 16 → setF F 68 (updl (F 68) 0 (dby d 16)) 68 q = b8 (d.getD (q / 4) 0 >>> (nI (24 - 8 * (q % 4)) &&& 31)) := fun q hq => by
          rw [setF_s]
          have h9 := updl_in (f := F 68) (i := 0) (l := dby d 16) (j := q) (by rw [dby_len]; exact hq)
          rw [Nat.zero_add] at h9
          rw [h9, dby_at hq]
        skip
        refine M.aload_nR dX12_handle_43 rfl ?_
        refine M.getr dX12_handle_44 fl_X12_167 rfl rfl ?_
        refine M.bipush (v := 16) dX12_handle_47 (by decide) ?_
        refine M.aload_nR dX12_handle_49 rfl ?_
        refine M.getr dX12_handle_50 fl_X12_170 rfl rfl ?_
        refine M.callS [.ref (A 68), .int 16, .ref (A 69)] dX12_handle_53 mdX12_coded ssX12_coded lk_X12_289 rfl rfl rfl rfl (m_coded_16 hA) ?_
        rintro _ I9 F9 ⟨rfl, e9, e8⟩
        have e9 := e9.symm; subst e9; have e8 := e8.symm; subst e8
        rw [cdk_b64 (f := setF F 68 (updl (F 68) 0 (dby d 16)) 68) (d := d) (n := 16) (by omega) hq9, show setF F 68 (updl (F 68) 0 (dby d 16)) 69 = F 69 from rfl]
        refine M.istore_n (L' := [some (.ref m), some (.int (nI a)), some (.int 22)]) dX12_handle_56 (by decide) rfl rfl ?_
        refine M.vret dX12_handle_57 rfl ?_
        exact ⟨rfl, rfl, rfl⟩
      · skip
        have lt_k : k < 16 := nI_ltn (n := 16) c_5 (by omega) (by omega)
        refine M.aload_nR dX12_handle_8 rfl ?_
        refine M.getr dX12_handle_9 fl_X12_167 rfl rfl ?_
        refine M.iload_n dX12_handle_12 rfl ?_
        refine M.aload_nR dX12_handle_13 rfl ?_
        refine M.getr dX12_handle_14 fl_X12_57 rfl rfl ?_
        refine M.iconst (v := 4) dX12_handle_17 (by decide) ?_
        refine M.iload_n dX12_handle_18 rfl ?_
        refine M.imul dX12_handle_19 ?_
        rw [show 4 * (nI a) = nI (4 * a) from nI_mulc 4 a]
        refine M.iload_n dX12_handle_20 rfl ?_
        refine M.iconst (v := 4) dX12_handle_21 (by decide) ?_
        refine M.idiv dX12_handle_22 (by decide) ?_
        rw [show (nI k) / 4 = nI (k / 4) from pk_div (by omega) (by decide) (by decide)]
        refine M.iadd dX12_handle_23 ?_
        rw [show (nI (4 * a)) + (nI (k / 4)) = nI (4 * a + k / 4) from nI_add (4 * a) (k / 4)]
        refine M.ialdv (k9 := 23) (j := 4 * a + k / 4) (g := F 23) (v := d.getD (k / 4) 0) dX12_handle_24 rfl rfl rfl rfl (show 4 * a + k / 4 < 3200 by omega) (tl_bs.mp hd4 (k / 4) (by omega)) ?_
        refine M.bipush (v := 24) dX12_handle_25 (by decide) ?_
        refine M.bipush (v := 8) dX12_handle_27 (by decide) ?_
        refine M.iload_n dX12_handle_29 rfl ?_
        refine M.iconst (v := 4) dX12_handle_30 (by decide) ?_
        refine M.irem dX12_handle_31 (by decide) ?_
        rw [show (nI k) - (nI k) / 4 * 4 = nI (k % 4) from pk_rem (by omega) (by decide) (by decide)]
        refine M.imul dX12_handle_32 ?_
        rw [show 8 * (nI (k % 4)) = nI (8 * (k % 4)) from nI_mulc 8 (k % 4)]
        refine M.isub dX12_handle_33 ?_
        rw [show 24 - (nI (8 * (k % 4))) = nI (24 - 8 * (k % 4)) from pk_sub (a := 24) (by omega)]
        refine M.ishr dX12_handle_34 ?_
        refine M.i2b8 dX12_handle_35 ?_
        refine M.bast1 (k9 := 68) (j := 0 + (dby d k).length) dX12_handle_36 rfl rfl (by rw [dby_len, Nat.zero_add]) (show 0 + (dby d k).length < 16 by rw [dby_len]; omega) (b8_b8 _) ?_
        rw [updF_set, updl_snoc, ← dby_s]
        refine M.iinc (v := nI (k + 1)) (L' := [some (.ref m), some (.int (nI a)), some (.int (nI (k + 1)))]) dX12_handle_37 rfl (nI_1 k) (by decide) rfl rfl ?_
        refine M.goto (tgt := 2) dX12_handle_40 (by decide) ?_
        exact ih_2 (k + 1) (by omega) (by omega)
  have t9 := cut_2 17 0 (by omega) (by omega)
  rw [show dby d 0 = [] from rfl, updl_nil, setF_self] at t9
  exact t9

theorem m_isLikeH {Λ : kL} {m : Nat} {A : Nat → Nat} {I : Nat → Int32} {F : Nat → Nat → Int32} (hA : mInj A) {k1 : Nat} (r1 : mRef k1 = true) (t1 : mK k1 = 0) (hk8 : k1 ≠ 68) (hk9 : k1 ≠ 69) {i : Nat} {v d : List Int32} {g : Nat → Int32} (hi : i + v.length ≤ mN k1) (hv : tl (F k1) i v.length = v) : mCt Λ mX12_isLike m A [.ref (A k1), .int (nI i), .int (nI v.length), .ref (A 69), .int 0, .int 22] I (hs F g (updl (F 69) 0 (b64 d 22))) (fun r I' F' => r = some (.int (bI (decide (v = b64 d 22)))) ∧ I' = I ∧ F' = hs F g (updl (F 69) 0 (b64 d 22))) := by
  have h := m_isLike (Λ := Λ) (m := m) (I := I) hA (F := hs F g (updl (F 69) 0 (b64 d 22))) (k1 := k1) (k2 := 69) r1 t1 rfl rfl (i := i) (n := v.length) (j := 0) (p := 22) hi (by decide)
  have e1 : hs F g (updl (F 69) 0 (b64 d 22)) k1 = F k1 := by rw [hs, setF_n _ _ hk9, setF_n _ _ hk8]
  have e2 : tl (hs F g (updl (F 69) 0 (b64 d 22)) 69) 0 22 = b64 d 22 := by
    have h9 := tl_in (f := F 69) (i := 0) (l := b64 d 22)
    rw [b64_len] at h9
    rw [hs, setF_s]
    exact h9
  rw [e1, hv, e2] at h
  exact h

theorem m_isHandle {Λ : kL} {m : Nat} {A : Nat → Nat} {I : Nat → Int32} {F : Nat → Nat → Int32} (hA : mInj A) {a : Nat} (ha : 4 * a + 4 ≤ 3200) {d : List Int32} (hd : tl (F 23) (4 * a) 4 = d) {k1 : Nat} (r_k1 : mRef k1 = true) (t_k1 : mK k1 = 0) (hk8 : k1 ≠ 68) (hk9 : k1 ≠ 69) {i : Nat} {v : List Int32} (hi : i + v.length ≤ mN k1) (hv9 : tl (F k1) i v.length = v) : mCt Λ mX12_isHandle m A [.ref m, .int (nI a), .ref (A k1), .int (nI i), .int (nI v.length)] I F (fun r I' F' => ∃ a9 b9, r = some (.int (bI (decide (v = b64 d 22)))) ∧ I' = I ∧ F' = hs F a9 b9) := by
  refine mCt.of hA pn_X12 [some (.ref m), some (.int (nI a)), some (.ref (A k1)), some (.int (nI i)), some (.int (nI v.length))] rfl (Nat.le_of_ble_eq_true rfl) fun X => ?_
  refine M.aload_nR dX12_isHandle_0 rfl ?_
  refine M.iload_n dX12_isHandle_1 rfl ?_
  refine M.callV [.int (nI a)] dX12_isHandle_2 mdX12_handle imX12_handle seX12_handle lk_X12_293 rfl rfl rfl rfl (m_handle hA ha hd) ?_
  rintro _ I9 F9 ⟨rfl, e9, e8⟩
  have e9 := e9.symm; subst e9; have e8 := e8.symm; subst e8
  refine M.aload_nR dX12_isHandle_5 rfl ?_
  refine M.iload_n dX12_isHandle_6 rfl ?_
  refine M.iload dX12_isHandle_7 rfl ?_
  refine M.aload_nR dX12_isHandle_9 rfl ?_
  refine M.getr dX12_isHandle_10 fl_X12_170 rfl rfl ?_
  refine M.iconst (v := 0) dX12_isHandle_13 (by decide) ?_
  refine M.bipush (v := 22) dX12_isHandle_14 (by decide) ?_
  refine M.callS [.ref (A k1), .int (nI i), .int (nI v.length), .ref (A 69), .int 0, .int 22] dX12_isHandle_16 mdX12_isLike ssX12_isLike lk_X12_264 rfl rfl rfl rfl (m_isLikeH hA r_k1 t_k1 hk8 hk9 hi hv9) ?_
  rintro _ I9 F9 ⟨rfl, e9, e8⟩
  have e9 := e9.symm; subst e9; have e8 := e8.symm; subst e8
  refine M.zret dX12_isHandle_19 rfl (bI_nar _) ?_
  exact ⟨_, _, rfl, rfl, rfl⟩

theorem m_saysHandle {Λ : kL} {m : Nat} {A : Nat → Nat} {I : Nat → Int32} {F : Nat → Nat → Int32} (hA : mInj A) {a : Nat} (ha : 4 * a + 4 ≤ 3200) {d : List Int32} (hd : tl (F 23) (4 * a) 4 = d) {n : Nat} (h4 : I 4 = nI n) (hn : n ≤ 7000) : mCt Λ mX12_saysHandle m A [.ref m, .int (nI a)] I F (fun r I' F' => ∃ a9 b9, r = none ∧ I' = mo I n (b64 d 22) ∧ F' = fo (hs F a9 b9) n (b64 d 22)) := by
  refine mCt.of hA pn_X12 [some (.ref m), some (.int (nI a)), none] rfl (Nat.le_of_ble_eq_true rfl) fun X => ?_
  refine M.aload_nR dX12_saysHandle_0 rfl ?_
  refine M.iload_n dX12_saysHandle_1 rfl ?_
  refine M.callV [.int (nI a)] dX12_saysHandle_2 mdX12_handle imX12_handle seX12_handle lk_X12_293 rfl rfl rfl rfl (m_handle hA ha hd) ?_
  rintro _ I9 F9 ⟨rfl, e9, e8⟩
  have e9 := e9.symm; subst e9; have e8 := e8.symm; subst e8
  refine M.iconst (v := 0) dX12_saysHandle_5 (by decide) ?_
  refine M.istore_n (L' := [some (.ref m), some (.int (nI a)), some (.int 0)]) dX12_saysHandle_6 (by decide) rfl rfl ?_
  have cut_7 : ∀ (k_7 : Nat) (k : Nat), (k ≤ 22) → (23 ≤ k + k_7) → M Λ X mX12_saysHandle m A (fun r I' F' => ∃ a9 b9, r = none ∧ I' = mo I n (b64 d 22) ∧ F' = fo (hs F a9 b9) n (b64 d 22)) (mo I n ((b64 d 22).take k)) (fo (hs F (updl (F 68) 0 (dby d 16)) (updl (F 69) 0 (b64 d 22))) n ((b64 d 22).take k)) 7 [some (.ref m), some (.int (nI a)), some (.int (nI k))] [] := by
    intro k_7
    induction k_7 with
    | zero => intro k h1 h2; exact absurd h2 (by omega)
    | succ k_7 ih_7 =>
      intro k h1 h2
      refine M.iload_n dX12_saysHandle_7 rfl ?_
      refine M.bipush (v := 22) dX12_saysHandle_8 (by decide) ?_
      refine M.icmp_ge (tgt := 29) dX12_saysHandle_10 (by decide) (fun c_10 => ?_) (fun c_10 => ?_)
      · skip
        have e1 := nI_gen (n := 22) c_10 h1 (by omega); subst e1
        rw [List.take_of_length_le (by rw [b64_len]; decide)]
        skip
        refine M.vret dX12_saysHandle_29 rfl ?_
        exact ⟨_, _, rfl, rfl, rfl⟩
      · skip
        have lt_k : k < 22 := nI_ltn (n := 22) c_10 (by omega) (by omega)
        have hkl : k ≤ (b64 d 22).length := by rw [b64_len]; omega
        refine M.aload_nR dX12_saysHandle_13 rfl ?_
        refine M.aload_nR dX12_saysHandle_14 rfl ?_
        refine M.getr dX12_saysHandle_15 fl_X12_170 rfl rfl ?_
        refine M.iload_n dX12_saysHandle_18 rfl ?_
        refine M.baldv (k9 := 69) (j := k) (g := updl (F 69) 0 (b64 d 22)) (v := (b64 d 22).getD k 0) dX12_saysHandle_19 rfl rfl rfl rfl (show k < 44 by omega) (by have h9 := updl_in (f := F 69) (i := 0) (l := (b64 d 22)) (j := k) (by rw [b64_len]; exact lt_k); rwa [Nat.zero_add] at h9) ?_
        refine M.callV [.int ((b64 d 22).getD k 0)] dX12_saysHandle_20 mdX12_puts imX12_puts seX12_puts lk_X12_299 rfl rfl rfl rfl (m_puts hA _ (mo_4 (len_take (b64 d 22) n k hkl)) (by omega)) ?_
        rintro _ I9 F9 ⟨rfl, e9, e8⟩
        have e9 := e9.symm; subst e9; have e8 := e8.symm; subst e8
        rw [mo_mo (len_take (b64 d 22) n k hkl), fo_fo (len_take (b64 d 22) n k hkl), bts_at (bts_b64 d 22) (by rw [b64_len]; exact lt_k), ← take_at (by rw [b64_len]; exact lt_k)]
        refine M.iinc (v := nI (k + 1)) (L' := [some (.ref m), some (.int (nI a)), some (.int (nI (k + 1)))]) dX12_saysHandle_23 rfl (nI_1 k) (by decide) rfl rfl ?_
        refine M.goto (tgt := 7) dX12_saysHandle_26 (by decide) ?_
        exact ih_7 (k + 1) (by omega) (by omega)
  have t9 := cut_7 23 0 (by omega) (by omega)
  rw [List.take_zero, ← mo_0 I h4, ← fo_0 (hs F (updl (F 68) 0 (dby d 16)) (updl (F 69) 0 (b64 d 22))) n] at t9
  exact t9

theorem m_gives_0 {Λ : kL} {m : Nat} {A : Nat → Nat} {I : Nat → Int32} {F : Nat → Nat → Int32} (hA : mInj A) {U W : List (List Int32)} {na nr : Nat} (h57 : I 57 = nI na) (h62 : I 62 = nI nr) (hna : na ≤ 300) (hnr : nr ≤ 300) (h24 : I 24 = nI U.length) (hUl : U.length ≤ 200 + na + nr) (hU : mDi (F 23) U) (hWl : W.length ≤ 60) (hW : mDi (F 21) W) (h22 : I 22 = nI W.length) : mCt Λ mX12_gives m A [.ref m, .int 0] I F (fun r I' F' => (gv U W na nr false = none ∧ r = some (.int (-1)) ∧ I' = I ∧ F' = F) ∨ ∃ (ds W1 : List (List Int32)) (g21 : Nat → Int32), gv U W na nr false = some (ds, W1) ∧ r = some (.int (nI U.length)) ∧ I' = upd (upd I 24 (nI (U.length + ds.length))) 22 (nI W1.length) ∧ F' = setF (setF F 23 (updl (F 23) (4 * U.length) ds.flatten)) 21 g21 ∧ mDi g21 W1) := by
  refine mCt.of hA pn_X12 [some (.ref m), some (.int 0)] rfl (Nat.le_of_ble_eq_true rfl) fun X => ?_
  refine M.aload_nR dX12_gives_0 rfl ?_
  refine M.geti (v := nI na) dX12_gives_1 fl_X12_462 rfl rfl h57 ?_
  refine M.sipush (v := 300) dX12_gives_4 (by decide) ?_
  refine M.icmp_eq (tgt := 24) dX12_gives_7 (by decide) (fun c_7 => ?_) (fun c_7 => ?_)
  · skip
    have hyx : na = 300 := (nI_eq (a := na) (b := 300) (by omega) (by omega)).mp c_7
    refine M.iconst (v := (-1)) dX12_gives_24 (by decide) ?_
    refine M.goto (tgt := 41) dX12_gives_25 (by decide) ?_
    refine M.iret dX12_gives_41 rfl ?_
    exact Or.inl ⟨if_pos (by first | exact Or.inl hyx | exact Or.inr ⟨rfl, hyy⟩), rfl, rfl, rfl⟩
  · skip
    have hnx : ¬ na = 300 := fun q => c_7 ((nI_eq (a := na) (b := 300) (by omega) (by omega)).mpr q)
    refine M.iload_n dX12_gives_10 rfl ?_
    refine M.if_eq (tgt := 28) dX12_gives_11 (by decide) (fun c_11 => ?_) (fun c_11 => absurd rfl c_11)
    refine M.aload_nR dX12_gives_28 rfl ?_
    refine M.iload_n dX12_gives_29 rfl ?_
    refine M.if_eq (tgt := 37) dX12_gives_30 (by decide) (fun c_30 => ?_) (fun c_30 => absurd rfl c_30)
    refine M.iconst (v := 1) dX12_gives_37 (by decide) ?_
    have hcond : ¬ (na = 300 ∨ (false = true ∧ nr = 300)) := by first | exact (fun q => q.elim hnx (fun z => absurd z.1 (by decide))) | exact (fun q => q.elim hnx (fun z => hny z.2))
    refine M.callV [.int 1] dX12_gives_38 mdX12_takes imX12_takes seX12_takes lk_X12_411 rfl rfl rfl rfl (m_takes_1 hA h24 (by omega) hU hWl hW h22 (by omega)) ?_
    rintro _ _ _ (⟨e1, rfl, rfl, rfl⟩ | ⟨d, W1, g21, e1, rfl, rfl, rfl, h9⟩)
    · skip
      refine M.iret dX12_gives_41 rfl ?_
      exact Or.inl ⟨by rw [gv, if_neg hcond, e1], rfl, rfl, rfl⟩
    · skip
      refine M.iret dX12_gives_41 rfl ?_
      refine Or.inr ⟨[d], W1, g21, ?_, rfl, rfl, ?_, h9⟩
      · rw [gv, if_neg hcond, e1]; rfl
      · rw [List.flatten_singleton]

theorem m_gives_1 {Λ : kL} {m : Nat} {A : Nat → Nat} {I : Nat → Int32} {F : Nat → Nat → Int32} (hA : mInj A) {U W : List (List Int32)} {na nr : Nat} (h57 : I 57 = nI na) (h62 : I 62 = nI nr) (hna : na ≤ 300) (hnr : nr ≤ 300) (h24 : I 24 = nI U.length) (hUl : U.length ≤ 200 + na + nr) (hU : mDi (F 23) U) (hWl : W.length ≤ 60) (hW : mDi (F 21) W) (h22 : I 22 = nI W.length) : mCt Λ mX12_gives m A [.ref m, .int 1] I F (fun r I' F' => (gv U W na nr true = none ∧ r = some (.int (-1)) ∧ I' = I ∧ F' = F) ∨ ∃ (ds W1 : List (List Int32)) (g21 : Nat → Int32), gv U W na nr true = some (ds, W1) ∧ r = some (.int (nI U.length)) ∧ I' = upd (upd I 24 (nI (U.length + ds.length))) 22 (nI W1.length) ∧ F' = setF (setF F 23 (updl (F 23) (4 * U.length) ds.flatten)) 21 g21 ∧ mDi g21 W1) := by
  refine mCt.of hA pn_X12 [some (.ref m), some (.int 1)] rfl (Nat.le_of_ble_eq_true rfl) fun X => ?_
  refine M.aload_nR dX12_gives_0 rfl ?_
  refine M.geti (v := nI na) dX12_gives_1 fl_X12_462 rfl rfl h57 ?_
  refine M.sipush (v := 300) dX12_gives_4 (by decide) ?_
  refine M.icmp_eq (tgt := 24) dX12_gives_7 (by decide) (fun c_7 => ?_) (fun c_7 => ?_)
  · skip
    have hyx : na = 300 := (nI_eq (a := na) (b := 300) (by omega) (by omega)).mp c_7
    refine M.iconst (v := (-1)) dX12_gives_24 (by decide) ?_
    refine M.goto (tgt := 41) dX12_gives_25 (by decide) ?_
    refine M.iret dX12_gives_41 rfl ?_
    exact Or.inl ⟨if_pos (by first | exact Or.inl hyx | exact Or.inr ⟨rfl, hyy⟩), rfl, rfl, rfl⟩
  · skip
    have hnx : ¬ na = 300 := fun q => c_7 ((nI_eq (a := na) (b := 300) (by omega) (by omega)).mpr q)
    refine M.iload_n dX12_gives_10 rfl ?_
    refine M.if_eq (tgt := 28) dX12_gives_11 (by decide) (fun c_11 => absurd c_11 (by decide)) (fun c_11 => ?_)
    refine M.aload_nR dX12_gives_14 rfl ?_
    refine M.geti (v := nI nr) dX12_gives_15 fl_X12_465 rfl rfl h62 ?_
    refine M.sipush (v := 300) dX12_gives_18 (by decide) ?_
    refine M.icmp_ne (tgt := 28) dX12_gives_21 (by decide) (fun c_21 => ?_) (fun c_21 => ?_)
    · skip
      have hny : ¬ nr = 300 := fun q => c_21 ((nI_eq (a := nr) (b := 300) (by omega) (by omega)).mpr q)
      refine M.aload_nR dX12_gives_28 rfl ?_
      refine M.iload_n dX12_gives_29 rfl ?_
      refine M.if_eq (tgt := 37) dX12_gives_30 (by decide) (fun c_30 => absurd c_30 (by decide)) (fun c_30 => ?_)
      refine M.iconst (v := 2) dX12_gives_33 (by decide) ?_
      refine M.goto (tgt := 38) dX12_gives_34 (by decide) ?_
      have hcond : ¬ (na = 300 ∨ (true = true ∧ nr = 300)) := by first | exact (fun q => q.elim hnx (fun z => absurd z.1 (by decide))) | exact (fun q => q.elim hnx (fun z => hny z.2))
      refine M.callV [.int 2] dX12_gives_38 mdX12_takes imX12_takes seX12_takes lk_X12_411 rfl rfl rfl rfl (m_takes_2 hA h24 (by omega) hU hWl hW h22 (by omega)) ?_
      rintro _ _ _ (⟨e1, rfl, rfl, rfl⟩ | ⟨d, W1, e, W2, g21, e1, e2, rfl, rfl, rfl, h9⟩)
      · skip
        refine M.iret dX12_gives_41 rfl ?_
        refine Or.inl ⟨?_, rfl, rfl, rfl⟩
        rw [gv, if_neg hcond]
        rcases e1 with e1 | ⟨d, W1, e1, e2⟩
        · rw [e1]
        · rw [e1]; show (if true = true then _ else _) = _; rw [if_pos rfl, e2]
      · skip
        refine M.iret dX12_gives_41 rfl ?_
        refine Or.inr ⟨[d, e], W2, g21, ?_, rfl, rfl, ?_, h9⟩
        · rw [gv, if_neg hcond, e1]; show (if true = true then _ else _) = _; rw [if_pos rfl, e2]
        · rw [List.flatten_cons, List.flatten_singleton]
    · skip
      have hyy : nr = 300 := (nI_eq (a := nr) (b := 300) (by omega) (by omega)).mp c_21
      refine M.iconst (v := (-1)) dX12_gives_24 (by decide) ?_
      refine M.goto (tgt := 41) dX12_gives_25 (by decide) ?_
      refine M.iret dX12_gives_41 rfl ?_
      exact Or.inl ⟨if_pos (by first | exact Or.inl hyx | exact Or.inr ⟨rfl, hyy⟩), rfl, rfl, rfl⟩

theorem m_gives {Λ : kL} {m : Nat} {A : Nat → Nat} {I : Nat → Int32} {F : Nat → Nat → Int32} (hA : mInj A) {U W : List (List Int32)} {na nr : Nat} (h57 : I 57 = nI na) (h62 : I 62 = nI nr) (hna : na ≤ 300) (hnr : nr ≤ 300) (h24 : I 24 = nI U.length) (hUl : U.length ≤ 200 + na + nr) (hU : mDi (F 23) U) (hWl : W.length ≤ 60) (hW : mDi (F 21) W) (h22 : I 22 = nI W.length) (b : Bool) : mCt Λ mX12_gives m A [.ref m, .int (bI b)] I F (fun r I' F' => (gv U W na nr b = none ∧ r = some (.int (-1)) ∧ I' = I ∧ F' = F) ∨ ∃ (ds W1 : List (List Int32)) (g21 : Nat → Int32), gv U W na nr b = some (ds, W1) ∧ r = some (.int (nI U.length)) ∧ I' = upd (upd I 24 (nI (U.length + ds.length))) 22 (nI W1.length) ∧ F' = setF (setF F 23 (updl (F 23) (4 * U.length) ds.flatten)) 21 g21 ∧ mDi g21 W1) := by
  cases b with
  | false => exact m_gives_0 hA h57 h62 hna hnr h24 hUl hU hWl hW h22
  | true => exact m_gives_1 hA h57 h62 hna hnr h24 hUl hU hWl hW h22
