/-! kinds of bytes: the class's and the reference's predicates on one number -/
theorem i32_lt {a b : Int32} : a < b ↔ a.toInt < b.toInt := Int32.lt_iff_toInt_lt
theorem i32_le {a b : Int32} : a ≤ b ↔ a.toInt ≤ b.toInt := Int32.le_iff_toInt_le
theorem i32_eq {a b : Int32} : a = b ↔ a.toInt = b.toInt := Int32.toInt_inj.symm
/-- 33 to 126 -/
def visb (b : Int32) : Bool := decide (33 ≤ b) && decide (b ≤ 126)
/-- letters and digits -/
def aldg (b : Int32) : Bool := (decide (65 ≤ b) && decide (b ≤ 90)) || (decide (97 ≤ b) && decide (b ≤ 122)) || (decide (48 ≤ b) && decide (b ≤ 57))
def unres (b : Int32) : Bool := aldg b || decide (b = 45) || decide (b = 46) || decide (b = 95) || decide (b = 126)
/-- a hexadecimal digit's number, or -1 -/
def hexd (b : Int32) : Int32 := if 48 ≤ b ∧ b ≤ 57 then b - 48 else if 65 ≤ b ∧ b ≤ 70 then b - 65 + 10 else if 97 ≤ b ∧ b ≤ 102 then b - 97 + 10 else -1
def wthn (x y : Int32) : Bool := decide (x &&& (y ^^^ -1) = 0)
def lifeb (x : Int32) : Bool := decide (1 ≤ x) && decide (x ≤ 1000000)

theorem c_isVisibleByte {Λ : kL} {σ : kh} (x : Int32) : jCt Λ mX11_isVisibleByte 0 0 [.int x] σ (fun v σ' => v = some (.int (bI (visb x))) ∧ σ' = σ) := by
  refine jCt.of pn_X11 [some (.int x)] rfl (Nat.le_of_ble_eq_true rfl) fun X => ?_
  refine J.iload_n dX11_isVisibleByte_0 rfl ?_
  refine J.bipush (v := 33) dX11_isVisibleByte_1 (by decide) ?_
  refine J.icmp_lt (tgt := 16) dX11_isVisibleByte_3 (by decide) (fun c_3 => ?_) (fun c_3 => ?_)
  · skip
    refine J.iconst (v := 0) dX11_isVisibleByte_16 (by decide) ?_
    refine J.zret dX11_isVisibleByte_17 rfl rfl ?_
    refine ⟨congrArg (fun z => some (Value.int z)) ?_, rfl⟩
    have e0 : visb x = false := by
      simp only [visb, Bool.and_eq_true, Bool.or_eq_true, Bool.and_eq_false_iff, Bool.or_eq_false_iff, decide_eq_true_eq, decide_eq_false_iff_not, i32_lt, i32_le, i32_eq, Int32.reduceToInt] at *
      omega
    rw [e0]; rfl
  · skip
    refine J.iload_n dX11_isVisibleByte_6 rfl ?_
    refine J.bipush (v := 126) dX11_isVisibleByte_7 (by decide) ?_
    refine J.icmp_gt (tgt := 16) dX11_isVisibleByte_9 (by decide) (fun c_9 => ?_) (fun c_9 => ?_)
    · skip
      refine J.iconst (v := 0) dX11_isVisibleByte_16 (by decide) ?_
      refine J.zret dX11_isVisibleByte_17 rfl rfl ?_
      refine ⟨congrArg (fun z => some (Value.int z)) ?_, rfl⟩
      have e0 : visb x = false := by
        simp only [visb, Bool.and_eq_true, Bool.or_eq_true, Bool.and_eq_false_iff, Bool.or_eq_false_iff, decide_eq_true_eq, decide_eq_false_iff_not, i32_lt, i32_le, i32_eq, Int32.reduceToInt] at *
        omega
      rw [e0]; rfl
    · skip
      refine J.iconst (v := 1) dX11_isVisibleByte_12 (by decide) ?_
      refine J.goto (tgt := 17) dX11_isVisibleByte_13 (by decide) ?_
      refine J.zret dX11_isVisibleByte_17 rfl rfl ?_
      refine ⟨congrArg (fun z => some (Value.int z)) ?_, rfl⟩
      have e0 : visb x = true := by
        simp only [visb, Bool.and_eq_true, Bool.or_eq_true, Bool.and_eq_false_iff, Bool.or_eq_false_iff, decide_eq_true_eq, decide_eq_false_iff_not, i32_lt, i32_le, i32_eq, Int32.reduceToInt] at *
        omega
      rw [e0]; rfl

theorem c_isUnreserved {Λ : kL} {σ : kh} (x : Int32) : jCt Λ mX11_isUnreserved 0 0 [.int x] σ (fun v σ' => v = some (.int (bI (unres x))) ∧ σ' = σ) := by
  refine jCt.of pn_X11 [some (.int x)] rfl (Nat.le_of_ble_eq_true rfl) fun X => ?_
  refine J.iload_n dX11_isUnreserved_0 rfl ?_
  refine J.bipush (v := 65) dX11_isUnreserved_1 (by decide) ?_
  refine J.icmp_lt (tgt := 12) dX11_isUnreserved_3 (by decide) (fun c_3 => ?_) (fun c_3 => ?_)
  · skip
    refine J.iload_n dX11_isUnreserved_12 rfl ?_
    refine J.bipush (v := 97) dX11_isUnreserved_13 (by decide) ?_
    refine J.icmp_lt (tgt := 24) dX11_isUnreserved_15 (by decide) (fun c_15 => ?_) (fun c_15 => ?_)
    · skip
      refine J.iload_n dX11_isUnreserved_24 rfl ?_
      refine J.bipush (v := 48) dX11_isUnreserved_25 (by decide) ?_
      refine J.icmp_lt (tgt := 36) dX11_isUnreserved_27 (by decide) (fun c_27 => ?_) (fun c_27 => ?_)
      · skip
        refine J.iload_n dX11_isUnreserved_36 rfl ?_
        refine J.bipush (v := 45) dX11_isUnreserved_37 (by decide) ?_
        refine J.icmp_eq (tgt := 60) dX11_isUnreserved_39 (by decide) (fun c_39 => ?_) (fun c_39 => ?_)
        · skip
          refine J.iconst (v := 1) dX11_isUnreserved_60 (by decide) ?_
          refine J.goto (tgt := 65) dX11_isUnreserved_61 (by decide) ?_
          refine J.zret dX11_isUnreserved_65 rfl rfl ?_
          refine ⟨congrArg (fun z => some (Value.int z)) ?_, rfl⟩
          have e0 : unres x = true := by
            simp only [unres, aldg, Bool.and_eq_true, Bool.or_eq_true, Bool.and_eq_false_iff, Bool.or_eq_false_iff, decide_eq_true_eq, decide_eq_false_iff_not, i32_lt, i32_le, i32_eq, Int32.reduceToInt] at *
            omega
          rw [e0]; rfl
        · skip
          refine J.iload_n dX11_isUnreserved_42 rfl ?_
          refine J.bipush (v := 46) dX11_isUnreserved_43 (by decide) ?_
          refine J.icmp_eq (tgt := 60) dX11_isUnreserved_45 (by decide) (fun c_45 => ?_) (fun c_45 => ?_)
          · skip
            refine J.iconst (v := 1) dX11_isUnreserved_60 (by decide) ?_
            refine J.goto (tgt := 65) dX11_isUnreserved_61 (by decide) ?_
            refine J.zret dX11_isUnreserved_65 rfl rfl ?_
            refine ⟨congrArg (fun z => some (Value.int z)) ?_, rfl⟩
            have e0 : unres x = true := by
              simp only [unres, aldg, Bool.and_eq_true, Bool.or_eq_true, Bool.and_eq_false_iff, Bool.or_eq_false_iff, decide_eq_true_eq, decide_eq_false_iff_not, i32_lt, i32_le, i32_eq, Int32.reduceToInt] at *
              omega
            rw [e0]; rfl
          · skip
            refine J.iload_n dX11_isUnreserved_48 rfl ?_
            refine J.bipush (v := 95) dX11_isUnreserved_49 (by decide) ?_
            refine J.icmp_eq (tgt := 60) dX11_isUnreserved_51 (by decide) (fun c_51 => ?_) (fun c_51 => ?_)
            · skip
              refine J.iconst (v := 1) dX11_isUnreserved_60 (by decide) ?_
              refine J.goto (tgt := 65) dX11_isUnreserved_61 (by decide) ?_
              refine J.zret dX11_isUnreserved_65 rfl rfl ?_
              refine ⟨congrArg (fun z => some (Value.int z)) ?_, rfl⟩
              have e0 : unres x = true := by
                simp only [unres, aldg, Bool.and_eq_true, Bool.or_eq_true, Bool.and_eq_false_iff, Bool.or_eq_false_iff, decide_eq_true_eq, decide_eq_false_iff_not, i32_lt, i32_le, i32_eq, Int32.reduceToInt] at *
                omega
              rw [e0]; rfl
            · skip
              refine J.iload_n dX11_isUnreserved_54 rfl ?_
              refine J.bipush (v := 126) dX11_isUnreserved_55 (by decide) ?_
              refine J.icmp_ne (tgt := 64) dX11_isUnreserved_57 (by decide) (fun c_57 => ?_) (fun c_57 => ?_)
              · skip
                refine J.iconst (v := 0) dX11_isUnreserved_64 (by decide) ?_
                refine J.zret dX11_isUnreserved_65 rfl rfl ?_
                refine ⟨congrArg (fun z => some (Value.int z)) ?_, rfl⟩
                have e0 : unres x = false := by
                  simp only [unres, aldg, Bool.and_eq_true, Bool.or_eq_true, Bool.and_eq_false_iff, Bool.or_eq_false_iff, decide_eq_true_eq, decide_eq_false_iff_not, i32_lt, i32_le, i32_eq, Int32.reduceToInt] at *
                  omega
                rw [e0]; rfl
              · skip
                refine J.iconst (v := 1) dX11_isUnreserved_60 (by decide) ?_
                refine J.goto (tgt := 65) dX11_isUnreserved_61 (by decide) ?_
                refine J.zret dX11_isUnreserved_65 rfl rfl ?_
                refine ⟨congrArg (fun z => some (Value.int z)) ?_, rfl⟩
                have e0 : unres x = true := by
                  simp only [unres, aldg, Bool.and_eq_true, Bool.or_eq_true, Bool.and_eq_false_iff, Bool.or_eq_false_iff, decide_eq_true_eq, decide_eq_false_iff_not, i32_lt, i32_le, i32_eq, Int32.reduceToInt] at *
                  omega
                rw [e0]; rfl
      · skip
        refine J.iload_n dX11_isUnreserved_30 rfl ?_
        refine J.bipush (v := 57) dX11_isUnreserved_31 (by decide) ?_
        refine J.icmp_le (tgt := 60) dX11_isUnreserved_33 (by decide) (fun c_33 => ?_) (fun c_33 => ?_)
        · skip
          refine J.iconst (v := 1) dX11_isUnreserved_60 (by decide) ?_
          refine J.goto (tgt := 65) dX11_isUnreserved_61 (by decide) ?_
          refine J.zret dX11_isUnreserved_65 rfl rfl ?_
          refine ⟨congrArg (fun z => some (Value.int z)) ?_, rfl⟩
          have e0 : unres x = true := by
            simp only [unres, aldg, Bool.and_eq_true, Bool.or_eq_true, Bool.and_eq_false_iff, Bool.or_eq_false_iff, decide_eq_true_eq, decide_eq_false_iff_not, i32_lt, i32_le, i32_eq, Int32.reduceToInt] at *
            omega
          rw [e0]; rfl
        · skip
          refine J.iload_n dX11_isUnreserved_36 rfl ?_
          refine J.bipush (v := 45) dX11_isUnreserved_37 (by decide) ?_
          refine J.icmp_eq (tgt := 60) dX11_isUnreserved_39 (by decide) (fun c_39 => ?_) (fun c_39 => ?_)
          · skip
            refine J.iconst (v := 1) dX11_isUnreserved_60 (by decide) ?_
            refine J.goto (tgt := 65) dX11_isUnreserved_61 (by decide) ?_
            refine J.zret dX11_isUnreserved_65 rfl rfl ?_
            refine ⟨congrArg (fun z => some (Value.int z)) ?_, rfl⟩
            have e0 : unres x = true := by
              simp only [unres, aldg, Bool.and_eq_true, Bool.or_eq_true, Bool.and_eq_false_iff, Bool.or_eq_false_iff, decide_eq_true_eq, decide_eq_false_iff_not, i32_lt, i32_le, i32_eq, Int32.reduceToInt] at *
              omega
            rw [e0]; rfl
          · skip
            refine J.iload_n dX11_isUnreserved_42 rfl ?_
            refine J.bipush (v := 46) dX11_isUnreserved_43 (by decide) ?_
            refine J.icmp_eq (tgt := 60) dX11_isUnreserved_45 (by decide) (fun c_45 => ?_) (fun c_45 => ?_)
            · skip
              refine J.iconst (v := 1) dX11_isUnreserved_60 (by decide) ?_
              refine J.goto (tgt := 65) dX11_isUnreserved_61 (by decide) ?_
              refine J.zret dX11_isUnreserved_65 rfl rfl ?_
              refine ⟨congrArg (fun z => some (Value.int z)) ?_, rfl⟩
              have e0 : unres x = true := by
                simp only [unres, aldg, Bool.and_eq_true, Bool.or_eq_true, Bool.and_eq_false_iff, Bool.or_eq_false_iff, decide_eq_true_eq, decide_eq_false_iff_not, i32_lt, i32_le, i32_eq, Int32.reduceToInt] at *
                omega
              rw [e0]; rfl
            · skip
              refine J.iload_n dX11_isUnreserved_48 rfl ?_
              refine J.bipush (v := 95) dX11_isUnreserved_49 (by decide) ?_
              refine J.icmp_eq (tgt := 60) dX11_isUnreserved_51 (by decide) (fun c_51 => ?_) (fun c_51 => ?_)
              · skip
                refine J.iconst (v := 1) dX11_isUnreserved_60 (by decide) ?_
                refine J.goto (tgt := 65) dX11_isUnreserved_61 (by decide) ?_
                refine J.zret dX11_isUnreserved_65 rfl rfl ?_
                refine ⟨congrArg (fun z => some (Value.int z)) ?_, rfl⟩
                have e0 : unres x = true := by
                  simp only [unres, aldg, Bool.and_eq_true, Bool.or_eq_true, Bool.and_eq_false_iff, Bool.or_eq_false_iff, decide_eq_true_eq, decide_eq_false_iff_not, i32_lt, i32_le, i32_eq, Int32.reduceToInt] at *
                  omega
                rw [e0]; rfl
              · skip
                refine J.iload_n dX11_isUnreserved_54 rfl ?_
                refine J.bipush (v := 126) dX11_isUnreserved_55 (by decide) ?_
                refine J.icmp_ne (tgt := 64) dX11_isUnreserved_57 (by decide) (fun c_57 => ?_) (fun c_57 => ?_)
                · skip
                  refine J.iconst (v := 0) dX11_isUnreserved_64 (by decide) ?_
                  refine J.zret dX11_isUnreserved_65 rfl rfl ?_
                  refine ⟨congrArg (fun z => some (Value.int z)) ?_, rfl⟩
                  have e0 : unres x = false := by
                    simp only [unres, aldg, Bool.and_eq_true, Bool.or_eq_true, Bool.and_eq_false_iff, Bool.or_eq_false_iff, decide_eq_true_eq, decide_eq_false_iff_not, i32_lt, i32_le, i32_eq, Int32.reduceToInt] at *
                    omega
                  rw [e0]; rfl
                · skip
                  refine J.iconst (v := 1) dX11_isUnreserved_60 (by decide) ?_
                  refine J.goto (tgt := 65) dX11_isUnreserved_61 (by decide) ?_
                  refine J.zret dX11_isUnreserved_65 rfl rfl ?_
                  refine ⟨congrArg (fun z => some (Value.int z)) ?_, rfl⟩
                  have e0 : unres x = true := by
                    simp only [unres, aldg, Bool.and_eq_true, Bool.or_eq_true, Bool.and_eq_false_iff, Bool.or_eq_false_iff, decide_eq_true_eq, decide_eq_false_iff_not, i32_lt, i32_le, i32_eq, Int32.reduceToInt] at *
                    omega
                  rw [e0]; rfl
    · skip
      refine J.iload_n dX11_isUnreserved_18 rfl ?_
      refine J.bipush (v := 122) dX11_isUnreserved_19 (by decide) ?_
      refine J.icmp_le (tgt := 60) dX11_isUnreserved_21 (by decide) (fun c_21 => ?_) (fun c_21 => ?_)
      · skip
        refine J.iconst (v := 1) dX11_isUnreserved_60 (by decide) ?_
        refine J.goto (tgt := 65) dX11_isUnreserved_61 (by decide) ?_
        refine J.zret dX11_isUnreserved_65 rfl rfl ?_
        refine ⟨congrArg (fun z => some (Value.int z)) ?_, rfl⟩
        have e0 : unres x = true := by
          simp only [unres, aldg, Bool.and_eq_true, Bool.or_eq_true, Bool.and_eq_false_iff, Bool.or_eq_false_iff, decide_eq_true_eq, decide_eq_false_iff_not, i32_lt, i32_le, i32_eq, Int32.reduceToInt] at *
          omega
        rw [e0]; rfl
      · skip
        refine J.iload_n dX11_isUnreserved_24 rfl ?_
        refine J.bipush (v := 48) dX11_isUnreserved_25 (by decide) ?_
        refine J.icmp_lt (tgt := 36) dX11_isUnreserved_27 (by decide) (fun c_27 => ?_) (fun c_27 => ?_)
        · skip
          refine J.iload_n dX11_isUnreserved_36 rfl ?_
          refine J.bipush (v := 45) dX11_isUnreserved_37 (by decide) ?_
          refine J.icmp_eq (tgt := 60) dX11_isUnreserved_39 (by decide) (fun c_39 => ?_) (fun c_39 => ?_)
          · skip
            refine J.iconst (v := 1) dX11_isUnreserved_60 (by decide) ?_
            refine J.goto (tgt := 65) dX11_isUnreserved_61 (by decide) ?_
            refine J.zret dX11_isUnreserved_65 rfl rfl ?_
            refine ⟨congrArg (fun z => some (Value.int z)) ?_, rfl⟩
            have e0 : unres x = true := by
              simp only [unres, aldg, Bool.and_eq_true, Bool.or_eq_true, Bool.and_eq_false_iff, Bool.or_eq_false_iff, decide_eq_true_eq, decide_eq_false_iff_not, i32_lt, i32_le, i32_eq, Int32.reduceToInt] at *
              omega
            rw [e0]; rfl
          · skip
            refine J.iload_n dX11_isUnreserved_42 rfl ?_
            refine J.bipush (v := 46) dX11_isUnreserved_43 (by decide) ?_
            refine J.icmp_eq (tgt := 60) dX11_isUnreserved_45 (by decide) (fun c_45 => ?_) (fun c_45 => ?_)
            · skip
              refine J.iconst (v := 1) dX11_isUnreserved_60 (by decide) ?_
              refine J.goto (tgt := 65) dX11_isUnreserved_61 (by decide) ?_
              refine J.zret dX11_isUnreserved_65 rfl rfl ?_
              refine ⟨congrArg (fun z => some (Value.int z)) ?_, rfl⟩
              have e0 : unres x = true := by
                simp only [unres, aldg, Bool.and_eq_true, Bool.or_eq_true, Bool.and_eq_false_iff, Bool.or_eq_false_iff, decide_eq_true_eq, decide_eq_false_iff_not, i32_lt, i32_le, i32_eq, Int32.reduceToInt] at *
                omega
              rw [e0]; rfl
            · skip
              refine J.iload_n dX11_isUnreserved_48 rfl ?_
              refine J.bipush (v := 95) dX11_isUnreserved_49 (by decide) ?_
              refine J.icmp_eq (tgt := 60) dX11_isUnreserved_51 (by decide) (fun c_51 => ?_) (fun c_51 => ?_)
              · skip
                refine J.iconst (v := 1) dX11_isUnreserved_60 (by decide) ?_
                refine J.goto (tgt := 65) dX11_isUnreserved_61 (by decide) ?_
                refine J.zret dX11_isUnreserved_65 rfl rfl ?_
                refine ⟨congrArg (fun z => some (Value.int z)) ?_, rfl⟩
                have e0 : unres x = true := by
                  simp only [unres, aldg, Bool.and_eq_true, Bool.or_eq_true, Bool.and_eq_false_iff, Bool.or_eq_false_iff, decide_eq_true_eq, decide_eq_false_iff_not, i32_lt, i32_le, i32_eq, Int32.reduceToInt] at *
                  omega
                rw [e0]; rfl
              · skip
                refine J.iload_n dX11_isUnreserved_54 rfl ?_
                refine J.bipush (v := 126) dX11_isUnreserved_55 (by decide) ?_
                refine J.icmp_ne (tgt := 64) dX11_isUnreserved_57 (by decide) (fun c_57 => ?_) (fun c_57 => ?_)
                · skip
                  refine J.iconst (v := 0) dX11_isUnreserved_64 (by decide) ?_
                  refine J.zret dX11_isUnreserved_65 rfl rfl ?_
                  refine ⟨congrArg (fun z => some (Value.int z)) ?_, rfl⟩
                  have e0 : unres x = false := by
                    simp only [unres, aldg, Bool.and_eq_true, Bool.or_eq_true, Bool.and_eq_false_iff, Bool.or_eq_false_iff, decide_eq_true_eq, decide_eq_false_iff_not, i32_lt, i32_le, i32_eq, Int32.reduceToInt] at *
                    omega
                  rw [e0]; rfl
                · skip
                  refine J.iconst (v := 1) dX11_isUnreserved_60 (by decide) ?_
                  refine J.goto (tgt := 65) dX11_isUnreserved_61 (by decide) ?_
                  refine J.zret dX11_isUnreserved_65 rfl rfl ?_
                  refine ⟨congrArg (fun z => some (Value.int z)) ?_, rfl⟩
                  have e0 : unres x = true := by
                    simp only [unres, aldg, Bool.and_eq_true, Bool.or_eq_true, Bool.and_eq_false_iff, Bool.or_eq_false_iff, decide_eq_true_eq, decide_eq_false_iff_not, i32_lt, i32_le, i32_eq, Int32.reduceToInt] at *
                    omega
                  rw [e0]; rfl
        · skip
          refine J.iload_n dX11_isUnreserved_30 rfl ?_
          refine J.bipush (v := 57) dX11_isUnreserved_31 (by decide) ?_
          refine J.icmp_le (tgt := 60) dX11_isUnreserved_33 (by decide) (fun c_33 => ?_) (fun c_33 => ?_)
          · skip
            refine J.iconst (v := 1) dX11_isUnreserved_60 (by decide) ?_
            refine J.goto (tgt := 65) dX11_isUnreserved_61 (by decide) ?_
            refine J.zret dX11_isUnreserved_65 rfl rfl ?_
            refine ⟨congrArg (fun z => some (Value.int z)) ?_, rfl⟩
            have e0 : unres x = true := by
              simp only [unres, aldg, Bool.and_eq_true, Bool.or_eq_true, Bool.and_eq_false_iff, Bool.or_eq_false_iff, decide_eq_true_eq, decide_eq_false_iff_not, i32_lt, i32_le, i32_eq, Int32.reduceToInt] at *
              omega
            rw [e0]; rfl
          · skip
            refine J.iload_n dX11_isUnreserved_36 rfl ?_
            refine J.bipush (v := 45) dX11_isUnreserved_37 (by decide) ?_
            refine J.icmp_eq (tgt := 60) dX11_isUnreserved_39 (by decide) (fun c_39 => ?_) (fun c_39 => ?_)
            · skip
              refine J.iconst (v := 1) dX11_isUnreserved_60 (by decide) ?_
              refine J.goto (tgt := 65) dX11_isUnreserved_61 (by decide) ?_
              refine J.zret dX11_isUnreserved_65 rfl rfl ?_
              refine ⟨congrArg (fun z => some (Value.int z)) ?_, rfl⟩
              have e0 : unres x = true := by
                simp only [unres, aldg, Bool.and_eq_true, Bool.or_eq_true, Bool.and_eq_false_iff, Bool.or_eq_false_iff, decide_eq_true_eq, decide_eq_false_iff_not, i32_lt, i32_le, i32_eq, Int32.reduceToInt] at *
                omega
              rw [e0]; rfl
            · skip
              refine J.iload_n dX11_isUnreserved_42 rfl ?_
              refine J.bipush (v := 46) dX11_isUnreserved_43 (by decide) ?_
              refine J.icmp_eq (tgt := 60) dX11_isUnreserved_45 (by decide) (fun c_45 => ?_) (fun c_45 => ?_)
              · skip
                refine J.iconst (v := 1) dX11_isUnreserved_60 (by decide) ?_
                refine J.goto (tgt := 65) dX11_isUnreserved_61 (by decide) ?_
                refine J.zret dX11_isUnreserved_65 rfl rfl ?_
                refine ⟨congrArg (fun z => some (Value.int z)) ?_, rfl⟩
                have e0 : unres x = true := by
                  simp only [unres, aldg, Bool.and_eq_true, Bool.or_eq_true, Bool.and_eq_false_iff, Bool.or_eq_false_iff, decide_eq_true_eq, decide_eq_false_iff_not, i32_lt, i32_le, i32_eq, Int32.reduceToInt] at *
                  omega
                rw [e0]; rfl
              · skip
                refine J.iload_n dX11_isUnreserved_48 rfl ?_
                refine J.bipush (v := 95) dX11_isUnreserved_49 (by decide) ?_
                refine J.icmp_eq (tgt := 60) dX11_isUnreserved_51 (by decide) (fun c_51 => ?_) (fun c_51 => ?_)
                · skip
                  refine J.iconst (v := 1) dX11_isUnreserved_60 (by decide) ?_
                  refine J.goto (tgt := 65) dX11_isUnreserved_61 (by decide) ?_
                  refine J.zret dX11_isUnreserved_65 rfl rfl ?_
                  refine ⟨congrArg (fun z => some (Value.int z)) ?_, rfl⟩
                  have e0 : unres x = true := by
                    simp only [unres, aldg, Bool.and_eq_true, Bool.or_eq_true, Bool.and_eq_false_iff, Bool.or_eq_false_iff, decide_eq_true_eq, decide_eq_false_iff_not, i32_lt, i32_le, i32_eq, Int32.reduceToInt] at *
                    omega
                  rw [e0]; rfl
                · skip
                  refine J.iload_n dX11_isUnreserved_54 rfl ?_
                  refine J.bipush (v := 126) dX11_isUnreserved_55 (by decide) ?_
                  refine J.icmp_ne (tgt := 64) dX11_isUnreserved_57 (by decide) (fun c_57 => ?_) (fun c_57 => ?_)
                  · skip
                    refine J.iconst (v := 0) dX11_isUnreserved_64 (by decide) ?_
                    refine J.zret dX11_isUnreserved_65 rfl rfl ?_
                    refine ⟨congrArg (fun z => some (Value.int z)) ?_, rfl⟩
                    have e0 : unres x = false := by
                      simp only [unres, aldg, Bool.and_eq_true, Bool.or_eq_true, Bool.and_eq_false_iff, Bool.or_eq_false_iff, decide_eq_true_eq, decide_eq_false_iff_not, i32_lt, i32_le, i32_eq, Int32.reduceToInt] at *
                      omega
                    rw [e0]; rfl
                  · skip
                    refine J.iconst (v := 1) dX11_isUnreserved_60 (by decide) ?_
                    refine J.goto (tgt := 65) dX11_isUnreserved_61 (by decide) ?_
                    refine J.zret dX11_isUnreserved_65 rfl rfl ?_
                    refine ⟨congrArg (fun z => some (Value.int z)) ?_, rfl⟩
                    have e0 : unres x = true := by
                      simp only [unres, aldg, Bool.and_eq_true, Bool.or_eq_true, Bool.and_eq_false_iff, Bool.or_eq_false_iff, decide_eq_true_eq, decide_eq_false_iff_not, i32_lt, i32_le, i32_eq, Int32.reduceToInt] at *
                      omega
                    rw [e0]; rfl
  · skip
    refine J.iload_n dX11_isUnreserved_6 rfl ?_
    refine J.bipush (v := 90) dX11_isUnreserved_7 (by decide) ?_
    refine J.icmp_le (tgt := 60) dX11_isUnreserved_9 (by decide) (fun c_9 => ?_) (fun c_9 => ?_)
    · skip
      refine J.iconst (v := 1) dX11_isUnreserved_60 (by decide) ?_
      refine J.goto (tgt := 65) dX11_isUnreserved_61 (by decide) ?_
      refine J.zret dX11_isUnreserved_65 rfl rfl ?_
      refine ⟨congrArg (fun z => some (Value.int z)) ?_, rfl⟩
      have e0 : unres x = true := by
        simp only [unres, aldg, Bool.and_eq_true, Bool.or_eq_true, Bool.and_eq_false_iff, Bool.or_eq_false_iff, decide_eq_true_eq, decide_eq_false_iff_not, i32_lt, i32_le, i32_eq, Int32.reduceToInt] at *
        omega
      rw [e0]; rfl
    · skip
      refine J.iload_n dX11_isUnreserved_12 rfl ?_
      refine J.bipush (v := 97) dX11_isUnreserved_13 (by decide) ?_
      refine J.icmp_lt (tgt := 24) dX11_isUnreserved_15 (by decide) (fun c_15 => ?_) (fun c_15 => ?_)
      · skip
        refine J.iload_n dX11_isUnreserved_24 rfl ?_
        refine J.bipush (v := 48) dX11_isUnreserved_25 (by decide) ?_
        refine J.icmp_lt (tgt := 36) dX11_isUnreserved_27 (by decide) (fun c_27 => ?_) (fun c_27 => ?_)
        · skip
          refine J.iload_n dX11_isUnreserved_36 rfl ?_
          refine J.bipush (v := 45) dX11_isUnreserved_37 (by decide) ?_
          refine J.icmp_eq (tgt := 60) dX11_isUnreserved_39 (by decide) (fun c_39 => ?_) (fun c_39 => ?_)
          · skip
            refine J.iconst (v := 1) dX11_isUnreserved_60 (by decide) ?_
            refine J.goto (tgt := 65) dX11_isUnreserved_61 (by decide) ?_
            refine J.zret dX11_isUnreserved_65 rfl rfl ?_
            refine ⟨congrArg (fun z => some (Value.int z)) ?_, rfl⟩
            have e0 : unres x = true := by
              simp only [unres, aldg, Bool.and_eq_true, Bool.or_eq_true, Bool.and_eq_false_iff, Bool.or_eq_false_iff, decide_eq_true_eq, decide_eq_false_iff_not, i32_lt, i32_le, i32_eq, Int32.reduceToInt] at *
              omega
            rw [e0]; rfl
          · skip
            refine J.iload_n dX11_isUnreserved_42 rfl ?_
            refine J.bipush (v := 46) dX11_isUnreserved_43 (by decide) ?_
            refine J.icmp_eq (tgt := 60) dX11_isUnreserved_45 (by decide) (fun c_45 => ?_) (fun c_45 => ?_)
            · skip
              refine J.iconst (v := 1) dX11_isUnreserved_60 (by decide) ?_
              refine J.goto (tgt := 65) dX11_isUnreserved_61 (by decide) ?_
              refine J.zret dX11_isUnreserved_65 rfl rfl ?_
              refine ⟨congrArg (fun z => some (Value.int z)) ?_, rfl⟩
              have e0 : unres x = true := by
                simp only [unres, aldg, Bool.and_eq_true, Bool.or_eq_true, Bool.and_eq_false_iff, Bool.or_eq_false_iff, decide_eq_true_eq, decide_eq_false_iff_not, i32_lt, i32_le, i32_eq, Int32.reduceToInt] at *
                omega
              rw [e0]; rfl
            · skip
              refine J.iload_n dX11_isUnreserved_48 rfl ?_
              refine J.bipush (v := 95) dX11_isUnreserved_49 (by decide) ?_
              refine J.icmp_eq (tgt := 60) dX11_isUnreserved_51 (by decide) (fun c_51 => ?_) (fun c_51 => ?_)
              · skip
                refine J.iconst (v := 1) dX11_isUnreserved_60 (by decide) ?_
                refine J.goto (tgt := 65) dX11_isUnreserved_61 (by decide) ?_
                refine J.zret dX11_isUnreserved_65 rfl rfl ?_
                refine ⟨congrArg (fun z => some (Value.int z)) ?_, rfl⟩
                have e0 : unres x = true := by
                  simp only [unres, aldg, Bool.and_eq_true, Bool.or_eq_true, Bool.and_eq_false_iff, Bool.or_eq_false_iff, decide_eq_true_eq, decide_eq_false_iff_not, i32_lt, i32_le, i32_eq, Int32.reduceToInt] at *
                  omega
                rw [e0]; rfl
              · skip
                refine J.iload_n dX11_isUnreserved_54 rfl ?_
                refine J.bipush (v := 126) dX11_isUnreserved_55 (by decide) ?_
                refine J.icmp_ne (tgt := 64) dX11_isUnreserved_57 (by decide) (fun c_57 => ?_) (fun c_57 => ?_)
                · skip
                  refine J.iconst (v := 0) dX11_isUnreserved_64 (by decide) ?_
                  refine J.zret dX11_isUnreserved_65 rfl rfl ?_
                  refine ⟨congrArg (fun z => some (Value.int z)) ?_, rfl⟩
                  have e0 : unres x = false := by
                    simp only [unres, aldg, Bool.and_eq_true, Bool.or_eq_true, Bool.and_eq_false_iff, Bool.or_eq_false_iff, decide_eq_true_eq, decide_eq_false_iff_not, i32_lt, i32_le, i32_eq, Int32.reduceToInt] at *
                    omega
                  rw [e0]; rfl
                · skip
                  refine J.iconst (v := 1) dX11_isUnreserved_60 (by decide) ?_
                  refine J.goto (tgt := 65) dX11_isUnreserved_61 (by decide) ?_
                  refine J.zret dX11_isUnreserved_65 rfl rfl ?_
                  refine ⟨congrArg (fun z => some (Value.int z)) ?_, rfl⟩
                  have e0 : unres x = true := by
                    simp only [unres, aldg, Bool.and_eq_true, Bool.or_eq_true, Bool.and_eq_false_iff, Bool.or_eq_false_iff, decide_eq_true_eq, decide_eq_false_iff_not, i32_lt, i32_le, i32_eq, Int32.reduceToInt] at *
                    omega
                  rw [e0]; rfl
        · skip
          refine J.iload_n dX11_isUnreserved_30 rfl ?_
          refine J.bipush (v := 57) dX11_isUnreserved_31 (by decide) ?_
          refine J.icmp_le (tgt := 60) dX11_isUnreserved_33 (by decide) (fun c_33 => ?_) (fun c_33 => ?_)
          · skip
            refine J.iconst (v := 1) dX11_isUnreserved_60 (by decide) ?_
            refine J.goto (tgt := 65) dX11_isUnreserved_61 (by decide) ?_
            refine J.zret dX11_isUnreserved_65 rfl rfl ?_
            refine ⟨congrArg (fun z => some (Value.int z)) ?_, rfl⟩
            have e0 : unres x = true := by
              simp only [unres, aldg, Bool.and_eq_true, Bool.or_eq_true, Bool.and_eq_false_iff, Bool.or_eq_false_iff, decide_eq_true_eq, decide_eq_false_iff_not, i32_lt, i32_le, i32_eq, Int32.reduceToInt] at *
              omega
            rw [e0]; rfl
          · skip
            refine J.iload_n dX11_isUnreserved_36 rfl ?_
            refine J.bipush (v := 45) dX11_isUnreserved_37 (by decide) ?_
            refine J.icmp_eq (tgt := 60) dX11_isUnreserved_39 (by decide) (fun c_39 => ?_) (fun c_39 => ?_)
            · skip
              refine J.iconst (v := 1) dX11_isUnreserved_60 (by decide) ?_
              refine J.goto (tgt := 65) dX11_isUnreserved_61 (by decide) ?_
              refine J.zret dX11_isUnreserved_65 rfl rfl ?_
              refine ⟨congrArg (fun z => some (Value.int z)) ?_, rfl⟩
              have e0 : unres x = true := by
                simp only [unres, aldg, Bool.and_eq_true, Bool.or_eq_true, Bool.and_eq_false_iff, Bool.or_eq_false_iff, decide_eq_true_eq, decide_eq_false_iff_not, i32_lt, i32_le, i32_eq, Int32.reduceToInt] at *
                omega
              rw [e0]; rfl
            · skip
              refine J.iload_n dX11_isUnreserved_42 rfl ?_
              refine J.bipush (v := 46) dX11_isUnreserved_43 (by decide) ?_
              refine J.icmp_eq (tgt := 60) dX11_isUnreserved_45 (by decide) (fun c_45 => ?_) (fun c_45 => ?_)
              · skip
                refine J.iconst (v := 1) dX11_isUnreserved_60 (by decide) ?_
                refine J.goto (tgt := 65) dX11_isUnreserved_61 (by decide) ?_
                refine J.zret dX11_isUnreserved_65 rfl rfl ?_
                refine ⟨congrArg (fun z => some (Value.int z)) ?_, rfl⟩
                have e0 : unres x = true := by
                  simp only [unres, aldg, Bool.and_eq_true, Bool.or_eq_true, Bool.and_eq_false_iff, Bool.or_eq_false_iff, decide_eq_true_eq, decide_eq_false_iff_not, i32_lt, i32_le, i32_eq, Int32.reduceToInt] at *
                  omega
                rw [e0]; rfl
              · skip
                refine J.iload_n dX11_isUnreserved_48 rfl ?_
                refine J.bipush (v := 95) dX11_isUnreserved_49 (by decide) ?_
                refine J.icmp_eq (tgt := 60) dX11_isUnreserved_51 (by decide) (fun c_51 => ?_) (fun c_51 => ?_)
                · skip
                  refine J.iconst (v := 1) dX11_isUnreserved_60 (by decide) ?_
                  refine J.goto (tgt := 65) dX11_isUnreserved_61 (by decide) ?_
                  refine J.zret dX11_isUnreserved_65 rfl rfl ?_
                  refine ⟨congrArg (fun z => some (Value.int z)) ?_, rfl⟩
                  have e0 : unres x = true := by
                    simp only [unres, aldg, Bool.and_eq_true, Bool.or_eq_true, Bool.and_eq_false_iff, Bool.or_eq_false_iff, decide_eq_true_eq, decide_eq_false_iff_not, i32_lt, i32_le, i32_eq, Int32.reduceToInt] at *
                    omega
                  rw [e0]; rfl
                · skip
                  refine J.iload_n dX11_isUnreserved_54 rfl ?_
                  refine J.bipush (v := 126) dX11_isUnreserved_55 (by decide) ?_
                  refine J.icmp_ne (tgt := 64) dX11_isUnreserved_57 (by decide) (fun c_57 => ?_) (fun c_57 => ?_)
                  · skip
                    refine J.iconst (v := 0) dX11_isUnreserved_64 (by decide) ?_
                    refine J.zret dX11_isUnreserved_65 rfl rfl ?_
                    refine ⟨congrArg (fun z => some (Value.int z)) ?_, rfl⟩
                    have e0 : unres x = false := by
                      simp only [unres, aldg, Bool.and_eq_true, Bool.or_eq_true, Bool.and_eq_false_iff, Bool.or_eq_false_iff, decide_eq_true_eq, decide_eq_false_iff_not, i32_lt, i32_le, i32_eq, Int32.reduceToInt] at *
                      omega
                    rw [e0]; rfl
                  · skip
                    refine J.iconst (v := 1) dX11_isUnreserved_60 (by decide) ?_
                    refine J.goto (tgt := 65) dX11_isUnreserved_61 (by decide) ?_
                    refine J.zret dX11_isUnreserved_65 rfl rfl ?_
                    refine ⟨congrArg (fun z => some (Value.int z)) ?_, rfl⟩
                    have e0 : unres x = true := by
                      simp only [unres, aldg, Bool.and_eq_true, Bool.or_eq_true, Bool.and_eq_false_iff, Bool.or_eq_false_iff, decide_eq_true_eq, decide_eq_false_iff_not, i32_lt, i32_le, i32_eq, Int32.reduceToInt] at *
                      omega
                    rw [e0]; rfl
      · skip
        refine J.iload_n dX11_isUnreserved_18 rfl ?_
        refine J.bipush (v := 122) dX11_isUnreserved_19 (by decide) ?_
        refine J.icmp_le (tgt := 60) dX11_isUnreserved_21 (by decide) (fun c_21 => ?_) (fun c_21 => ?_)
        · skip
          refine J.iconst (v := 1) dX11_isUnreserved_60 (by decide) ?_
          refine J.goto (tgt := 65) dX11_isUnreserved_61 (by decide) ?_
          refine J.zret dX11_isUnreserved_65 rfl rfl ?_
          refine ⟨congrArg (fun z => some (Value.int z)) ?_, rfl⟩
          have e0 : unres x = true := by
            simp only [unres, aldg, Bool.and_eq_true, Bool.or_eq_true, Bool.and_eq_false_iff, Bool.or_eq_false_iff, decide_eq_true_eq, decide_eq_false_iff_not, i32_lt, i32_le, i32_eq, Int32.reduceToInt] at *
            omega
          rw [e0]; rfl
        · skip
          refine J.iload_n dX11_isUnreserved_24 rfl ?_
          refine J.bipush (v := 48) dX11_isUnreserved_25 (by decide) ?_
          refine J.icmp_lt (tgt := 36) dX11_isUnreserved_27 (by decide) (fun c_27 => ?_) (fun c_27 => ?_)
          · skip
            refine J.iload_n dX11_isUnreserved_36 rfl ?_
            refine J.bipush (v := 45) dX11_isUnreserved_37 (by decide) ?_
            refine J.icmp_eq (tgt := 60) dX11_isUnreserved_39 (by decide) (fun c_39 => ?_) (fun c_39 => ?_)
            · skip
              refine J.iconst (v := 1) dX11_isUnreserved_60 (by decide) ?_
              refine J.goto (tgt := 65) dX11_isUnreserved_61 (by decide) ?_
              refine J.zret dX11_isUnreserved_65 rfl rfl ?_
              refine ⟨congrArg (fun z => some (Value.int z)) ?_, rfl⟩
              have e0 : unres x = true := by
                simp only [unres, aldg, Bool.and_eq_true, Bool.or_eq_true, Bool.and_eq_false_iff, Bool.or_eq_false_iff, decide_eq_true_eq, decide_eq_false_iff_not, i32_lt, i32_le, i32_eq, Int32.reduceToInt] at *
                omega
              rw [e0]; rfl
            · skip
              refine J.iload_n dX11_isUnreserved_42 rfl ?_
              refine J.bipush (v := 46) dX11_isUnreserved_43 (by decide) ?_
              refine J.icmp_eq (tgt := 60) dX11_isUnreserved_45 (by decide) (fun c_45 => ?_) (fun c_45 => ?_)
              · skip
                refine J.iconst (v := 1) dX11_isUnreserved_60 (by decide) ?_
                refine J.goto (tgt := 65) dX11_isUnreserved_61 (by decide) ?_
                refine J.zret dX11_isUnreserved_65 rfl rfl ?_
                refine ⟨congrArg (fun z => some (Value.int z)) ?_, rfl⟩
                have e0 : unres x = true := by
                  simp only [unres, aldg, Bool.and_eq_true, Bool.or_eq_true, Bool.and_eq_false_iff, Bool.or_eq_false_iff, decide_eq_true_eq, decide_eq_false_iff_not, i32_lt, i32_le, i32_eq, Int32.reduceToInt] at *
                  omega
                rw [e0]; rfl
              · skip
                refine J.iload_n dX11_isUnreserved_48 rfl ?_
                refine J.bipush (v := 95) dX11_isUnreserved_49 (by decide) ?_
                refine J.icmp_eq (tgt := 60) dX11_isUnreserved_51 (by decide) (fun c_51 => ?_) (fun c_51 => ?_)
                · skip
                  refine J.iconst (v := 1) dX11_isUnreserved_60 (by decide) ?_
                  refine J.goto (tgt := 65) dX11_isUnreserved_61 (by decide) ?_
                  refine J.zret dX11_isUnreserved_65 rfl rfl ?_
                  refine ⟨congrArg (fun z => some (Value.int z)) ?_, rfl⟩
                  have e0 : unres x = true := by
                    simp only [unres, aldg, Bool.and_eq_true, Bool.or_eq_true, Bool.and_eq_false_iff, Bool.or_eq_false_iff, decide_eq_true_eq, decide_eq_false_iff_not, i32_lt, i32_le, i32_eq, Int32.reduceToInt] at *
                    omega
                  rw [e0]; rfl
                · skip
                  refine J.iload_n dX11_isUnreserved_54 rfl ?_
                  refine J.bipush (v := 126) dX11_isUnreserved_55 (by decide) ?_
                  refine J.icmp_ne (tgt := 64) dX11_isUnreserved_57 (by decide) (fun c_57 => ?_) (fun c_57 => ?_)
                  · skip
                    refine J.iconst (v := 0) dX11_isUnreserved_64 (by decide) ?_
                    refine J.zret dX11_isUnreserved_65 rfl rfl ?_
                    refine ⟨congrArg (fun z => some (Value.int z)) ?_, rfl⟩
                    have e0 : unres x = false := by
                      simp only [unres, aldg, Bool.and_eq_true, Bool.or_eq_true, Bool.and_eq_false_iff, Bool.or_eq_false_iff, decide_eq_true_eq, decide_eq_false_iff_not, i32_lt, i32_le, i32_eq, Int32.reduceToInt] at *
                      omega
                    rw [e0]; rfl
                  · skip
                    refine J.iconst (v := 1) dX11_isUnreserved_60 (by decide) ?_
                    refine J.goto (tgt := 65) dX11_isUnreserved_61 (by decide) ?_
                    refine J.zret dX11_isUnreserved_65 rfl rfl ?_
                    refine ⟨congrArg (fun z => some (Value.int z)) ?_, rfl⟩
                    have e0 : unres x = true := by
                      simp only [unres, aldg, Bool.and_eq_true, Bool.or_eq_true, Bool.and_eq_false_iff, Bool.or_eq_false_iff, decide_eq_true_eq, decide_eq_false_iff_not, i32_lt, i32_le, i32_eq, Int32.reduceToInt] at *
                      omega
                    rw [e0]; rfl
          · skip
            refine J.iload_n dX11_isUnreserved_30 rfl ?_
            refine J.bipush (v := 57) dX11_isUnreserved_31 (by decide) ?_
            refine J.icmp_le (tgt := 60) dX11_isUnreserved_33 (by decide) (fun c_33 => ?_) (fun c_33 => ?_)
            · skip
              refine J.iconst (v := 1) dX11_isUnreserved_60 (by decide) ?_
              refine J.goto (tgt := 65) dX11_isUnreserved_61 (by decide) ?_
              refine J.zret dX11_isUnreserved_65 rfl rfl ?_
              refine ⟨congrArg (fun z => some (Value.int z)) ?_, rfl⟩
              have e0 : unres x = true := by
                simp only [unres, aldg, Bool.and_eq_true, Bool.or_eq_true, Bool.and_eq_false_iff, Bool.or_eq_false_iff, decide_eq_true_eq, decide_eq_false_iff_not, i32_lt, i32_le, i32_eq, Int32.reduceToInt] at *
                omega
              rw [e0]; rfl
            · skip
              refine J.iload_n dX11_isUnreserved_36 rfl ?_
              refine J.bipush (v := 45) dX11_isUnreserved_37 (by decide) ?_
              refine J.icmp_eq (tgt := 60) dX11_isUnreserved_39 (by decide) (fun c_39 => ?_) (fun c_39 => ?_)
              · skip
                refine J.iconst (v := 1) dX11_isUnreserved_60 (by decide) ?_
                refine J.goto (tgt := 65) dX11_isUnreserved_61 (by decide) ?_
                refine J.zret dX11_isUnreserved_65 rfl rfl ?_
                refine ⟨congrArg (fun z => some (Value.int z)) ?_, rfl⟩
                have e0 : unres x = true := by
                  simp only [unres, aldg, Bool.and_eq_true, Bool.or_eq_true, Bool.and_eq_false_iff, Bool.or_eq_false_iff, decide_eq_true_eq, decide_eq_false_iff_not, i32_lt, i32_le, i32_eq, Int32.reduceToInt] at *
                  omega
                rw [e0]; rfl
              · skip
                refine J.iload_n dX11_isUnreserved_42 rfl ?_
                refine J.bipush (v := 46) dX11_isUnreserved_43 (by decide) ?_
                refine J.icmp_eq (tgt := 60) dX11_isUnreserved_45 (by decide) (fun c_45 => ?_) (fun c_45 => ?_)
                · skip
                  refine J.iconst (v := 1) dX11_isUnreserved_60 (by decide) ?_
                  refine J.goto (tgt := 65) dX11_isUnreserved_61 (by decide) ?_
                  refine J.zret dX11_isUnreserved_65 rfl rfl ?_
                  refine ⟨congrArg (fun z => some (Value.int z)) ?_, rfl⟩
                  have e0 : unres x = true := by
                    simp only [unres, aldg, Bool.and_eq_true, Bool.or_eq_true, Bool.and_eq_false_iff, Bool.or_eq_false_iff, decide_eq_true_eq, decide_eq_false_iff_not, i32_lt, i32_le, i32_eq, Int32.reduceToInt] at *
                    omega
                  rw [e0]; rfl
                · skip
                  refine J.iload_n dX11_isUnreserved_48 rfl ?_
                  refine J.bipush (v := 95) dX11_isUnreserved_49 (by decide) ?_
                  refine J.icmp_eq (tgt := 60) dX11_isUnreserved_51 (by decide) (fun c_51 => ?_) (fun c_51 => ?_)
                  · skip
                    refine J.iconst (v := 1) dX11_isUnreserved_60 (by decide) ?_
                    refine J.goto (tgt := 65) dX11_isUnreserved_61 (by decide) ?_
                    refine J.zret dX11_isUnreserved_65 rfl rfl ?_
                    refine ⟨congrArg (fun z => some (Value.int z)) ?_, rfl⟩
                    have e0 : unres x = true := by
                      simp only [unres, aldg, Bool.and_eq_true, Bool.or_eq_true, Bool.and_eq_false_iff, Bool.or_eq_false_iff, decide_eq_true_eq, decide_eq_false_iff_not, i32_lt, i32_le, i32_eq, Int32.reduceToInt] at *
                      omega
                    rw [e0]; rfl
                  · skip
                    refine J.iload_n dX11_isUnreserved_54 rfl ?_
                    refine J.bipush (v := 126) dX11_isUnreserved_55 (by decide) ?_
                    refine J.icmp_ne (tgt := 64) dX11_isUnreserved_57 (by decide) (fun c_57 => ?_) (fun c_57 => ?_)
                    · skip
                      refine J.iconst (v := 0) dX11_isUnreserved_64 (by decide) ?_
                      refine J.zret dX11_isUnreserved_65 rfl rfl ?_
                      refine ⟨congrArg (fun z => some (Value.int z)) ?_, rfl⟩
                      have e0 : unres x = false := by
                        simp only [unres, aldg, Bool.and_eq_true, Bool.or_eq_true, Bool.and_eq_false_iff, Bool.or_eq_false_iff, decide_eq_true_eq, decide_eq_false_iff_not, i32_lt, i32_le, i32_eq, Int32.reduceToInt] at *
                        omega
                      rw [e0]; rfl
                    · skip
                      refine J.iconst (v := 1) dX11_isUnreserved_60 (by decide) ?_
                      refine J.goto (tgt := 65) dX11_isUnreserved_61 (by decide) ?_
                      refine J.zret dX11_isUnreserved_65 rfl rfl ?_
                      refine ⟨congrArg (fun z => some (Value.int z)) ?_, rfl⟩
                      have e0 : unres x = true := by
                        simp only [unres, aldg, Bool.and_eq_true, Bool.or_eq_true, Bool.and_eq_false_iff, Bool.or_eq_false_iff, decide_eq_true_eq, decide_eq_false_iff_not, i32_lt, i32_le, i32_eq, Int32.reduceToInt] at *
                        omega
                      rw [e0]; rfl

theorem c_isLife {Λ : kL} {σ : kh} (x : Int32) : jCt Λ mX11_isLife 0 0 [.int x] σ (fun v σ' => v = some (.int (bI (lifeb x))) ∧ σ' = σ) := by
  refine jCt.of pn_X11 [some (.int x)] rfl (Nat.le_of_ble_eq_true rfl) fun X => ?_
  refine J.iload_n dX11_isLife_0 rfl ?_
  refine J.iconst (v := 1) dX11_isLife_1 (by decide) ?_
  refine J.icmp_lt (tgt := 16) dX11_isLife_2 (by decide) (fun c_2 => ?_) (fun c_2 => ?_)
  · skip
    refine J.iconst (v := 0) dX11_isLife_16 (by decide) ?_
    refine J.zret dX11_isLife_17 rfl rfl ?_
    refine ⟨congrArg (fun z => some (Value.int z)) ?_, rfl⟩
    have e0 : lifeb x = false := by
      simp only [lifeb, Bool.and_eq_true, Bool.or_eq_true, Bool.and_eq_false_iff, Bool.or_eq_false_iff, decide_eq_true_eq, decide_eq_false_iff_not, i32_lt, i32_le, i32_eq, Int32.reduceToInt] at *
      omega
    rw [e0]; rfl
  · skip
    refine J.iload_n dX11_isLife_5 rfl ?_
    refine J.ldcw (v := 1000000) dX11_isLife_6 co_X11_396 ?_
    refine J.icmp_gt (tgt := 16) dX11_isLife_9 (by decide) (fun c_9 => ?_) (fun c_9 => ?_)
    · skip
      refine J.iconst (v := 0) dX11_isLife_16 (by decide) ?_
      refine J.zret dX11_isLife_17 rfl rfl ?_
      refine ⟨congrArg (fun z => some (Value.int z)) ?_, rfl⟩
      have e0 : lifeb x = false := by
        simp only [lifeb, Bool.and_eq_true, Bool.or_eq_true, Bool.and_eq_false_iff, Bool.or_eq_false_iff, decide_eq_true_eq, decide_eq_false_iff_not, i32_lt, i32_le, i32_eq, Int32.reduceToInt] at *
        omega
      rw [e0]; rfl
    · skip
      refine J.iconst (v := 1) dX11_isLife_12 (by decide) ?_
      refine J.goto (tgt := 17) dX11_isLife_13 (by decide) ?_
      refine J.zret dX11_isLife_17 rfl rfl ?_
      refine ⟨congrArg (fun z => some (Value.int z)) ?_, rfl⟩
      have e0 : lifeb x = true := by
        simp only [lifeb, Bool.and_eq_true, Bool.or_eq_true, Bool.and_eq_false_iff, Bool.or_eq_false_iff, decide_eq_true_eq, decide_eq_false_iff_not, i32_lt, i32_le, i32_eq, Int32.reduceToInt] at *
        omega
      rw [e0]; rfl

theorem m_isLetterOrDigit {Λ : kL} {σ : kh} (x : Int32) : jCt Λ mX12_isLetterOrDigit 0 0 [.int x] σ (fun v σ' => v = some (.int (bI (aldg x))) ∧ σ' = σ) := by
  refine jCt.of pn_X12 [some (.int x)] rfl (Nat.le_of_ble_eq_true rfl) fun X => ?_
  refine J.iload_n dX12_isLetterOrDigit_0 rfl ?_
  refine J.bipush (v := 48) dX12_isLetterOrDigit_1 (by decide) ?_
  refine J.icmp_lt (tgt := 12) dX12_isLetterOrDigit_3 (by decide) (fun c_3 => ?_) (fun c_3 => ?_)
  · skip
    refine J.iload_n dX12_isLetterOrDigit_12 rfl ?_
    refine J.bipush (v := 65) dX12_isLetterOrDigit_13 (by decide) ?_
    refine J.icmp_lt (tgt := 24) dX12_isLetterOrDigit_15 (by decide) (fun c_15 => ?_) (fun c_15 => ?_)
    · skip
      refine J.iload_n dX12_isLetterOrDigit_24 rfl ?_
      refine J.bipush (v := 97) dX12_isLetterOrDigit_25 (by decide) ?_
      refine J.icmp_lt (tgt := 40) dX12_isLetterOrDigit_27 (by decide) (fun c_27 => ?_) (fun c_27 => ?_)
      · skip
        refine J.iconst (v := 0) dX12_isLetterOrDigit_40 (by decide) ?_
        refine J.zret dX12_isLetterOrDigit_41 rfl rfl ?_
        refine ⟨congrArg (fun z => some (Value.int z)) ?_, rfl⟩
        have e0 : aldg x = false := by
          simp only [aldg, Bool.and_eq_true, Bool.or_eq_true, Bool.and_eq_false_iff, Bool.or_eq_false_iff, decide_eq_true_eq, decide_eq_false_iff_not, i32_lt, i32_le, i32_eq, Int32.reduceToInt] at *
          omega
        rw [e0]; rfl
      · skip
        refine J.iload_n dX12_isLetterOrDigit_30 rfl ?_
        refine J.bipush (v := 122) dX12_isLetterOrDigit_31 (by decide) ?_
        refine J.icmp_gt (tgt := 40) dX12_isLetterOrDigit_33 (by decide) (fun c_33 => ?_) (fun c_33 => ?_)
        · skip
          refine J.iconst (v := 0) dX12_isLetterOrDigit_40 (by decide) ?_
          refine J.zret dX12_isLetterOrDigit_41 rfl rfl ?_
          refine ⟨congrArg (fun z => some (Value.int z)) ?_, rfl⟩
          have e0 : aldg x = false := by
            simp only [aldg, Bool.and_eq_true, Bool.or_eq_true, Bool.and_eq_false_iff, Bool.or_eq_false_iff, decide_eq_true_eq, decide_eq_false_iff_not, i32_lt, i32_le, i32_eq, Int32.reduceToInt] at *
            omega
          rw [e0]; rfl
        · skip
          refine J.iconst (v := 1) dX12_isLetterOrDigit_36 (by decide) ?_
          refine J.goto (tgt := 41) dX12_isLetterOrDigit_37 (by decide) ?_
          refine J.zret dX12_isLetterOrDigit_41 rfl rfl ?_
          refine ⟨congrArg (fun z => some (Value.int z)) ?_, rfl⟩
          have e0 : aldg x = true := by
            simp only [aldg, Bool.and_eq_true, Bool.or_eq_true, Bool.and_eq_false_iff, Bool.or_eq_false_iff, decide_eq_true_eq, decide_eq_false_iff_not, i32_lt, i32_le, i32_eq, Int32.reduceToInt] at *
            omega
          rw [e0]; rfl
    · skip
      refine J.iload_n dX12_isLetterOrDigit_18 rfl ?_
      refine J.bipush (v := 90) dX12_isLetterOrDigit_19 (by decide) ?_
      refine J.icmp_le (tgt := 36) dX12_isLetterOrDigit_21 (by decide) (fun c_21 => ?_) (fun c_21 => ?_)
      · skip
        refine J.iconst (v := 1) dX12_isLetterOrDigit_36 (by decide) ?_
        refine J.goto (tgt := 41) dX12_isLetterOrDigit_37 (by decide) ?_
        refine J.zret dX12_isLetterOrDigit_41 rfl rfl ?_
        refine ⟨congrArg (fun z => some (Value.int z)) ?_, rfl⟩
        have e0 : aldg x = true := by
          simp only [aldg, Bool.and_eq_true, Bool.or_eq_true, Bool.and_eq_false_iff, Bool.or_eq_false_iff, decide_eq_true_eq, decide_eq_false_iff_not, i32_lt, i32_le, i32_eq, Int32.reduceToInt] at *
          omega
        rw [e0]; rfl
      · skip
        refine J.iload_n dX12_isLetterOrDigit_24 rfl ?_
        refine J.bipush (v := 97) dX12_isLetterOrDigit_25 (by decide) ?_
        refine J.icmp_lt (tgt := 40) dX12_isLetterOrDigit_27 (by decide) (fun c_27 => ?_) (fun c_27 => ?_)
        · skip
          refine J.iconst (v := 0) dX12_isLetterOrDigit_40 (by decide) ?_
          refine J.zret dX12_isLetterOrDigit_41 rfl rfl ?_
          refine ⟨congrArg (fun z => some (Value.int z)) ?_, rfl⟩
          have e0 : aldg x = false := by
            simp only [aldg, Bool.and_eq_true, Bool.or_eq_true, Bool.and_eq_false_iff, Bool.or_eq_false_iff, decide_eq_true_eq, decide_eq_false_iff_not, i32_lt, i32_le, i32_eq, Int32.reduceToInt] at *
            omega
          rw [e0]; rfl
        · skip
          refine J.iload_n dX12_isLetterOrDigit_30 rfl ?_
          refine J.bipush (v := 122) dX12_isLetterOrDigit_31 (by decide) ?_
          refine J.icmp_gt (tgt := 40) dX12_isLetterOrDigit_33 (by decide) (fun c_33 => ?_) (fun c_33 => ?_)
          · skip
            refine J.iconst (v := 0) dX12_isLetterOrDigit_40 (by decide) ?_
            refine J.zret dX12_isLetterOrDigit_41 rfl rfl ?_
            refine ⟨congrArg (fun z => some (Value.int z)) ?_, rfl⟩
            have e0 : aldg x = false := by
              simp only [aldg, Bool.and_eq_true, Bool.or_eq_true, Bool.and_eq_false_iff, Bool.or_eq_false_iff, decide_eq_true_eq, decide_eq_false_iff_not, i32_lt, i32_le, i32_eq, Int32.reduceToInt] at *
              omega
            rw [e0]; rfl
          · skip
            refine J.iconst (v := 1) dX12_isLetterOrDigit_36 (by decide) ?_
            refine J.goto (tgt := 41) dX12_isLetterOrDigit_37 (by decide) ?_
            refine J.zret dX12_isLetterOrDigit_41 rfl rfl ?_
            refine ⟨congrArg (fun z => some (Value.int z)) ?_, rfl⟩
            have e0 : aldg x = true := by
              simp only [aldg, Bool.and_eq_true, Bool.or_eq_true, Bool.and_eq_false_iff, Bool.or_eq_false_iff, decide_eq_true_eq, decide_eq_false_iff_not, i32_lt, i32_le, i32_eq, Int32.reduceToInt] at *
              omega
            rw [e0]; rfl
  · skip
    refine J.iload_n dX12_isLetterOrDigit_6 rfl ?_
    refine J.bipush (v := 57) dX12_isLetterOrDigit_7 (by decide) ?_
    refine J.icmp_le (tgt := 36) dX12_isLetterOrDigit_9 (by decide) (fun c_9 => ?_) (fun c_9 => ?_)
    · skip
      refine J.iconst (v := 1) dX12_isLetterOrDigit_36 (by decide) ?_
      refine J.goto (tgt := 41) dX12_isLetterOrDigit_37 (by decide) ?_
      refine J.zret dX12_isLetterOrDigit_41 rfl rfl ?_
      refine ⟨congrArg (fun z => some (Value.int z)) ?_, rfl⟩
      have e0 : aldg x = true := by
        simp only [aldg, Bool.and_eq_true, Bool.or_eq_true, Bool.and_eq_false_iff, Bool.or_eq_false_iff, decide_eq_true_eq, decide_eq_false_iff_not, i32_lt, i32_le, i32_eq, Int32.reduceToInt] at *
        omega
      rw [e0]; rfl
    · skip
      refine J.iload_n dX12_isLetterOrDigit_12 rfl ?_
      refine J.bipush (v := 65) dX12_isLetterOrDigit_13 (by decide) ?_
      refine J.icmp_lt (tgt := 24) dX12_isLetterOrDigit_15 (by decide) (fun c_15 => ?_) (fun c_15 => ?_)
      · skip
        refine J.iload_n dX12_isLetterOrDigit_24 rfl ?_
        refine J.bipush (v := 97) dX12_isLetterOrDigit_25 (by decide) ?_
        refine J.icmp_lt (tgt := 40) dX12_isLetterOrDigit_27 (by decide) (fun c_27 => ?_) (fun c_27 => ?_)
        · skip
          refine J.iconst (v := 0) dX12_isLetterOrDigit_40 (by decide) ?_
          refine J.zret dX12_isLetterOrDigit_41 rfl rfl ?_
          refine ⟨congrArg (fun z => some (Value.int z)) ?_, rfl⟩
          have e0 : aldg x = false := by
            simp only [aldg, Bool.and_eq_true, Bool.or_eq_true, Bool.and_eq_false_iff, Bool.or_eq_false_iff, decide_eq_true_eq, decide_eq_false_iff_not, i32_lt, i32_le, i32_eq, Int32.reduceToInt] at *
            omega
          rw [e0]; rfl
        · skip
          refine J.iload_n dX12_isLetterOrDigit_30 rfl ?_
          refine J.bipush (v := 122) dX12_isLetterOrDigit_31 (by decide) ?_
          refine J.icmp_gt (tgt := 40) dX12_isLetterOrDigit_33 (by decide) (fun c_33 => ?_) (fun c_33 => ?_)
          · skip
            refine J.iconst (v := 0) dX12_isLetterOrDigit_40 (by decide) ?_
            refine J.zret dX12_isLetterOrDigit_41 rfl rfl ?_
            refine ⟨congrArg (fun z => some (Value.int z)) ?_, rfl⟩
            have e0 : aldg x = false := by
              simp only [aldg, Bool.and_eq_true, Bool.or_eq_true, Bool.and_eq_false_iff, Bool.or_eq_false_iff, decide_eq_true_eq, decide_eq_false_iff_not, i32_lt, i32_le, i32_eq, Int32.reduceToInt] at *
              omega
            rw [e0]; rfl
          · skip
            refine J.iconst (v := 1) dX12_isLetterOrDigit_36 (by decide) ?_
            refine J.goto (tgt := 41) dX12_isLetterOrDigit_37 (by decide) ?_
            refine J.zret dX12_isLetterOrDigit_41 rfl rfl ?_
            refine ⟨congrArg (fun z => some (Value.int z)) ?_, rfl⟩
            have e0 : aldg x = true := by
              simp only [aldg, Bool.and_eq_true, Bool.or_eq_true, Bool.and_eq_false_iff, Bool.or_eq_false_iff, decide_eq_true_eq, decide_eq_false_iff_not, i32_lt, i32_le, i32_eq, Int32.reduceToInt] at *
              omega
            rw [e0]; rfl
      · skip
        refine J.iload_n dX12_isLetterOrDigit_18 rfl ?_
        refine J.bipush (v := 90) dX12_isLetterOrDigit_19 (by decide) ?_
        refine J.icmp_le (tgt := 36) dX12_isLetterOrDigit_21 (by decide) (fun c_21 => ?_) (fun c_21 => ?_)
        · skip
          refine J.iconst (v := 1) dX12_isLetterOrDigit_36 (by decide) ?_
          refine J.goto (tgt := 41) dX12_isLetterOrDigit_37 (by decide) ?_
          refine J.zret dX12_isLetterOrDigit_41 rfl rfl ?_
          refine ⟨congrArg (fun z => some (Value.int z)) ?_, rfl⟩
          have e0 : aldg x = true := by
            simp only [aldg, Bool.and_eq_true, Bool.or_eq_true, Bool.and_eq_false_iff, Bool.or_eq_false_iff, decide_eq_true_eq, decide_eq_false_iff_not, i32_lt, i32_le, i32_eq, Int32.reduceToInt] at *
            omega
          rw [e0]; rfl
        · skip
          refine J.iload_n dX12_isLetterOrDigit_24 rfl ?_
          refine J.bipush (v := 97) dX12_isLetterOrDigit_25 (by decide) ?_
          refine J.icmp_lt (tgt := 40) dX12_isLetterOrDigit_27 (by decide) (fun c_27 => ?_) (fun c_27 => ?_)
          · skip
            refine J.iconst (v := 0) dX12_isLetterOrDigit_40 (by decide) ?_
            refine J.zret dX12_isLetterOrDigit_41 rfl rfl ?_
            refine ⟨congrArg (fun z => some (Value.int z)) ?_, rfl⟩
            have e0 : aldg x = false := by
              simp only [aldg, Bool.and_eq_true, Bool.or_eq_true, Bool.and_eq_false_iff, Bool.or_eq_false_iff, decide_eq_true_eq, decide_eq_false_iff_not, i32_lt, i32_le, i32_eq, Int32.reduceToInt] at *
              omega
            rw [e0]; rfl
          · skip
            refine J.iload_n dX12_isLetterOrDigit_30 rfl ?_
            refine J.bipush (v := 122) dX12_isLetterOrDigit_31 (by decide) ?_
            refine J.icmp_gt (tgt := 40) dX12_isLetterOrDigit_33 (by decide) (fun c_33 => ?_) (fun c_33 => ?_)
            · skip
              refine J.iconst (v := 0) dX12_isLetterOrDigit_40 (by decide) ?_
              refine J.zret dX12_isLetterOrDigit_41 rfl rfl ?_
              refine ⟨congrArg (fun z => some (Value.int z)) ?_, rfl⟩
              have e0 : aldg x = false := by
                simp only [aldg, Bool.and_eq_true, Bool.or_eq_true, Bool.and_eq_false_iff, Bool.or_eq_false_iff, decide_eq_true_eq, decide_eq_false_iff_not, i32_lt, i32_le, i32_eq, Int32.reduceToInt] at *
                omega
              rw [e0]; rfl
            · skip
              refine J.iconst (v := 1) dX12_isLetterOrDigit_36 (by decide) ?_
              refine J.goto (tgt := 41) dX12_isLetterOrDigit_37 (by decide) ?_
              refine J.zret dX12_isLetterOrDigit_41 rfl rfl ?_
              refine ⟨congrArg (fun z => some (Value.int z)) ?_, rfl⟩
              have e0 : aldg x = true := by
                simp only [aldg, Bool.and_eq_true, Bool.or_eq_true, Bool.and_eq_false_iff, Bool.or_eq_false_iff, decide_eq_true_eq, decide_eq_false_iff_not, i32_lt, i32_le, i32_eq, Int32.reduceToInt] at *
                omega
              rw [e0]; rfl

theorem m_isLife {Λ : kL} {σ : kh} (x : Int32) : jCt Λ mX12_isLife 0 0 [.int x] σ (fun v σ' => v = some (.int (bI (lifeb x))) ∧ σ' = σ) := by
  refine jCt.of pn_X12 [some (.int x)] rfl (Nat.le_of_ble_eq_true rfl) fun X => ?_
  refine J.iload_n dX12_isLife_0 rfl ?_
  refine J.iconst (v := 1) dX12_isLife_1 (by decide) ?_
  refine J.icmp_lt (tgt := 16) dX12_isLife_2 (by decide) (fun c_2 => ?_) (fun c_2 => ?_)
  · skip
    refine J.iconst (v := 0) dX12_isLife_16 (by decide) ?_
    refine J.zret dX12_isLife_17 rfl rfl ?_
    refine ⟨congrArg (fun z => some (Value.int z)) ?_, rfl⟩
    have e0 : lifeb x = false := by
      simp only [lifeb, Bool.and_eq_true, Bool.or_eq_true, Bool.and_eq_false_iff, Bool.or_eq_false_iff, decide_eq_true_eq, decide_eq_false_iff_not, i32_lt, i32_le, i32_eq, Int32.reduceToInt] at *
      omega
    rw [e0]; rfl
  · skip
    refine J.iload_n dX12_isLife_5 rfl ?_
    refine J.ldcw (v := 1000000) dX12_isLife_6 co_X12_361 ?_
    refine J.icmp_gt (tgt := 16) dX12_isLife_9 (by decide) (fun c_9 => ?_) (fun c_9 => ?_)
    · skip
      refine J.iconst (v := 0) dX12_isLife_16 (by decide) ?_
      refine J.zret dX12_isLife_17 rfl rfl ?_
      refine ⟨congrArg (fun z => some (Value.int z)) ?_, rfl⟩
      have e0 : lifeb x = false := by
        simp only [lifeb, Bool.and_eq_true, Bool.or_eq_true, Bool.and_eq_false_iff, Bool.or_eq_false_iff, decide_eq_true_eq, decide_eq_false_iff_not, i32_lt, i32_le, i32_eq, Int32.reduceToInt] at *
        omega
      rw [e0]; rfl
    · skip
      refine J.iconst (v := 1) dX12_isLife_12 (by decide) ?_
      refine J.goto (tgt := 17) dX12_isLife_13 (by decide) ?_
      refine J.zret dX12_isLife_17 rfl rfl ?_
      refine ⟨congrArg (fun z => some (Value.int z)) ?_, rfl⟩
      have e0 : lifeb x = true := by
        simp only [lifeb, Bool.and_eq_true, Bool.or_eq_true, Bool.and_eq_false_iff, Bool.or_eq_false_iff, decide_eq_true_eq, decide_eq_false_iff_not, i32_lt, i32_le, i32_eq, Int32.reduceToInt] at *
        omega
      rw [e0]; rfl

theorem c_hexDigit {Λ : kL} {σ : kh} (x : Int32) : jCt Λ mX11_hexDigit 0 0 [.int x] σ (fun v σ' => v = some (.int (hexd x)) ∧ σ' = σ) := by
  refine jCt.of pn_X11 [some (.int x)] rfl (Nat.le_of_ble_eq_true rfl) fun X => ?_
  refine J.iload_n dX11_hexDigit_0 rfl ?_
  refine J.bipush (v := 48) dX11_hexDigit_1 (by decide) ?_
  refine J.icmp_lt (tgt := 17) dX11_hexDigit_3 (by decide) (fun c_3 => ?_) (fun c_3 => ?_)
  · skip
    refine J.iload_n dX11_hexDigit_17 rfl ?_
    refine J.bipush (v := 65) dX11_hexDigit_18 (by decide) ?_
    refine J.icmp_lt (tgt := 37) dX11_hexDigit_20 (by decide) (fun c_20 => ?_) (fun c_20 => ?_)
    · skip
      refine J.iload_n dX11_hexDigit_37 rfl ?_
      refine J.bipush (v := 97) dX11_hexDigit_38 (by decide) ?_
      refine J.icmp_lt (tgt := 59) dX11_hexDigit_40 (by decide) (fun c_40 => ?_) (fun c_40 => ?_)
      · skip
        refine J.iconst (v := (-1)) dX11_hexDigit_59 (by decide) ?_
        refine J.iret dX11_hexDigit_60 rfl ?_
        refine ⟨congrArg (fun z => some (Value.int z)) ?_, rfl⟩
        rw [hexd]
        simp only [i32_lt, i32_le, Int32.reduceToInt] at *
        (repeat' split) <;> first | rfl | omega
      · skip
        refine J.iload_n dX11_hexDigit_43 rfl ?_
        refine J.bipush (v := 102) dX11_hexDigit_44 (by decide) ?_
        refine J.icmp_gt (tgt := 59) dX11_hexDigit_46 (by decide) (fun c_46 => ?_) (fun c_46 => ?_)
        · skip
          refine J.iconst (v := (-1)) dX11_hexDigit_59 (by decide) ?_
          refine J.iret dX11_hexDigit_60 rfl ?_
          refine ⟨congrArg (fun z => some (Value.int z)) ?_, rfl⟩
          rw [hexd]
          simp only [i32_lt, i32_le, Int32.reduceToInt] at *
          (repeat' split) <;> first | rfl | omega
        · skip
          refine J.iload_n dX11_hexDigit_49 rfl ?_
          refine J.bipush (v := 97) dX11_hexDigit_50 (by decide) ?_
          refine J.isub dX11_hexDigit_52 ?_
          refine J.bipush (v := 10) dX11_hexDigit_53 (by decide) ?_
          refine J.iadd dX11_hexDigit_55 ?_
          refine J.goto (tgt := 60) dX11_hexDigit_56 (by decide) ?_
          refine J.iret dX11_hexDigit_60 rfl ?_
          refine ⟨congrArg (fun z => some (Value.int z)) ?_, rfl⟩
          rw [hexd]
          simp only [i32_lt, i32_le, Int32.reduceToInt] at *
          (repeat' split) <;> first | rfl | omega
    · skip
      refine J.iload_n dX11_hexDigit_23 rfl ?_
      refine J.bipush (v := 70) dX11_hexDigit_24 (by decide) ?_
      refine J.icmp_gt (tgt := 37) dX11_hexDigit_26 (by decide) (fun c_26 => ?_) (fun c_26 => ?_)
      · skip
        refine J.iload_n dX11_hexDigit_37 rfl ?_
        refine J.bipush (v := 97) dX11_hexDigit_38 (by decide) ?_
        refine J.icmp_lt (tgt := 59) dX11_hexDigit_40 (by decide) (fun c_40 => ?_) (fun c_40 => ?_)
        · skip
          refine J.iconst (v := (-1)) dX11_hexDigit_59 (by decide) ?_
          refine J.iret dX11_hexDigit_60 rfl ?_
          refine ⟨congrArg (fun z => some (Value.int z)) ?_, rfl⟩
          rw [hexd]
          simp only [i32_lt, i32_le, Int32.reduceToInt] at *
          (repeat' split) <;> first | rfl | omega
        · skip
          refine J.iload_n dX11_hexDigit_43 rfl ?_
          refine J.bipush (v := 102) dX11_hexDigit_44 (by decide) ?_
          refine J.icmp_gt (tgt := 59) dX11_hexDigit_46 (by decide) (fun c_46 => ?_) (fun c_46 => ?_)
          · skip
            refine J.iconst (v := (-1)) dX11_hexDigit_59 (by decide) ?_
            refine J.iret dX11_hexDigit_60 rfl ?_
            refine ⟨congrArg (fun z => some (Value.int z)) ?_, rfl⟩
            rw [hexd]
            simp only [i32_lt, i32_le, Int32.reduceToInt] at *
            (repeat' split) <;> first | rfl | omega
          · skip
            refine J.iload_n dX11_hexDigit_49 rfl ?_
            refine J.bipush (v := 97) dX11_hexDigit_50 (by decide) ?_
            refine J.isub dX11_hexDigit_52 ?_
            refine J.bipush (v := 10) dX11_hexDigit_53 (by decide) ?_
            refine J.iadd dX11_hexDigit_55 ?_
            refine J.goto (tgt := 60) dX11_hexDigit_56 (by decide) ?_
            refine J.iret dX11_hexDigit_60 rfl ?_
            refine ⟨congrArg (fun z => some (Value.int z)) ?_, rfl⟩
            rw [hexd]
            simp only [i32_lt, i32_le, Int32.reduceToInt] at *
            (repeat' split) <;> first | rfl | omega
      · skip
        refine J.iload_n dX11_hexDigit_29 rfl ?_
        refine J.bipush (v := 65) dX11_hexDigit_30 (by decide) ?_
        refine J.isub dX11_hexDigit_32 ?_
        refine J.bipush (v := 10) dX11_hexDigit_33 (by decide) ?_
        refine J.iadd dX11_hexDigit_35 ?_
        refine J.iret dX11_hexDigit_36 rfl ?_
        refine ⟨congrArg (fun z => some (Value.int z)) ?_, rfl⟩
        rw [hexd]
        simp only [i32_lt, i32_le, Int32.reduceToInt] at *
        (repeat' split) <;> first | rfl | omega
  · skip
    refine J.iload_n dX11_hexDigit_6 rfl ?_
    refine J.bipush (v := 57) dX11_hexDigit_7 (by decide) ?_
    refine J.icmp_gt (tgt := 17) dX11_hexDigit_9 (by decide) (fun c_9 => ?_) (fun c_9 => ?_)
    · skip
      refine J.iload_n dX11_hexDigit_17 rfl ?_
      refine J.bipush (v := 65) dX11_hexDigit_18 (by decide) ?_
      refine J.icmp_lt (tgt := 37) dX11_hexDigit_20 (by decide) (fun c_20 => ?_) (fun c_20 => ?_)
      · skip
        refine J.iload_n dX11_hexDigit_37 rfl ?_
        refine J.bipush (v := 97) dX11_hexDigit_38 (by decide) ?_
        refine J.icmp_lt (tgt := 59) dX11_hexDigit_40 (by decide) (fun c_40 => ?_) (fun c_40 => ?_)
        · skip
          refine J.iconst (v := (-1)) dX11_hexDigit_59 (by decide) ?_
          refine J.iret dX11_hexDigit_60 rfl ?_
          refine ⟨congrArg (fun z => some (Value.int z)) ?_, rfl⟩
          rw [hexd]
          simp only [i32_lt, i32_le, Int32.reduceToInt] at *
          (repeat' split) <;> first | rfl | omega
        · skip
          refine J.iload_n dX11_hexDigit_43 rfl ?_
          refine J.bipush (v := 102) dX11_hexDigit_44 (by decide) ?_
          refine J.icmp_gt (tgt := 59) dX11_hexDigit_46 (by decide) (fun c_46 => ?_) (fun c_46 => ?_)
          · skip
            refine J.iconst (v := (-1)) dX11_hexDigit_59 (by decide) ?_
            refine J.iret dX11_hexDigit_60 rfl ?_
            refine ⟨congrArg (fun z => some (Value.int z)) ?_, rfl⟩
            rw [hexd]
            simp only [i32_lt, i32_le, Int32.reduceToInt] at *
            (repeat' split) <;> first | rfl | omega
          · skip
            refine J.iload_n dX11_hexDigit_49 rfl ?_
            refine J.bipush (v := 97) dX11_hexDigit_50 (by decide) ?_
            refine J.isub dX11_hexDigit_52 ?_
            refine J.bipush (v := 10) dX11_hexDigit_53 (by decide) ?_
            refine J.iadd dX11_hexDigit_55 ?_
            refine J.goto (tgt := 60) dX11_hexDigit_56 (by decide) ?_
            refine J.iret dX11_hexDigit_60 rfl ?_
            refine ⟨congrArg (fun z => some (Value.int z)) ?_, rfl⟩
            rw [hexd]
            simp only [i32_lt, i32_le, Int32.reduceToInt] at *
            (repeat' split) <;> first | rfl | omega
      · skip
        refine J.iload_n dX11_hexDigit_23 rfl ?_
        refine J.bipush (v := 70) dX11_hexDigit_24 (by decide) ?_
        refine J.icmp_gt (tgt := 37) dX11_hexDigit_26 (by decide) (fun c_26 => ?_) (fun c_26 => ?_)
        · skip
          refine J.iload_n dX11_hexDigit_37 rfl ?_
          refine J.bipush (v := 97) dX11_hexDigit_38 (by decide) ?_
          refine J.icmp_lt (tgt := 59) dX11_hexDigit_40 (by decide) (fun c_40 => ?_) (fun c_40 => ?_)
          · skip
            refine J.iconst (v := (-1)) dX11_hexDigit_59 (by decide) ?_
            refine J.iret dX11_hexDigit_60 rfl ?_
            refine ⟨congrArg (fun z => some (Value.int z)) ?_, rfl⟩
            rw [hexd]
            simp only [i32_lt, i32_le, Int32.reduceToInt] at *
            (repeat' split) <;> first | rfl | omega
          · skip
            refine J.iload_n dX11_hexDigit_43 rfl ?_
            refine J.bipush (v := 102) dX11_hexDigit_44 (by decide) ?_
            refine J.icmp_gt (tgt := 59) dX11_hexDigit_46 (by decide) (fun c_46 => ?_) (fun c_46 => ?_)
            · skip
              refine J.iconst (v := (-1)) dX11_hexDigit_59 (by decide) ?_
              refine J.iret dX11_hexDigit_60 rfl ?_
              refine ⟨congrArg (fun z => some (Value.int z)) ?_, rfl⟩
              rw [hexd]
              simp only [i32_lt, i32_le, Int32.reduceToInt] at *
              (repeat' split) <;> first | rfl | omega
            · skip
              refine J.iload_n dX11_hexDigit_49 rfl ?_
              refine J.bipush (v := 97) dX11_hexDigit_50 (by decide) ?_
              refine J.isub dX11_hexDigit_52 ?_
              refine J.bipush (v := 10) dX11_hexDigit_53 (by decide) ?_
              refine J.iadd dX11_hexDigit_55 ?_
              refine J.goto (tgt := 60) dX11_hexDigit_56 (by decide) ?_
              refine J.iret dX11_hexDigit_60 rfl ?_
              refine ⟨congrArg (fun z => some (Value.int z)) ?_, rfl⟩
              rw [hexd]
              simp only [i32_lt, i32_le, Int32.reduceToInt] at *
              (repeat' split) <;> first | rfl | omega
        · skip
          refine J.iload_n dX11_hexDigit_29 rfl ?_
          refine J.bipush (v := 65) dX11_hexDigit_30 (by decide) ?_
          refine J.isub dX11_hexDigit_32 ?_
          refine J.bipush (v := 10) dX11_hexDigit_33 (by decide) ?_
          refine J.iadd dX11_hexDigit_35 ?_
          refine J.iret dX11_hexDigit_36 rfl ?_
          refine ⟨congrArg (fun z => some (Value.int z)) ?_, rfl⟩
          rw [hexd]
          simp only [i32_lt, i32_le, Int32.reduceToInt] at *
          (repeat' split) <;> first | rfl | omega
    · skip
      refine J.iload_n dX11_hexDigit_12 rfl ?_
      refine J.bipush (v := 48) dX11_hexDigit_13 (by decide) ?_
      refine J.isub dX11_hexDigit_15 ?_
      refine J.iret dX11_hexDigit_16 rfl ?_
      refine ⟨congrArg (fun z => some (Value.int z)) ?_, rfl⟩
      rw [hexd]
      simp only [i32_lt, i32_le, Int32.reduceToInt] at *
      (repeat' split) <;> first | rfl | omega

theorem m_hex {Λ : kL} {σ : kh} (x : Int32) : jCt Λ mX12_hex 0 0 [.int x] σ (fun v σ' => v = some (.int (hexd x)) ∧ σ' = σ) := by
  refine jCt.of pn_X12 [some (.int x)] rfl (Nat.le_of_ble_eq_true rfl) fun X => ?_
  refine J.iload_n dX12_hex_0 rfl ?_
  refine J.bipush (v := 48) dX12_hex_1 (by decide) ?_
  refine J.icmp_lt (tgt := 19) dX12_hex_3 (by decide) (fun c_3 => ?_) (fun c_3 => ?_)
  · skip
    refine J.iload_n dX12_hex_19 rfl ?_
    refine J.bipush (v := 65) dX12_hex_20 (by decide) ?_
    refine J.icmp_lt (tgt := 41) dX12_hex_22 (by decide) (fun c_22 => ?_) (fun c_22 => ?_)
    · skip
      refine J.iload_n dX12_hex_41 rfl ?_
      refine J.bipush (v := 97) dX12_hex_42 (by decide) ?_
      refine J.icmp_lt (tgt := 63) dX12_hex_44 (by decide) (fun c_44 => ?_) (fun c_44 => ?_)
      · skip
        refine J.iconst (v := (-1)) dX12_hex_63 (by decide) ?_
        refine J.iret dX12_hex_64 rfl ?_
        refine ⟨congrArg (fun z => some (Value.int z)) ?_, rfl⟩
        rw [hexd]
        simp only [i32_lt, i32_le, Int32.reduceToInt] at *
        (repeat' split) <;> first | rfl | omega
      · skip
        refine J.iload_n dX12_hex_47 rfl ?_
        refine J.bipush (v := 102) dX12_hex_48 (by decide) ?_
        refine J.icmp_gt (tgt := 63) dX12_hex_50 (by decide) (fun c_50 => ?_) (fun c_50 => ?_)
        · skip
          refine J.iconst (v := (-1)) dX12_hex_63 (by decide) ?_
          refine J.iret dX12_hex_64 rfl ?_
          refine ⟨congrArg (fun z => some (Value.int z)) ?_, rfl⟩
          rw [hexd]
          simp only [i32_lt, i32_le, Int32.reduceToInt] at *
          (repeat' split) <;> first | rfl | omega
        · skip
          refine J.iload_n dX12_hex_53 rfl ?_
          refine J.bipush (v := 97) dX12_hex_54 (by decide) ?_
          refine J.isub dX12_hex_56 ?_
          refine J.bipush (v := 10) dX12_hex_57 (by decide) ?_
          refine J.iadd dX12_hex_59 ?_
          refine J.goto (tgt := 64) dX12_hex_60 (by decide) ?_
          refine J.iret dX12_hex_64 rfl ?_
          refine ⟨congrArg (fun z => some (Value.int z)) ?_, rfl⟩
          rw [hexd]
          simp only [i32_lt, i32_le, Int32.reduceToInt] at *
          (repeat' split) <;> first | rfl | omega
    · skip
      refine J.iload_n dX12_hex_25 rfl ?_
      refine J.bipush (v := 70) dX12_hex_26 (by decide) ?_
      refine J.icmp_gt (tgt := 41) dX12_hex_28 (by decide) (fun c_28 => ?_) (fun c_28 => ?_)
      · skip
        refine J.iload_n dX12_hex_41 rfl ?_
        refine J.bipush (v := 97) dX12_hex_42 (by decide) ?_
        refine J.icmp_lt (tgt := 63) dX12_hex_44 (by decide) (fun c_44 => ?_) (fun c_44 => ?_)
        · skip
          refine J.iconst (v := (-1)) dX12_hex_63 (by decide) ?_
          refine J.iret dX12_hex_64 rfl ?_
          refine ⟨congrArg (fun z => some (Value.int z)) ?_, rfl⟩
          rw [hexd]
          simp only [i32_lt, i32_le, Int32.reduceToInt] at *
          (repeat' split) <;> first | rfl | omega
        · skip
          refine J.iload_n dX12_hex_47 rfl ?_
          refine J.bipush (v := 102) dX12_hex_48 (by decide) ?_
          refine J.icmp_gt (tgt := 63) dX12_hex_50 (by decide) (fun c_50 => ?_) (fun c_50 => ?_)
          · skip
            refine J.iconst (v := (-1)) dX12_hex_63 (by decide) ?_
            refine J.iret dX12_hex_64 rfl ?_
            refine ⟨congrArg (fun z => some (Value.int z)) ?_, rfl⟩
            rw [hexd]
            simp only [i32_lt, i32_le, Int32.reduceToInt] at *
            (repeat' split) <;> first | rfl | omega
          · skip
            refine J.iload_n dX12_hex_53 rfl ?_
            refine J.bipush (v := 97) dX12_hex_54 (by decide) ?_
            refine J.isub dX12_hex_56 ?_
            refine J.bipush (v := 10) dX12_hex_57 (by decide) ?_
            refine J.iadd dX12_hex_59 ?_
            refine J.goto (tgt := 64) dX12_hex_60 (by decide) ?_
            refine J.iret dX12_hex_64 rfl ?_
            refine ⟨congrArg (fun z => some (Value.int z)) ?_, rfl⟩
            rw [hexd]
            simp only [i32_lt, i32_le, Int32.reduceToInt] at *
            (repeat' split) <;> first | rfl | omega
      · skip
        refine J.iload_n dX12_hex_31 rfl ?_
        refine J.bipush (v := 65) dX12_hex_32 (by decide) ?_
        refine J.isub dX12_hex_34 ?_
        refine J.bipush (v := 10) dX12_hex_35 (by decide) ?_
        refine J.iadd dX12_hex_37 ?_
        refine J.goto (tgt := 64) dX12_hex_38 (by decide) ?_
        refine J.iret dX12_hex_64 rfl ?_
        refine ⟨congrArg (fun z => some (Value.int z)) ?_, rfl⟩
        rw [hexd]
        simp only [i32_lt, i32_le, Int32.reduceToInt] at *
        (repeat' split) <;> first | rfl | omega
  · skip
    refine J.iload_n dX12_hex_6 rfl ?_
    refine J.bipush (v := 57) dX12_hex_7 (by decide) ?_
    refine J.icmp_gt (tgt := 19) dX12_hex_9 (by decide) (fun c_9 => ?_) (fun c_9 => ?_)
    · skip
      refine J.iload_n dX12_hex_19 rfl ?_
      refine J.bipush (v := 65) dX12_hex_20 (by decide) ?_
      refine J.icmp_lt (tgt := 41) dX12_hex_22 (by decide) (fun c_22 => ?_) (fun c_22 => ?_)
      · skip
        refine J.iload_n dX12_hex_41 rfl ?_
        refine J.bipush (v := 97) dX12_hex_42 (by decide) ?_
        refine J.icmp_lt (tgt := 63) dX12_hex_44 (by decide) (fun c_44 => ?_) (fun c_44 => ?_)
        · skip
          refine J.iconst (v := (-1)) dX12_hex_63 (by decide) ?_
          refine J.iret dX12_hex_64 rfl ?_
          refine ⟨congrArg (fun z => some (Value.int z)) ?_, rfl⟩
          rw [hexd]
          simp only [i32_lt, i32_le, Int32.reduceToInt] at *
          (repeat' split) <;> first | rfl | omega
        · skip
          refine J.iload_n dX12_hex_47 rfl ?_
          refine J.bipush (v := 102) dX12_hex_48 (by decide) ?_
          refine J.icmp_gt (tgt := 63) dX12_hex_50 (by decide) (fun c_50 => ?_) (fun c_50 => ?_)
          · skip
            refine J.iconst (v := (-1)) dX12_hex_63 (by decide) ?_
            refine J.iret dX12_hex_64 rfl ?_
            refine ⟨congrArg (fun z => some (Value.int z)) ?_, rfl⟩
            rw [hexd]
            simp only [i32_lt, i32_le, Int32.reduceToInt] at *
            (repeat' split) <;> first | rfl | omega
          · skip
            refine J.iload_n dX12_hex_53 rfl ?_
            refine J.bipush (v := 97) dX12_hex_54 (by decide) ?_
            refine J.isub dX12_hex_56 ?_
            refine J.bipush (v := 10) dX12_hex_57 (by decide) ?_
            refine J.iadd dX12_hex_59 ?_
            refine J.goto (tgt := 64) dX12_hex_60 (by decide) ?_
            refine J.iret dX12_hex_64 rfl ?_
            refine ⟨congrArg (fun z => some (Value.int z)) ?_, rfl⟩
            rw [hexd]
            simp only [i32_lt, i32_le, Int32.reduceToInt] at *
            (repeat' split) <;> first | rfl | omega
      · skip
        refine J.iload_n dX12_hex_25 rfl ?_
        refine J.bipush (v := 70) dX12_hex_26 (by decide) ?_
        refine J.icmp_gt (tgt := 41) dX12_hex_28 (by decide) (fun c_28 => ?_) (fun c_28 => ?_)
        · skip
          refine J.iload_n dX12_hex_41 rfl ?_
          refine J.bipush (v := 97) dX12_hex_42 (by decide) ?_
          refine J.icmp_lt (tgt := 63) dX12_hex_44 (by decide) (fun c_44 => ?_) (fun c_44 => ?_)
          · skip
            refine J.iconst (v := (-1)) dX12_hex_63 (by decide) ?_
            refine J.iret dX12_hex_64 rfl ?_
            refine ⟨congrArg (fun z => some (Value.int z)) ?_, rfl⟩
            rw [hexd]
            simp only [i32_lt, i32_le, Int32.reduceToInt] at *
            (repeat' split) <;> first | rfl | omega
          · skip
            refine J.iload_n dX12_hex_47 rfl ?_
            refine J.bipush (v := 102) dX12_hex_48 (by decide) ?_
            refine J.icmp_gt (tgt := 63) dX12_hex_50 (by decide) (fun c_50 => ?_) (fun c_50 => ?_)
            · skip
              refine J.iconst (v := (-1)) dX12_hex_63 (by decide) ?_
              refine J.iret dX12_hex_64 rfl ?_
              refine ⟨congrArg (fun z => some (Value.int z)) ?_, rfl⟩
              rw [hexd]
              simp only [i32_lt, i32_le, Int32.reduceToInt] at *
              (repeat' split) <;> first | rfl | omega
            · skip
              refine J.iload_n dX12_hex_53 rfl ?_
              refine J.bipush (v := 97) dX12_hex_54 (by decide) ?_
              refine J.isub dX12_hex_56 ?_
              refine J.bipush (v := 10) dX12_hex_57 (by decide) ?_
              refine J.iadd dX12_hex_59 ?_
              refine J.goto (tgt := 64) dX12_hex_60 (by decide) ?_
              refine J.iret dX12_hex_64 rfl ?_
              refine ⟨congrArg (fun z => some (Value.int z)) ?_, rfl⟩
              rw [hexd]
              simp only [i32_lt, i32_le, Int32.reduceToInt] at *
              (repeat' split) <;> first | rfl | omega
        · skip
          refine J.iload_n dX12_hex_31 rfl ?_
          refine J.bipush (v := 65) dX12_hex_32 (by decide) ?_
          refine J.isub dX12_hex_34 ?_
          refine J.bipush (v := 10) dX12_hex_35 (by decide) ?_
          refine J.iadd dX12_hex_37 ?_
          refine J.goto (tgt := 64) dX12_hex_38 (by decide) ?_
          refine J.iret dX12_hex_64 rfl ?_
          refine ⟨congrArg (fun z => some (Value.int z)) ?_, rfl⟩
          rw [hexd]
          simp only [i32_lt, i32_le, Int32.reduceToInt] at *
          (repeat' split) <;> first | rfl | omega
    · skip
      refine J.iload_n dX12_hex_12 rfl ?_
      refine J.bipush (v := 48) dX12_hex_13 (by decide) ?_
      refine J.isub dX12_hex_15 ?_
      refine J.goto (tgt := 64) dX12_hex_16 (by decide) ?_
      refine J.iret dX12_hex_64 rfl ?_
      refine ⟨congrArg (fun z => some (Value.int z)) ?_, rfl⟩
      rw [hexd]
      simp only [i32_lt, i32_le, Int32.reduceToInt] at *
      (repeat' split) <;> first | rfl | omega

theorem c_isWithin {Λ : kL} {σ : kh} (x y : Int32) : jCt Λ mX11_isWithin 0 0 [.int x, .int y] σ (fun v σ' => v = some (.int (bI (wthn x y))) ∧ σ' = σ) := by
  refine jCt.of pn_X11 [some (.int x), some (.int y)] rfl (Nat.le_of_ble_eq_true rfl) fun X => ?_
  refine J.iload_n dX11_isWithin_0 rfl ?_
  refine J.iload_n dX11_isWithin_1 rfl ?_
  refine J.iconst (v := (-1)) dX11_isWithin_2 (by decide) ?_
  refine J.ixor dX11_isWithin_3 ?_
  refine J.iand dX11_isWithin_4 ?_
  refine J.if_ne (tgt := 12) dX11_isWithin_5 (by decide) (fun c_5 => ?_) (fun c_5 => ?_)
  · skip
    refine J.iconst (v := 0) dX11_isWithin_12 (by decide) ?_
    refine J.zret dX11_isWithin_13 rfl rfl ?_
    refine ⟨congrArg (fun z => some (Value.int z)) ?_, rfl⟩
    have e0 : wthn x y = false := by simp only [wthn, decide_eq_true_eq, decide_eq_false_iff_not]; first | exact c_5 | exact Classical.not_not.mp c_5
    rw [e0]; rfl
  · skip
    refine J.iconst (v := 1) dX11_isWithin_8 (by decide) ?_
    refine J.goto (tgt := 13) dX11_isWithin_9 (by decide) ?_
    refine J.zret dX11_isWithin_13 rfl rfl ?_
    refine ⟨congrArg (fun z => some (Value.int z)) ?_, rfl⟩
    have e0 : wthn x y = true := by simp only [wthn, decide_eq_true_eq, decide_eq_false_iff_not]; first | exact c_5 | exact Classical.not_not.mp c_5
    rw [e0]; rfl

/-- the sign of six bits in base64url -/
def sgn6 (v : Int32) : Int32 := if v < 26 then 65 + v else if v < 52 then 97 + v - 26 else if v < 62 then 48 + v - 52 else if v = 62 then 45 else 95

theorem m_sign {Λ : kL} {σ : kh} (x : Int32) : jCt Λ mX12_sign 0 0 [.int x] σ (fun v σ' => v = some (.int (sgn6 x)) ∧ σ' = σ) := by
  refine jCt.of pn_X12 [some (.int x)] rfl (Nat.le_of_ble_eq_true rfl) fun X => ?_
  refine J.iload_n dX12_sign_0 rfl ?_
  refine J.bipush (v := 26) dX12_sign_1 (by decide) ?_
  refine J.icmp_ge (tgt := 13) dX12_sign_3 (by decide) (fun c_3 => ?_) (fun c_3 => ?_)
  · skip
    refine J.iload_n dX12_sign_13 rfl ?_
    refine J.bipush (v := 52) dX12_sign_14 (by decide) ?_
    refine J.icmp_ge (tgt := 29) dX12_sign_16 (by decide) (fun c_16 => ?_) (fun c_16 => ?_)
    · skip
      refine J.iload_n dX12_sign_29 rfl ?_
      refine J.bipush (v := 62) dX12_sign_30 (by decide) ?_
      refine J.icmp_ge (tgt := 45) dX12_sign_32 (by decide) (fun c_32 => ?_) (fun c_32 => ?_)
      · skip
        refine J.iload_n dX12_sign_45 rfl ?_
        refine J.bipush (v := 62) dX12_sign_46 (by decide) ?_
        refine J.icmp_ne (tgt := 56) dX12_sign_48 (by decide) (fun c_48 => ?_) (fun c_48 => ?_)
        · skip
          refine J.bipush (v := 95) dX12_sign_56 (by decide) ?_
          refine J.iret dX12_sign_58 rfl ?_
          refine ⟨congrArg (fun z => some (Value.int z)) ?_, rfl⟩
          rw [sgn6]
          simp only [i32_lt, i32_le, i32_eq, Int32.reduceToInt] at *
          (repeat' split) <;> first | rfl | omega
        · skip
          refine J.bipush (v := 45) dX12_sign_51 (by decide) ?_
          refine J.goto (tgt := 58) dX12_sign_53 (by decide) ?_
          refine J.iret dX12_sign_58 rfl ?_
          refine ⟨congrArg (fun z => some (Value.int z)) ?_, rfl⟩
          rw [sgn6]
          simp only [i32_lt, i32_le, i32_eq, Int32.reduceToInt] at *
          (repeat' split) <;> first | rfl | omega
      · skip
        refine J.bipush (v := 48) dX12_sign_35 (by decide) ?_
        refine J.iload_n dX12_sign_37 rfl ?_
        refine J.iadd dX12_sign_38 ?_
        refine J.bipush (v := 52) dX12_sign_39 (by decide) ?_
        refine J.isub dX12_sign_41 ?_
        refine J.goto (tgt := 58) dX12_sign_42 (by decide) ?_
        refine J.iret dX12_sign_58 rfl ?_
        refine ⟨congrArg (fun z => some (Value.int z)) ?_, rfl⟩
        rw [sgn6]
        simp only [i32_lt, i32_le, i32_eq, Int32.reduceToInt] at *
        (repeat' split) <;> first | rfl | omega
    · skip
      refine J.bipush (v := 97) dX12_sign_19 (by decide) ?_
      refine J.iload_n dX12_sign_21 rfl ?_
      refine J.iadd dX12_sign_22 ?_
      refine J.bipush (v := 26) dX12_sign_23 (by decide) ?_
      refine J.isub dX12_sign_25 ?_
      refine J.goto (tgt := 58) dX12_sign_26 (by decide) ?_
      refine J.iret dX12_sign_58 rfl ?_
      refine ⟨congrArg (fun z => some (Value.int z)) ?_, rfl⟩
      rw [sgn6]
      simp only [i32_lt, i32_le, i32_eq, Int32.reduceToInt] at *
      (repeat' split) <;> first | rfl | omega
  · skip
    refine J.bipush (v := 65) dX12_sign_6 (by decide) ?_
    refine J.iload_n dX12_sign_8 rfl ?_
    refine J.iadd dX12_sign_9 ?_
    refine J.goto (tgt := 58) dX12_sign_10 (by decide) ?_
    refine J.iret dX12_sign_58 rfl ?_
    refine ⟨congrArg (fun z => some (Value.int z)) ?_, rfl⟩
    rw [sgn6]
    simp only [i32_lt, i32_le, i32_eq, Int32.reduceToInt] at *
    (repeat' split) <;> first | rfl | omega

/-- a turn to the right -/
def rotr (v k : Int32) : Int32 := (v.toUInt32 >>> (k.toUInt32 &&& Int32.toUInt32 31)).toInt32 ||| (v <<< ((32 - k) &&& 31))

theorem c_rotate {Λ : kL} {σ : kh} (x y : Int32) : jCt Λ mX8_rotate 0 0 [.int x, .int y] σ (fun v σ' => v = some (.int (rotr x y)) ∧ σ' = σ) := by
  refine jCt.of pn_X8 [some (.int x), some (.int y)] rfl (Nat.le_of_ble_eq_true rfl) fun X => ?_
  refine J.iload_n dX8_rotate_0 rfl ?_
  refine J.iload_n dX8_rotate_1 rfl ?_
  refine J.iushr dX8_rotate_2 rfl ?_
  refine J.iload_n dX8_rotate_3 rfl ?_
  refine J.bipush (v := 32) dX8_rotate_4 (by decide) ?_
  refine J.iload_n dX8_rotate_6 rfl ?_
  refine J.isub dX8_rotate_7 ?_
  refine J.ishl dX8_rotate_8 ?_
  refine J.ior dX8_rotate_9 ?_
  refine J.iret dX8_rotate_10 rfl ?_
  exact ⟨rfl, rfl⟩

theorem m_rolled {Λ : kL} {σ : kh} (x y : Int32) : jCt Λ mX12_rolled 0 0 [.int x, .int y] σ (fun v σ' => v = some (.int (rotr x y)) ∧ σ' = σ) := by
  refine jCt.of pn_X12 [some (.int x), some (.int y)] rfl (Nat.le_of_ble_eq_true rfl) fun X => ?_
  refine J.iload_n dX12_rolled_0 rfl ?_
  refine J.iload_n dX12_rolled_1 rfl ?_
  refine J.iushr dX12_rolled_2 rfl ?_
  refine J.iload_n dX12_rolled_3 rfl ?_
  refine J.bipush (v := 32) dX12_rolled_4 (by decide) ?_
  refine J.iload_n dX12_rolled_6 rfl ?_
  refine J.isub dX12_rolled_7 ?_
  refine J.ishl dX12_rolled_8 ?_
  refine J.ior dX12_rolled_9 ?_
  refine J.iret dX12_rolled_10 rfl ?_
  exact ⟨rfl, rfl⟩
