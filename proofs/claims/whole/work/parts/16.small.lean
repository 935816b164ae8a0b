/-! the small classes -/
theorem bI_fit (b : Bool) : fits .boolean (.int (bI b)) = true := by cases b <;> rfl
theorem bI_eq0 (b : Bool) : bI b = 0 ↔ b = false := by cases b <;> decide
section CST
variable {Λ : kL} {X : kX} {μ : kMi} {mc ms : Nat} {Z : State → Prop} {bc bs : Nat} {σ : kh} {pc : Nat} {L : List (Option Value)} {st : List Value}
theorem J.aconst_null (hd : decode μ.2.1 pc = .ok (.aconst_null, 1)) (k : J Λ X μ mc ms Z bc bs σ (pc + 1) L (.null :: st)) : J Λ X μ mc ms Z bc bs σ pc L st := fun ρ hρ => K.aconst_null hd (k ρ hρ)
theorem K.cast {ix a ci N : Nat} {fs : List Value} {C : String} {T : u_T} {ty : Nat → FieldType} (hd : decode μ.2.1 pc = .ok (.checkcast ix, 3)) (hl : Cond.classLink μ.1.cls ix C ∈ lw_tbl) (hca : Cond.castable C C ∈ lw_tbl) (hcl : kCls ci C T N ty) (h : σ a = some (.inr (ci, fs))) (k : K Λ X μ mc ms Z bc bs σ (pc + 3) L (.ref a :: st)) : K Λ X μ mc ms Z bc bs σ pc L (.ref a :: st) := by
  obtain ⟨p, e, R, s, m, args, below, meth, c⟩ := X
  intro F H locs k1 n1 ls h1 h2 h3 h4 h5 h6
  have hok := F.2.2.2.2.2.2.2.2.1
  have hW := F.2.2.2.2.2.2.2.2.2
  obtain ⟨r, g1, cell, q1, q2, q3, -⟩ := (h3 a _ h).2
  have hr : r = (C, T, N) := Option.some.inj (g1.symm.trans hcl.1)
  subst hr
  exact va_castY F.1 F.2.1 F.2.2.2.1 (hok.w hl rfl hW) (hok.cast hca hW) ⟨cell, q1, by rw [q3]; rfl, by rw [q2]; exact ((hok.K hW).1 ci _ hcl.1).2.1⟩ hd (k F H locs k1 n1 ls h1 h2 h3 h4 h5 h6)
theorem J.cast {ix a ci N : Nat} {fs : List Value} {C : String} {T : u_T} {ty : Nat → FieldType} (hd : decode μ.2.1 pc = .ok (.checkcast ix, 3)) (hl : Cond.classLink μ.1.cls ix C ∈ lw_tbl) (hca : Cond.castable C C ∈ lw_tbl) (hcl : kCls ci C T N ty) (h : σ a = some (.inr (ci, fs))) (k : J Λ X μ mc ms Z bc bs σ (pc + 3) L (.ref a :: st)) : J Λ X μ mc ms Z bc bs σ pc L (.ref a :: st) := fun ρ hρ => K.cast hd hl hca hcl (hρ.get h (hcl.ne fs)) (k ρ hρ)
end CST
abbrev oCl (k : Int32) (id : Nat) (sec : Value) (sc : Int32) (mr : Bool) (rl : Nat) : kc := .inr (1, [.int k, .ref id, sec, .int sc, .int (bI mr), .ref rl])
abbrev oCo (rq : Nat) (ow sc en : Int32) (fam : Value) : kc := .inr (2, [.ref rq, .int ow, .int sc, .int en, fam])
abbrev oFa (k cl ow sc : Int32) (tb : Bool) (tu : Int32) : kc := .inr (3, [.int k, .int cl, .int ow, .int sc, .int (bI tb), .int tu])
abbrev oFi (nm v : Nat) (told : Bool) : kc := .inr (4, [.ref nm, .ref v, .int (bI told)])
abbrev oHa (ns sg : Nat) (kd k : Int32) : kc := .inr (6, [.ref ns, .ref sg, .int kd, .int k])
abbrev oHs (wl ml : Nat) : kc := .inr (7, [.ref wl, .ref ml])
abbrev oRq (cl rd : Nat) (sc : Int32) (ch st : Nat) (opn : Bool) : kc := .inr (8, [.ref cl, .ref rd, .int sc, .ref ch, .ref st, .int (bI opn)])
abbrev oTo (fa : Nat) (sc en : Int32) (sp : Bool) : kc := .inr (11, [.ref fa, .int sc, .int en, .int (bI sp)])

theorem c_Code_init {Λ : kL} {σ : kh} {a : Nat} (rq : Nat) (ow sc en : Int32) (ha : σ a = some (.inr (2, [.null, .int 0, .int 0, .int 0, .null]))) : jCt Λ mX1_init 0 0 [.ref a, .ref rq, .int ow, .int sc, .int en] σ (fun v σ' => v = none ∧ σ' = kup σ a (oCo rq ow sc en .null)) := by
  refine jCt.of pn_X1 [some (.ref a), some (.ref rq), some (.int ow), some (.int sc), some (.int en)] rfl (Nat.le_of_ble_eq_true rfl) fun X => ?_
  refine J.aload_nR dX1_init_0 rfl ?_
  refine J.objInit dX1_init_1 lo_X1_1 oi_im oi_co rfl rfl ?_
  refine J.aload_nR dX1_init_4 rfl ?_
  refine J.aconst_null dX1_init_5 ?_
  refine J.putf (fs' := [.null, .int 0, .int 0, .int 0, .null]) dX1_init_6 fp_X1_7 (fun h => by cases h) ha rfl rfl (Nat.le_of_ble_eq_true rfl) rfl ?_
  have h_1 : (kup σ a (.inr (2, [.null, .int 0, .int 0, .int 0, .null]))) a = some (.inr (2, [.null, .int 0, .int 0, .int 0, .null])) := kup_s _ _ _
  refine J.aload_nR dX1_init_9 rfl ?_
  refine J.aload_nR dX1_init_10 rfl ?_
  refine J.putf (fs' := [.ref rq, .int 0, .int 0, .int 0, .null]) dX1_init_11 fp_X1_13 (fun _ => rfl) h_1 rfl rfl (Nat.le_of_ble_eq_true rfl) rfl ?_
  have h_2 : (kup (kup σ a (.inr (2, [.null, .int 0, .int 0, .int 0, .null]))) a (.inr (2, [.ref rq, .int 0, .int 0, .int 0, .null]))) a = some (.inr (2, [.ref rq, .int 0, .int 0, .int 0, .null])) := kup_s _ _ _
  refine J.aload_nR dX1_init_14 rfl ?_
  refine J.iload_n dX1_init_15 rfl ?_
  refine J.putf (fs' := [.ref rq, .int ow, .int 0, .int 0, .null]) dX1_init_16 fp_X1_17 (fun _ => rfl) h_2 rfl rfl (Nat.le_of_ble_eq_true rfl) rfl ?_
  have h_3 : (kup (kup (kup σ a (.inr (2, [.null, .int 0, .int 0, .int 0, .null]))) a (.inr (2, [.ref rq, .int 0, .int 0, .int 0, .null]))) a (.inr (2, [.ref rq, .int ow, .int 0, .int 0, .null]))) a = some (.inr (2, [.ref rq, .int ow, .int 0, .int 0, .null])) := kup_s _ _ _
  refine J.aload_nR dX1_init_19 rfl ?_
  refine J.iload_n dX1_init_20 rfl ?_
  refine J.putf (fs' := [.ref rq, .int ow, .int sc, .int 0, .null]) dX1_init_21 fp_X1_21 (fun _ => rfl) h_3 rfl rfl (Nat.le_of_ble_eq_true rfl) rfl ?_
  have h_4 : (kup (kup (kup (kup σ a (.inr (2, [.null, .int 0, .int 0, .int 0, .null]))) a (.inr (2, [.ref rq, .int 0, .int 0, .int 0, .null]))) a (.inr (2, [.ref rq, .int ow, .int 0, .int 0, .null]))) a (.inr (2, [.ref rq, .int ow, .int sc, .int 0, .null]))) a = some (.inr (2, [.ref rq, .int ow, .int sc, .int 0, .null])) := kup_s _ _ _
  refine J.aload_nR dX1_init_24 rfl ?_
  refine J.iload dX1_init_25 rfl ?_
  refine J.putf (fs' := [.ref rq, .int ow, .int sc, .int en, .null]) dX1_init_27 fp_X1_24 (fun _ => rfl) h_4 rfl rfl (Nat.le_of_ble_eq_true rfl) rfl ?_
  have h_5 : (kup (kup (kup (kup (kup σ a (.inr (2, [.null, .int 0, .int 0, .int 0, .null]))) a (.inr (2, [.ref rq, .int 0, .int 0, .int 0, .null]))) a (.inr (2, [.ref rq, .int ow, .int 0, .int 0, .null]))) a (.inr (2, [.ref rq, .int ow, .int sc, .int 0, .null]))) a (.inr (2, [.ref rq, .int ow, .int sc, .int en, .null]))) a = some (.inr (2, [.ref rq, .int ow, .int sc, .int en, .null])) := kup_s _ _ _
  refine J.vret dX1_init_30 rfl ?_
  refine ⟨rfl, ?_⟩
  simp only [kup_up]
  try rfl

theorem c_Family_init {Λ : kL} {σ : kh} {a : Nat} (k cl ow sc : Int32) (ha : σ a = some (.inr (3, [.int 0, .int 0, .int 0, .int 0, .int 0, .int 0]))) : jCt Λ mX2_init 0 0 [.ref a, .int k, .int cl, .int ow, .int sc] σ (fun v σ' => v = none ∧ σ' = kup σ a (oFa k cl ow sc false 0)) := by
  refine jCt.of pn_X2 [some (.ref a), some (.int k), some (.int cl), some (.int ow), some (.int sc)] rfl (Nat.le_of_ble_eq_true rfl) fun X => ?_
  refine J.aload_nR dX2_init_0 rfl ?_
  refine J.objInit dX2_init_1 lo_X2_1 oi_im oi_co rfl rfl ?_
  refine J.aload_nR dX2_init_4 rfl ?_
  refine J.iconst (v := 0) dX2_init_5 (by decide) ?_
  refine J.putf (fs' := [.int 0, .int 0, .int 0, .int 0, .int 0, .int 0]) dX2_init_6 fp_X2_7 (fun h => by cases h) ha rfl rfl (Nat.le_of_ble_eq_true rfl) rfl ?_
  have h_1 : (kup σ a (.inr (3, [.int 0, .int 0, .int 0, .int 0, .int 0, .int 0]))) a = some (.inr (3, [.int 0, .int 0, .int 0, .int 0, .int 0, .int 0])) := kup_s _ _ _
  refine J.aload_nR dX2_init_9 rfl ?_
  refine J.iconst (v := 0) dX2_init_10 (by decide) ?_
  refine J.putf (fs' := [.int 0, .int 0, .int 0, .int 0, .int 0, .int 0]) dX2_init_11 fp_X2_13 (fun h => by cases h) h_1 rfl rfl (Nat.le_of_ble_eq_true rfl) rfl ?_
  have h_2 : (kup (kup σ a (.inr (3, [.int 0, .int 0, .int 0, .int 0, .int 0, .int 0]))) a (.inr (3, [.int 0, .int 0, .int 0, .int 0, .int 0, .int 0]))) a = some (.inr (3, [.int 0, .int 0, .int 0, .int 0, .int 0, .int 0])) := kup_s _ _ _
  refine J.aload_nR dX2_init_14 rfl ?_
  refine J.iload_n dX2_init_15 rfl ?_
  refine J.putf (fs' := [.int k, .int 0, .int 0, .int 0, .int 0, .int 0]) dX2_init_16 fp_X2_17 (fun _ => rfl) h_2 rfl rfl (Nat.le_of_ble_eq_true rfl) rfl ?_
  have h_3 : (kup (kup (kup σ a (.inr (3, [.int 0, .int 0, .int 0, .int 0, .int 0, .int 0]))) a (.inr (3, [.int 0, .int 0, .int 0, .int 0, .int 0, .int 0]))) a (.inr (3, [.int k, .int 0, .int 0, .int 0, .int 0, .int 0]))) a = some (.inr (3, [.int k, .int 0, .int 0, .int 0, .int 0, .int 0])) := kup_s _ _ _
  refine J.aload_nR dX2_init_19 rfl ?_
  refine J.iload_n dX2_init_20 rfl ?_
  refine J.putf (fs' := [.int k, .int cl, .int 0, .int 0, .int 0, .int 0]) dX2_init_21 fp_X2_20 (fun _ => rfl) h_3 rfl rfl (Nat.le_of_ble_eq_true rfl) rfl ?_
  have h_4 : (kup (kup (kup (kup σ a (.inr (3, [.int 0, .int 0, .int 0, .int 0, .int 0, .int 0]))) a (.inr (3, [.int 0, .int 0, .int 0, .int 0, .int 0, .int 0]))) a (.inr (3, [.int k, .int 0, .int 0, .int 0, .int 0, .int 0]))) a (.inr (3, [.int k, .int cl, .int 0, .int 0, .int 0, .int 0]))) a = some (.inr (3, [.int k, .int cl, .int 0, .int 0, .int 0, .int 0])) := kup_s _ _ _
  refine J.aload_nR dX2_init_24 rfl ?_
  refine J.iload_n dX2_init_25 rfl ?_
  refine J.putf (fs' := [.int k, .int cl, .int ow, .int 0, .int 0, .int 0]) dX2_init_26 fp_X2_23 (fun _ => rfl) h_4 rfl rfl (Nat.le_of_ble_eq_true rfl) rfl ?_
  have h_5 : (kup (kup (kup (kup (kup σ a (.inr (3, [.int 0, .int 0, .int 0, .int 0, .int 0, .int 0]))) a (.inr (3, [.int 0, .int 0, .int 0, .int 0, .int 0, .int 0]))) a (.inr (3, [.int k, .int 0, .int 0, .int 0, .int 0, .int 0]))) a (.inr (3, [.int k, .int cl, .int 0, .int 0, .int 0, .int 0]))) a (.inr (3, [.int k, .int cl, .int ow, .int 0, .int 0, .int 0]))) a = some (.inr (3, [.int k, .int cl, .int ow, .int 0, .int 0, .int 0])) := kup_s _ _ _
  refine J.aload_nR dX2_init_29 rfl ?_
  refine J.iload dX2_init_30 rfl ?_
  refine J.putf (fs' := [.int k, .int cl, .int ow, .int sc, .int 0, .int 0]) dX2_init_32 fp_X2_26 (fun _ => rfl) h_5 rfl rfl (Nat.le_of_ble_eq_true rfl) rfl ?_
  have h_6 : (kup (kup (kup (kup (kup (kup σ a (.inr (3, [.int 0, .int 0, .int 0, .int 0, .int 0, .int 0]))) a (.inr (3, [.int 0, .int 0, .int 0, .int 0, .int 0, .int 0]))) a (.inr (3, [.int k, .int 0, .int 0, .int 0, .int 0, .int 0]))) a (.inr (3, [.int k, .int cl, .int 0, .int 0, .int 0, .int 0]))) a (.inr (3, [.int k, .int cl, .int ow, .int 0, .int 0, .int 0]))) a (.inr (3, [.int k, .int cl, .int ow, .int sc, .int 0, .int 0]))) a = some (.inr (3, [.int k, .int cl, .int ow, .int sc, .int 0, .int 0])) := kup_s _ _ _
  refine J.vret dX2_init_35 rfl ?_
  refine ⟨rfl, ?_⟩
  simp only [kup_up]
  try rfl

theorem c_Request_init {Λ : kL} {σ : kh} {a : Nat} (cl rd : Nat) (sc : Int32) (ch st : Nat) (ha : σ a = some (.inr (8, [.null, .null, .int 0, .null, .null, .int 0]))) : jCt Λ mX7_init 0 0 [.ref a, .ref cl, .ref rd, .int sc, .ref ch, .ref st] σ (fun v σ' => v = none ∧ σ' = kup σ a (oRq cl rd sc ch st true)) := by
  refine jCt.of pn_X7 [some (.ref a), some (.ref cl), some (.ref rd), some (.int sc), some (.ref ch), some (.ref st)] rfl (Nat.le_of_ble_eq_true rfl) fun X => ?_
  refine J.aload_nR dX7_init_0 rfl ?_
  refine J.objInit dX7_init_1 lo_X7_1 oi_im oi_co rfl rfl ?_
  refine J.aload_nR dX7_init_4 rfl ?_
  refine J.iconst (v := 1) dX7_init_5 (by decide) ?_
  refine J.putf (fs' := [.null, .null, .int 0, .null, .null, .int 1]) dX7_init_6 fp_X7_7 (fun h => by cases h) ha rfl rfl (Nat.le_of_ble_eq_true rfl) rfl ?_
  have h_1 : (kup σ a (.inr (8, [.null, .null, .int 0, .null, .null, .int 1]))) a = some (.inr (8, [.null, .null, .int 0, .null, .null, .int 1])) := kup_s _ _ _
  refine J.aload_nR dX7_init_9 rfl ?_
  refine J.aload_nR dX7_init_10 rfl ?_
  refine J.putf (fs' := [.ref cl, .null, .int 0, .null, .null, .int 1]) dX7_init_11 fp_X7_13 (fun _ => rfl) h_1 rfl rfl (Nat.le_of_ble_eq_true rfl) rfl ?_
  have h_2 : (kup (kup σ a (.inr (8, [.null, .null, .int 0, .null, .null, .int 1]))) a (.inr (8, [.ref cl, .null, .int 0, .null, .null, .int 1]))) a = some (.inr (8, [.ref cl, .null, .int 0, .null, .null, .int 1])) := kup_s _ _ _
  refine J.aload_nR dX7_init_14 rfl ?_
  refine J.aload_nR dX7_init_15 rfl ?_
  refine J.putf (fs' := [.ref cl, .ref rd, .int 0, .null, .null, .int 1]) dX7_init_16 fp_X7_17 (fun _ => rfl) h_2 rfl rfl (Nat.le_of_ble_eq_true rfl) rfl ?_
  have h_3 : (kup (kup (kup σ a (.inr (8, [.null, .null, .int 0, .null, .null, .int 1]))) a (.inr (8, [.ref cl, .null, .int 0, .null, .null, .int 1]))) a (.inr (8, [.ref cl, .ref rd, .int 0, .null, .null, .int 1]))) a = some (.inr (8, [.ref cl, .ref rd, .int 0, .null, .null, .int 1])) := kup_s _ _ _
  refine J.aload_nR dX7_init_19 rfl ?_
  refine J.iload_n dX7_init_20 rfl ?_
  refine J.putf (fs' := [.ref cl, .ref rd, .int sc, .null, .null, .int 1]) dX7_init_21 fp_X7_21 (fun _ => rfl) h_3 rfl rfl (Nat.le_of_ble_eq_true rfl) rfl ?_
  have h_4 : (kup (kup (kup (kup σ a (.inr (8, [.null, .null, .int 0, .null, .null, .int 1]))) a (.inr (8, [.ref cl, .null, .int 0, .null, .null, .int 1]))) a (.inr (8, [.ref cl, .ref rd, .int 0, .null, .null, .int 1]))) a (.inr (8, [.ref cl, .ref rd, .int sc, .null, .null, .int 1]))) a = some (.inr (8, [.ref cl, .ref rd, .int sc, .null, .null, .int 1])) := kup_s _ _ _
  refine J.aload_nR dX7_init_24 rfl ?_
  refine J.aloadR dX7_init_25 rfl ?_
  refine J.putf (fs' := [.ref cl, .ref rd, .int sc, .ref ch, .null, .int 1]) dX7_init_27 fp_X7_25 (fun _ => rfl) h_4 rfl rfl (Nat.le_of_ble_eq_true rfl) rfl ?_
  have h_5 : (kup (kup (kup (kup (kup σ a (.inr (8, [.null, .null, .int 0, .null, .null, .int 1]))) a (.inr (8, [.ref cl, .null, .int 0, .null, .null, .int 1]))) a (.inr (8, [.ref cl, .ref rd, .int 0, .null, .null, .int 1]))) a (.inr (8, [.ref cl, .ref rd, .int sc, .null, .null, .int 1]))) a (.inr (8, [.ref cl, .ref rd, .int sc, .ref ch, .null, .int 1]))) a = some (.inr (8, [.ref cl, .ref rd, .int sc, .ref ch, .null, .int 1])) := kup_s _ _ _
  refine J.aload_nR dX7_init_30 rfl ?_
  refine J.aloadR dX7_init_31 rfl ?_
  refine J.putf (fs' := [.ref cl, .ref rd, .int sc, .ref ch, .ref st, .int 1]) dX7_init_33 fp_X7_28 (fun _ => rfl) h_5 rfl rfl (Nat.le_of_ble_eq_true rfl) rfl ?_
  have h_6 : (kup (kup (kup (kup (kup (kup σ a (.inr (8, [.null, .null, .int 0, .null, .null, .int 1]))) a (.inr (8, [.ref cl, .null, .int 0, .null, .null, .int 1]))) a (.inr (8, [.ref cl, .ref rd, .int 0, .null, .null, .int 1]))) a (.inr (8, [.ref cl, .ref rd, .int sc, .null, .null, .int 1]))) a (.inr (8, [.ref cl, .ref rd, .int sc, .ref ch, .null, .int 1]))) a (.inr (8, [.ref cl, .ref rd, .int sc, .ref ch, .ref st, .int 1]))) a = some (.inr (8, [.ref cl, .ref rd, .int sc, .ref ch, .ref st, .int 1])) := kup_s _ _ _
  refine J.vret dX7_init_36 rfl ?_
  refine ⟨rfl, ?_⟩
  simp only [kup_up]
  try rfl

theorem c_Token_init {Λ : kL} {σ : kh} {a : Nat} (fa : Nat) (sc en : Int32) (ha : σ a = some (.inr (11, [.null, .int 0, .int 0, .int 0]))) : jCt Λ mX10_init 0 0 [.ref a, .ref fa, .int sc, .int en] σ (fun v σ' => v = none ∧ σ' = kup σ a (oTo fa sc en false)) := by
  refine jCt.of pn_X10 [some (.ref a), some (.ref fa), some (.int sc), some (.int en)] rfl (Nat.le_of_ble_eq_true rfl) fun X => ?_
  refine J.aload_nR dX10_init_0 rfl ?_
  refine J.objInit dX10_init_1 lo_X10_1 oi_im oi_co rfl rfl ?_
  refine J.aload_nR dX10_init_4 rfl ?_
  refine J.iconst (v := 0) dX10_init_5 (by decide) ?_
  refine J.putf (fs' := [.null, .int 0, .int 0, .int 0]) dX10_init_6 fp_X10_7 (fun h => by cases h) ha rfl rfl (Nat.le_of_ble_eq_true rfl) rfl ?_
  have h_1 : (kup σ a (.inr (11, [.null, .int 0, .int 0, .int 0]))) a = some (.inr (11, [.null, .int 0, .int 0, .int 0])) := kup_s _ _ _
  refine J.aload_nR dX10_init_9 rfl ?_
  refine J.aload_nR dX10_init_10 rfl ?_
  refine J.putf (fs' := [.ref fa, .int 0, .int 0, .int 0]) dX10_init_11 fp_X10_13 (fun _ => rfl) h_1 rfl rfl (Nat.le_of_ble_eq_true rfl) rfl ?_
  have h_2 : (kup (kup σ a (.inr (11, [.null, .int 0, .int 0, .int 0]))) a (.inr (11, [.ref fa, .int 0, .int 0, .int 0]))) a = some (.inr (11, [.ref fa, .int 0, .int 0, .int 0])) := kup_s _ _ _
  refine J.aload_nR dX10_init_14 rfl ?_
  refine J.iload_n dX10_init_15 rfl ?_
  refine J.putf (fs' := [.ref fa, .int sc, .int 0, .int 0]) dX10_init_16 fp_X10_17 (fun _ => rfl) h_2 rfl rfl (Nat.le_of_ble_eq_true rfl) rfl ?_
  have h_3 : (kup (kup (kup σ a (.inr (11, [.null, .int 0, .int 0, .int 0]))) a (.inr (11, [.ref fa, .int 0, .int 0, .int 0]))) a (.inr (11, [.ref fa, .int sc, .int 0, .int 0]))) a = some (.inr (11, [.ref fa, .int sc, .int 0, .int 0])) := kup_s _ _ _
  refine J.aload_nR dX10_init_19 rfl ?_
  refine J.iload_n dX10_init_20 rfl ?_
  refine J.putf (fs' := [.ref fa, .int sc, .int en, .int 0]) dX10_init_21 fp_X10_21 (fun _ => rfl) h_3 rfl rfl (Nat.le_of_ble_eq_true rfl) rfl ?_
  have h_4 : (kup (kup (kup (kup σ a (.inr (11, [.null, .int 0, .int 0, .int 0]))) a (.inr (11, [.ref fa, .int 0, .int 0, .int 0]))) a (.inr (11, [.ref fa, .int sc, .int 0, .int 0]))) a (.inr (11, [.ref fa, .int sc, .int en, .int 0]))) a = some (.inr (11, [.ref fa, .int sc, .int en, .int 0])) := kup_s _ _ _
  refine J.vret dX10_init_24 rfl ?_
  refine ⟨rfl, ?_⟩
  simp only [kup_up]
  try rfl

theorem c_Token_isGood {Λ : kL} {σ : kh} {a fa : Nat} {sc en k cl ow fs tu : Int32} {sp tb : Bool} (ha : σ a = some (oTo fa sc en sp)) (hf : σ fa = some (oFa k cl ow fs tb tu)) (x : Int32) : jCt Λ mX10_isGood 0 0 [.ref a, .int x] σ (fun v σ' => v = some (.int (bI (decide (x < en) && !sp && !tb))) ∧ σ' = σ) := by
  refine jCt.of pn_X10 [some (.ref a), some (.int x)] rfl (Nat.le_of_ble_eq_true rfl) fun X => ?_
  refine J.iload_n dX10_isGood_0 rfl ?_
  refine J.aload_nR dX10_isGood_1 rfl ?_
  refine J.getf dX10_isGood_2 fl_X10_21 ha rfl ?_
  refine J.icmp_ge (tgt := 29) dX10_isGood_5 (by decide) (fun c_5 => ?_) (fun c_5 => ?_)
  · skip
    refine J.iconst (v := 0) dX10_isGood_29 (by decide) ?_
    refine J.zret dX10_isGood_30 rfl rfl ?_
    refine ⟨congrArg (fun z => some (Value.int z)) ?_, rfl⟩
    first | (rw [decide_eq_false (Int32.not_lt.mpr c_5)]; rfl) | (cases sp <;> first | exact absurd rfl c_12 | (rw [Bool.not_true, Bool.and_false, Bool.false_and]; rfl)) | (cases tb <;> first | exact absurd rfl c_22 | (rw [Bool.not_true, Bool.and_false]; rfl))
  · skip
    refine J.aload_nR dX10_isGood_8 rfl ?_
    refine J.getf dX10_isGood_9 fl_X10_7 ha rfl ?_
    refine J.if_ne (tgt := 29) dX10_isGood_12 (by decide) (fun c_12 => ?_) (fun c_12 => ?_)
    · skip
      refine J.iconst (v := 0) dX10_isGood_29 (by decide) ?_
      refine J.zret dX10_isGood_30 rfl rfl ?_
      refine ⟨congrArg (fun z => some (Value.int z)) ?_, rfl⟩
      first | (rw [decide_eq_false (Int32.not_lt.mpr c_5)]; rfl) | (cases sp <;> first | exact absurd rfl c_12 | (rw [Bool.not_true, Bool.and_false, Bool.false_and]; rfl)) | (cases tb <;> first | exact absurd rfl c_22 | (rw [Bool.not_true, Bool.and_false]; rfl))
    · skip
      refine J.aload_nR dX10_isGood_15 rfl ?_
      refine J.getf dX10_isGood_16 fl_X10_13 ha rfl ?_
      refine J.getf dX10_isGood_19 fl_X10_24 hf rfl ?_
      refine J.if_ne (tgt := 29) dX10_isGood_22 (by decide) (fun c_22 => ?_) (fun c_22 => ?_)
      · skip
        refine J.iconst (v := 0) dX10_isGood_29 (by decide) ?_
        refine J.zret dX10_isGood_30 rfl rfl ?_
        refine ⟨congrArg (fun z => some (Value.int z)) ?_, rfl⟩
        first | (rw [decide_eq_false (Int32.not_lt.mpr c_5)]; rfl) | (cases sp <;> first | exact absurd rfl c_12 | (rw [Bool.not_true, Bool.and_false, Bool.false_and]; rfl)) | (cases tb <;> first | exact absurd rfl c_22 | (rw [Bool.not_true, Bool.and_false]; rfl))
      · skip
        refine J.iconst (v := 1) dX10_isGood_25 (by decide) ?_
        refine J.goto (tgt := 30) dX10_isGood_26 (by decide) ?_
        refine J.zret dX10_isGood_30 rfl rfl ?_
        refine ⟨congrArg (fun z => some (Value.int z)) ?_, rfl⟩
        cases sp <;> cases tb <;> first | (rw [decide_eq_true (Int32.not_le.mp c_5)]; rfl) | exact absurd c_12 (by decide) | exact absurd c_22 (by decide)

theorem c_Code_standingF {Λ : kL} {σ : kh} {a rq : Nat} {ow sc en : Int32} {fm : Nat} (ha : σ a = some (oCo rq ow sc en (.ref fm))) (x : Int32) : jCt Λ mX1_standing 0 0 [.ref a, .int x] σ (fun v σ' => v = some (.int (1)) ∧ σ' = σ) := by
  refine jCt.of pn_X1 [some (.ref a), some (.int x)] rfl (Nat.le_of_ble_eq_true rfl) fun X => ?_
  refine J.aload_nR dX1_standing_0 rfl ?_
  refine J.getf dX1_standing_1 fl_X1_7 ha rfl ?_
  refine J.ifnullR dX1_standing_4 ?_
  refine J.iconst (v := 1) dX1_standing_7 (by decide) ?_
  refine J.iret dX1_standing_8 rfl ?_
  exact ⟨rfl, rfl⟩

theorem c_Code_standingN {Λ : kL} {σ : kh} {a rq : Nat} {ow sc en : Int32} (ha : σ a = some (oCo rq ow sc en (.null))) (x : Int32) : jCt Λ mX1_standing 0 0 [.ref a, .int x] σ (fun v σ' => v = some (.int (if x < en then 0 else 2)) ∧ σ' = σ) := by
  refine jCt.of pn_X1 [some (.ref a), some (.int x)] rfl (Nat.le_of_ble_eq_true rfl) fun X => ?_
  refine J.aload_nR dX1_standing_0 rfl ?_
  refine J.getf dX1_standing_1 fl_X1_7 ha rfl ?_
  refine J.ifnullN (tgt := 9) dX1_standing_4 (by decide) ?_
  refine J.iload_n dX1_standing_9 rfl ?_
  refine J.aload_nR dX1_standing_10 rfl ?_
  refine J.getf dX1_standing_11 fl_X1_24 ha rfl ?_
  refine J.icmp_ge (tgt := 21) dX1_standing_14 (by decide) (fun c_14 => ?_) (fun c_14 => ?_)
  · skip
    refine J.iconst (v := 2) dX1_standing_21 (by decide) ?_
    refine J.iret dX1_standing_22 rfl ?_
    refine ⟨congrArg (fun z => some (Value.int z)) ?_, rfl⟩
    first | exact (if_pos (Int32.not_le.mp c_14)).symm | exact (if_neg (Int32.not_lt.mpr c_14)).symm
  · skip
    refine J.iconst (v := 0) dX1_standing_17 (by decide) ?_
    refine J.goto (tgt := 22) dX1_standing_18 (by decide) ?_
    refine J.iret dX1_standing_22 rfl ?_
    refine ⟨congrArg (fun z => some (Value.int z)) ?_, rfl⟩
    first | exact (if_pos (Int32.not_le.mp c_14)).symm | exact (if_neg (Int32.not_lt.mpr c_14)).symm

theorem c_Field_isThere {Λ : kL} {σ : kh} {a nm v r n : Nat} {b : Int32} {told : Bool} (ha : σ a = some (oFi nm v told)) (hv : σ v = some (oT r b (nI n))) (hn : n ≤ 100000) : jCt Λ mX3_isThere 0 0 [.ref a] σ (fun w σ' => w = some (.int (bI (decide (0 < n)))) ∧ σ' = σ) := by
  refine jCt.of pn_X3 [some (.ref a)] rfl (Nat.le_of_ble_eq_true rfl) fun X => ?_
  refine J.aload_nR dX3_isThere_0 rfl ?_
  refine J.getf dX3_isThere_1 fl_X3_22 ha rfl ?_
  refine J.callV0 [] dX3_isThere_4 mdX9_size imX9_size seX9_size kc_10 hv lk_X3_26 rfl rfl rfl rfl (c_Text_size hv) ?_
  rintro _ σ9 ⟨rfl, e9⟩
  have e9 := e9.symm; subst e9
  refine J.if_le (tgt := 14) dX3_isThere_7 (by decide) (fun c_7 => ?_) (fun c_7 => ?_)
  · skip
    refine J.iconst (v := 0) dX3_isThere_14 (by decide) ?_
    refine J.zret dX3_isThere_15 rfl rfl ?_
    refine ⟨congrArg (fun z => some (Value.int z)) ?_, rfl⟩
    first | rw [decide_eq_false (show ¬ 0 < n from fun q => nI_nle q (by omega) c_7)] | rw [decide_eq_true (show 0 < n from Nat.pos_of_ne_zero fun q => c_7 (by rw [q]; decide))]
    rfl
  · skip
    refine J.iconst (v := 1) dX3_isThere_10 (by decide) ?_
    refine J.goto (tgt := 15) dX3_isThere_11 (by decide) ?_
    refine J.zret dX3_isThere_15 rfl rfl ?_
    refine ⟨congrArg (fun z => some (Value.int z)) ?_, rfl⟩
    first | rw [decide_eq_false (show ¬ 0 < n from fun q => nI_nle q (by omega) c_7)] | rw [decide_eq_true (show 0 < n from Nat.pos_of_ne_zero fun q => c_7 (by rw [q]; decide))]
    rfl

theorem c_Field_forget {Λ : kL} {σ : kh} {a nm v r n : Nat} {b : Int32} {told : Bool} (ha : σ a = some (oFi nm v told)) (hv : σ v = some (oT r b (nI n))) : jCt Λ mX3_forget 0 0 [.ref a] σ (fun w σ' => w = none ∧ σ' = kup (kup σ a (oFi nm v false)) v (oT r b 0)) := by
  refine jCt.of pn_X3 [some (.ref a)] rfl (Nat.le_of_ble_eq_true rfl) fun X => ?_
  refine J.aload_nR dX3_forget_0 rfl ?_
  refine J.iconst (v := 0) dX3_forget_1 (by decide) ?_
  refine J.putf (fs' := [.ref nm, .ref v, .int 0]) dX3_forget_2 fp_X3_7 (fun h => by cases h) ha rfl rfl (Nat.le_of_ble_eq_true rfl) rfl ?_
  have h_1 : (kup σ a (.inr (4, [.ref nm, .ref v, .int 0]))) a = some (.inr (4, [.ref nm, .ref v, .int 0])) := kup_s _ _ _
  have h_2 : (kup σ a (.inr (4, [.ref nm, .ref v, .int 0]))) v = some (.inr (10, [.ref r, .int b, .int (nI n)])) := kup_i (kne_oo hv ha (by decide)) hv
  refine J.aload_nR dX3_forget_5 rfl ?_
  refine J.getf dX3_forget_6 fl_X3_22 h_1 rfl ?_
  refine J.callV0 [] dX3_forget_9 mdX9_clear imX9_clear seX9_clear kc_10 h_2 lk_X3_34 rfl rfl rfl rfl (c_Text_clear h_2) ?_
  rintro _ _ ⟨rfl, rfl⟩
  refine J.vret dX3_forget_12 rfl ?_
  exact ⟨rfl, rfl⟩

theorem c_Handle_isOf {Λ : kL} {σ : kh} {a c x y sx sy : Nat} {kx mx ky my : Int32} {f g : Nat → Int32} (ha : σ a = some (oHa x sx kx mx)) (hc : σ c = some (oHa y sy ky my)) (hx : σ x = some (aI 4 f)) (hy : σ y = some (aI 4 g)) : jCt Λ mX5_isOf 0 0 [.ref a, .ref c] σ (fun v σ' => v = some (.int (bI (decide (f 0 = g 0 ∧ f 1 = g 1 ∧ f 2 = g 2 ∧ f 3 = g 3)))) ∧ σ' = σ) := by
  refine jCt.of pn_X5 [some (.ref a), some (.ref c)] rfl (Nat.le_of_ble_eq_true rfl) fun X => ?_
  refine J.aload_nR dX5_isOf_0 rfl ?_
  refine J.getf dX5_isOf_1 fl_X5_9 ha rfl ?_
  refine J.iconst (v := 0) dX5_isOf_4 (by decide) ?_
  refine J.iaload (j := 0) dX5_isOf_5 hx rfl (by omega) (by omega) ?_
  refine J.aload_nR dX5_isOf_6 rfl ?_
  refine J.getf dX5_isOf_7 fl_X5_9 hc rfl ?_
  refine J.iconst (v := 0) dX5_isOf_10 (by decide) ?_
  refine J.iaload (j := 0) dX5_isOf_11 hy rfl (by omega) (by omega) ?_
  refine J.icmp_ne (tgt := 64) dX5_isOf_12 (by decide) (fun c_12 => ?_) (fun c_12 => ?_)
  · skip
    refine J.iconst (v := 0) dX5_isOf_64 (by decide) ?_
    refine J.zret dX5_isOf_65 rfl rfl ?_
    refine ⟨congrArg (fun z => some (Value.int z)) ?_, rfl⟩
    rw [decide_eq_false (fun q : f 0 = g 0 ∧ f 1 = g 1 ∧ f 2 = g 2 ∧ f 3 = g 3 => by first | exact c_12 q.1 | exact c_27 q.2.1 | exact c_42 q.2.2.1 | exact c_57 q.2.2.2)]
    rfl
  · skip
    refine J.aload_nR dX5_isOf_15 rfl ?_
    refine J.getf dX5_isOf_16 fl_X5_9 ha rfl ?_
    refine J.iconst (v := 1) dX5_isOf_19 (by decide) ?_
    refine J.iaload (j := 1) dX5_isOf_20 hx rfl (by omega) (by omega) ?_
    refine J.aload_nR dX5_isOf_21 rfl ?_
    refine J.getf dX5_isOf_22 fl_X5_9 hc rfl ?_
    refine J.iconst (v := 1) dX5_isOf_25 (by decide) ?_
    refine J.iaload (j := 1) dX5_isOf_26 hy rfl (by omega) (by omega) ?_
    refine J.icmp_ne (tgt := 64) dX5_isOf_27 (by decide) (fun c_27 => ?_) (fun c_27 => ?_)
    · skip
      refine J.iconst (v := 0) dX5_isOf_64 (by decide) ?_
      refine J.zret dX5_isOf_65 rfl rfl ?_
      refine ⟨congrArg (fun z => some (Value.int z)) ?_, rfl⟩
      rw [decide_eq_false (fun q : f 0 = g 0 ∧ f 1 = g 1 ∧ f 2 = g 2 ∧ f 3 = g 3 => by first | exact c_12 q.1 | exact c_27 q.2.1 | exact c_42 q.2.2.1 | exact c_57 q.2.2.2)]
      rfl
    · skip
      refine J.aload_nR dX5_isOf_30 rfl ?_
      refine J.getf dX5_isOf_31 fl_X5_9 ha rfl ?_
      refine J.iconst (v := 2) dX5_isOf_34 (by decide) ?_
      refine J.iaload (j := 2) dX5_isOf_35 hx rfl (by omega) (by omega) ?_
      refine J.aload_nR dX5_isOf_36 rfl ?_
      refine J.getf dX5_isOf_37 fl_X5_9 hc rfl ?_
      refine J.iconst (v := 2) dX5_isOf_40 (by decide) ?_
      refine J.iaload (j := 2) dX5_isOf_41 hy rfl (by omega) (by omega) ?_
      refine J.icmp_ne (tgt := 64) dX5_isOf_42 (by decide) (fun c_42 => ?_) (fun c_42 => ?_)
      · skip
        refine J.iconst (v := 0) dX5_isOf_64 (by decide) ?_
        refine J.zret dX5_isOf_65 rfl rfl ?_
        refine ⟨congrArg (fun z => some (Value.int z)) ?_, rfl⟩
        rw [decide_eq_false (fun q : f 0 = g 0 ∧ f 1 = g 1 ∧ f 2 = g 2 ∧ f 3 = g 3 => by first | exact c_12 q.1 | exact c_27 q.2.1 | exact c_42 q.2.2.1 | exact c_57 q.2.2.2)]
        rfl
      · skip
        refine J.aload_nR dX5_isOf_45 rfl ?_
        refine J.getf dX5_isOf_46 fl_X5_9 ha rfl ?_
        refine J.iconst (v := 3) dX5_isOf_49 (by decide) ?_
        refine J.iaload (j := 3) dX5_isOf_50 hx rfl (by omega) (by omega) ?_
        refine J.aload_nR dX5_isOf_51 rfl ?_
        refine J.getf dX5_isOf_52 fl_X5_9 hc rfl ?_
        refine J.iconst (v := 3) dX5_isOf_55 (by decide) ?_
        refine J.iaload (j := 3) dX5_isOf_56 hy rfl (by omega) (by omega) ?_
        refine J.icmp_ne (tgt := 64) dX5_isOf_57 (by decide) (fun c_57 => ?_) (fun c_57 => ?_)
        · skip
          refine J.iconst (v := 0) dX5_isOf_64 (by decide) ?_
          refine J.zret dX5_isOf_65 rfl rfl ?_
          refine ⟨congrArg (fun z => some (Value.int z)) ?_, rfl⟩
          rw [decide_eq_false (fun q : f 0 = g 0 ∧ f 1 = g 1 ∧ f 2 = g 2 ∧ f 3 = g 3 => by first | exact c_12 q.1 | exact c_27 q.2.1 | exact c_42 q.2.2.1 | exact c_57 q.2.2.2)]
          rfl
        · skip
          refine J.iconst (v := 1) dX5_isOf_60 (by decide) ?_
          refine J.goto (tgt := 65) dX5_isOf_61 (by decide) ?_
          refine J.zret dX5_isOf_65 rfl rfl ?_
          refine ⟨congrArg (fun z => some (Value.int z)) ?_, rfl⟩
          rw [decide_eq_true (show f 0 = g 0 ∧ f 1 = g 1 ∧ f 2 = g 2 ∧ f 3 = g 3 from ⟨c_12, c_27, c_42, c_57⟩)]
          rfl

theorem c_Handles_waitingCount {Λ : kL} {σ : kh} {a wl ml : Nat} {l : List Value} (ha : σ a = some (oHs wl ml)) (hw : σ wl = some (kLi l)) : jCt Λ mX6_waitingCount 0 0 [.ref a] σ (fun v σ' => v = some (.int (nI l.length)) ∧ σ' = σ) := by
  refine jCt.of pn_X6 [some (.ref a)] rfl (Nat.le_of_ble_eq_true rfl) fun X => ?_
  refine J.aload_nR dX6_waitingCount_0 rfl ?_
  refine J.getf dX6_waitingCount_1 fl_X6_12 ha rfl ?_
  refine J.callL0 [] dX6_waitingCount_4 mdJx4a65c_size_8abf5 imJx4a65c_size_8abf5 seJx4a65c_size_8abf5 hw lk_X6_21 rfl rfl rfl rfl (c_list_size hw) ?_
  rintro _ σ9 ⟨rfl, e9⟩
  have e9 := e9.symm; subst e9
  refine J.iret dX6_waitingCount_7 rfl ?_
  exact ⟨rfl, rfl⟩
