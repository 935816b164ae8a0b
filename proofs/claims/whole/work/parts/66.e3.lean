/-! the class: client -/
theorem idL_le (v : List Int32) : idL v ≤ v.length := (atI_ge (gD v) 0 (Nat.zero_le _)).2
theorem gdC_t (v : List Int32) : gdC v true = (decide (1 ≤ (v.take (idL v)).length ∧ (v.take (idL v)).length ≤ 20) && (v.take (idL v)).all visb && (decide (1 ≤ (v.drop (idL v + 1)).length ∧ (v.drop (idL v + 1)).length ≤ 20) && (v.drop (idL v + 1)).all visb)) := by
  have h := idL_le v
  rw [gdC, if_pos rfl, List.length_take, List.length_drop, Nat.min_eq_left h, dec_lt (idL v) 20]
  rw [show decide (idL v + 1 < v.length ∧ v.length < idL v + 22) = decide (1 ≤ v.length - (idL v + 1) ∧ v.length - (idL v + 1) ≤ 20) from decide_eq_decide.mpr ⟨fun q => by omega, fun q => by omega⟩]
theorem gdC_f (v : List Int32) : gdC v false = (decide (1 ≤ v.length ∧ v.length ≤ 20) && v.all visb) := by
  have h := idL_le v
  rw [gdC, if_neg (by decide), dec_lt (idL v) 20]
  by_cases e : idL v = v.length
  · rw [e, List.take_length, decide_eq_true rfl, Bool.and_true]
  · have hlt : idL v < v.length := by omega
    have h0 : gD v (idL v) = 0 := atI_at (Nat.zero_le _) hlt
    have hv : v.all visb = false := by
      cases hz : v.all visb with
      | false => rfl
      | true =>
        have hm := List.all_eq_true.mp hz (gD v (idL v)) (by rw [gD, List.getD_eq_getElem?_getD, List.getElem?_eq_getElem hlt]; exact List.getElem_mem hlt)
        rw [h0] at hm
        exact absurd hm (by decide)
    rw [decide_eq_false e, hv, Bool.and_false, Bool.and_false]
theorem gdC_id {v : List Int32} (h : gdC v false = true) : idL v = v.length := by
  rw [gdC, if_neg (by decide)] at h
  simp only [Bool.and_eq_true, decide_eq_true_eq] at h
  exact h.2
def cotQ (S : Nat → Nat) (G : Nat → kc) (D : kh) (v : List Int32) (n : Nat) (cf : Bool) (x : Int32) (rf : Bool) : Option Value → (Nat → kc) → kh → Prop := fun r G' D' => G' = G ∧ dm D D' ∧ ((gdC v cf = false ∧ r = some .null) ∨ (gdC v cf = true ∧ ∃ a rl i s, r = some (.ref a) ∧ (∀ b c, D b = some c → b < a) ∧ (∀ b c, D b = some c → b < rl) ∧ D' a = some (oCl (nI n) i s x rf rl) ∧ tx D' i (v.take (idL v)) ∧ (if cf = true then ∃ q, s = .ref q ∧ tx D' q (v.drop (idL v + 1)) else s = .null) ∧ D' rl = some (kLi [])))

theorem nI_n1m (n : Nat) : nI (n + 1) + -1 = nI n := by
  rw [← nI_1 n, Int32.add_assoc]
  exact Int32.add_zero _
theorem nI_lt1 {n : Nat} (h : n ≤ 100000) : nI n < nI (n + 1) := (nI_ltI (by omega) (by omega)).mpr (by omega)

theorem c_Text_addNeg {Λ : kL} {σ : kh} {q t n : Nat} (hn : n ≤ 100000) : jCt Λ mX9_addPart 0 0 [.ref q, .ref t, .int (nI (n + 1)), .int (-1)] σ (fun v σ' => v = none ∧ σ' = σ) := by
  refine jCt.of pn_X9 [some (.ref q), some (.ref t), some (.int (nI (n + 1))), some (.int (-1)), none] rfl (Nat.le_of_ble_eq_true rfl) fun X => ?_
  refine J.iload_n dX9_addPart_0 rfl ?_
  refine J.istore (L' := [some (.ref q), some (.ref t), some (.int (nI (n + 1))), some (.int (-1)), some (.int (nI (n + 1)))]) dX9_addPart_1 (by decide) rfl rfl ?_
  refine J.iload dX9_addPart_3 rfl ?_
  refine J.iload_n dX9_addPart_5 rfl ?_
  refine J.iload_n dX9_addPart_6 rfl ?_
  refine J.iadd dX9_addPart_7 ?_
  rw [show (nI (n + 1)) + (-1) = nI n from (nI_n1m n)]
  refine J.icmp_ge (tgt := 36) dX9_addPart_8 (by decide) (fun c_8 => ?_) (fun c_8 => absurd (Int32.le_of_lt (nI_lt1 hn)) c_8)
  refine J.vret dX9_addPart_36 rfl ?_
  exact ⟨rfl, rfl⟩

theorem c_Text_copyNeg {Λ : kL} {σ : kh} {t r b n cap : Nat} {f : Nat → Int32} (ht : σ t = some (oT r (nI b) (nI n))) (hr : σ r = some (aB cap f)) (hn : n ≤ 100000) : jCt Λ mX9_copyOfPart 2 3 [.ref t, .int (nI (n + 1)), .int (-1)] σ (fun v σ' => ∃ q1 q, kB Λ ≤ q1 ∧ (∀ a c, σ a = some c → a < q1) ∧ q1 < q ∧ v = some (.ref q1) ∧ σ' = kup (kup σ q (aB 0 (fun _ => 0))) q1 (oT q (nI 0) (nI 0))) := by
  refine jCt.of pn_X9 [some (.ref t), some (.int (nI (n + 1))), some (.int (-1)), none] rfl (Nat.le_of_ble_eq_true rfl) fun X => ?_
  refine J.less (bc' := 1 + 1) (bs' := 0 + 3) (by omega) (by omega) ?_
  refine J.new dX9_copyOfPart_0 nw_X9_10 (fun q_1 hb_2 hl_3 => ?_)
  have h_4 : (kup σ q_1 (.inr (10, [.null, .int 0, .int 0]))) t = some (.inr (10, [.ref r, .int (nI b), .int (nI n)])) := kup_i (Nat.ne_of_lt (hl_3 _ _ ht)) ht
  have h_5 : (kup σ q_1 (.inr (10, [.null, .int 0, .int 0]))) r = some (aB cap f) := kup_i (Nat.ne_of_lt (hl_3 _ _ hr)) hr
  have h_6 : (kup σ q_1 (.inr (10, [.null, .int 0, .int 0]))) q_1 = some (.inr (10, [.null, .int 0, .int 0])) := kup_s _ _ _
  refine J.dup dX9_copyOfPart_3 rfl ?_
  refine J.iload_n dX9_copyOfPart_4 rfl ?_
  refine J.aload_nR dX9_copyOfPart_5 rfl ?_
  refine J.getf dX9_copyOfPart_6 fl_X9_15 h_4 rfl ?_
  refine J.mmin dX9_copyOfPart_9 xmin_X9_57 rfl rfl ?_
  rw [show (if nI n < -1 then nI n else -1) = (-1 : Int32) from if_neg (fun z => nI_pos (n := n) (by omega) (Int32.lt_trans z (by decide)))]
  refine J.less (bc' := 0 + 1) (bs' := 0 + 0) (by omega) (by omega) ?_
  refine J.callI [.int (-1)] dX9_copyOfPart_12 mdX9_init ⟨rfl, rfl⟩ imX9_init lk_X9_60 rfl rfl rfl rfl (c_Text_init h_6 (x := -1) (m := 0) (by decide) (by omega)) ?_
  rintro _ _ ⟨q, g1, g2, rfl, rfl⟩
  have l_1 : q_1 < q := g2 _ _ h_6
  have k_1 : (kup (kup (kup σ q_1 (.inr (10, [.null, .int 0, .int 0]))) q (aB 0 (fun _ => 0))) q_1 (oT q 0 0)) q_1 = some (oT q (nI 0) (nI 0)) := kup_s _ _ _
  refine J.astore_n (L' := [some (.ref t), some (.int (nI (n + 1))), some (.int (-1)), some (.ref q_1)]) dX9_copyOfPart_15 (by decide) rfl rfl ?_
  refine J.aload_nR dX9_copyOfPart_16 rfl ?_
  refine J.aload_nR dX9_copyOfPart_17 rfl ?_
  refine J.iload_n dX9_copyOfPart_18 rfl ?_
  refine J.iload_n dX9_copyOfPart_19 rfl ?_
  refine J.callV0 [.ref t, .int (nI (n + 1)), .int (-1)] dX9_copyOfPart_20 mdX9_addPart imX9_addPart seX9_addPart kc_10 k_1 lk_X9_62 rfl rfl rfl rfl (c_Text_addNeg hn) ?_
  rintro _ σ9 ⟨rfl, e9⟩; have e9 := e9.symm; subst e9
  refine J.aload_nR dX9_copyOfPart_23 rfl ?_
  refine J.aret (r := some q_1) dX9_copyOfPart_24 rfl (by first | exact Or.inl ⟨_, rfl⟩ | exact Or.inr ⟨_, rfl⟩) ?_
  refine ⟨q_1, q, hb_2, hl_3, l_1, rfl, ?_⟩
  funext z
  by_cases e : z = q_1
  · rw [e, kup_s, kup_s]; rfl
  · rw [kup_n _ _ e, kup_n _ _ e]
    by_cases e2 : z = q
    · rw [e2, kup_s, kup_s]
    · rw [kup_n _ _ e2, kup_n _ _ e2, kup_n _ _ e]

theorem k_copyNeg {Λ : kL} {S : Nat → Nat} {G : Nat → kc} {D : kh} {u : Nat} {x : List Int32} (hu : ∀ σ, cHas σ S G D → tx σ u x) (hxl : x.length ≤ 100000) : cCt Λ mX9_copyOfPart 2 3 S [.ref u, .int (nI (x.length + 1)), .int (-1)] G D (cpQ G D []) := by
  refine (cCt.copy (c1 := aB 0 (fun _ => 0)) (c2 := fun q => oT q (nI 0) (nI 0)) fun σ h9 => ?_).mono fun r G' D' ⟨q1, q, h1, h2, h3, h4, h5⟩ => ?_
  · obtain ⟨r, b, cap, f, a1, a2, a3, a4, a5, a6⟩ := hu σ h9
    exact c_Text_copyNeg (Λ := Λ) a1 a2 hxl
  · have h6 := cp_of (v := []) h1 h2 (by decide) bts_nil
    subst h5
    exact ⟨q1, h1, h3, h4, h6.1, h6.2⟩

theorem c_Client_initR {Λ : kL} {σ : kh} {a : Nat} (k : Int32) (id : Nat) (sc : Nat) (x : Int32) (mr : Bool) (ha : σ a = some (.inr (1, [.int 0, .null, .null, .int 0, .int 0, .null]))) (hJ : kJd Λ) : jCt Λ mX0_init 1 3 [.ref a, .int k, .ref id, .ref sc, .int x, .int (bI mr)] σ (fun v σ' => ∃ q, kB Λ ≤ q ∧ (∀ b c, σ b = some c → b < q) ∧ v = none ∧ σ' = kup (kup σ q (kLi [])) a (oCl k id (.ref sc) x mr q)) := by
  refine jCt.of pn_X0 [some (.ref a), some (.int k), some (.ref id), some (.ref sc), some (.int x), some (.int (bI mr))] rfl (Nat.le_of_ble_eq_true rfl) fun X => ?_
  refine J.aload_nR dX0_init_0 rfl ?_
  refine J.objInit dX0_init_1 lo_X0_1 oi_im oi_co rfl rfl ?_
  refine J.aload_nR dX0_init_4 rfl ?_
  refine J.less (bc' := 0 + 1) (bs' := 0 + 3) (by omega) (by omega) ?_
  refine J.new dX0_init_5 nw_X0_7 (fun q_1 hb_2 hl_3 => ?_)
  have h_4 : (kup σ q_1 (.inr (0, [.int 0, .null, .int 0]))) a = some (.inr (1, [.int 0, .null, .null, .int 0, .int 0, .null])) := kup_i (Nat.ne_of_lt (hl_3 _ _ ha)) ha
  have h_5 : (kup σ q_1 (.inr (0, [.int 0, .null, .int 0]))) q_1 = some (.inr (0, [.int 0, .null, .int 0])) := kup_s _ _ _
  refine J.dup dX0_init_8 rfl ?_
  refine J.callI0 [] dX0_init_9 mdJx4a65c_init_da8c8 ⟨rfl, rfl⟩ imJx4a65c_init_da8c8 lk_X0_9 rfl rfl rfl rfl (c_list_init h_5 hJ) ?_
  rintro _ _ ⟨rfl, rfl⟩
  have h_6 : (kup (kup σ q_1 (.inr (0, [.int 0, .null, .int 0]))) q_1 (kLi ([]))) a = some (.inr (1, [.int 0, .null, .null, .int 0, .int 0, .null])) := kup_i (Nat.ne_of_lt (hl_3 _ _ ha)) h_4
  have h_7 : (kup (kup σ q_1 (.inr (0, [.int 0, .null, .int 0]))) q_1 (kLi ([]))) q_1 = some (kLi ([])) := kup_s _ _ _
  refine J.putf (fs' := [.int 0, .null, .null, .int 0, .int 0, .ref q_1]) dX0_init_12 fp_X0_10 (fun _ => rfl) h_6 rfl rfl (Nat.le_of_ble_eq_true rfl) rfl ?_
  have h_8 : (kup (kup (kup σ q_1 (.inr (0, [.int 0, .null, .int 0]))) q_1 (kLi ([]))) a (.inr (1, [.int 0, .null, .null, .int 0, .int 0, .ref q_1]))) a = some (.inr (1, [.int 0, .null, .null, .int 0, .int 0, .ref q_1])) := kup_s _ _ _
  have h_9 : (kup (kup (kup σ q_1 (.inr (0, [.int 0, .null, .int 0]))) q_1 (kLi ([]))) a (.inr (1, [.int 0, .null, .null, .int 0, .int 0, .ref q_1]))) q_1 = some (kLi ([])) := kup_i (Ne.symm (Nat.ne_of_lt (hl_3 _ _ ha))) h_7
  refine J.aload_nR dX0_init_15 rfl ?_
  refine J.iload_n dX0_init_16 rfl ?_
  refine J.putf (fs' := [.int k, .null, .null, .int 0, .int 0, .ref q_1]) dX0_init_17 fp_X0_16 (fun _ => rfl) h_8 rfl rfl (Nat.le_of_ble_eq_true rfl) rfl ?_
  have h_10 : (kup (kup (kup (kup σ q_1 (.inr (0, [.int 0, .null, .int 0]))) q_1 (kLi ([]))) a (.inr (1, [.int 0, .null, .null, .int 0, .int 0, .ref q_1]))) a (.inr (1, [.int k, .null, .null, .int 0, .int 0, .ref q_1]))) a = some (.inr (1, [.int k, .null, .null, .int 0, .int 0, .ref q_1])) := kup_s _ _ _
  have h_11 : (kup (kup (kup (kup σ q_1 (.inr (0, [.int 0, .null, .int 0]))) q_1 (kLi ([]))) a (.inr (1, [.int 0, .null, .null, .int 0, .int 0, .ref q_1]))) a (.inr (1, [.int k, .null, .null, .int 0, .int 0, .ref q_1]))) q_1 = some (kLi ([])) := kup_i (Ne.symm (Nat.ne_of_lt (hl_3 _ _ ha))) h_9
  refine J.aload_nR dX0_init_20 rfl ?_
  refine J.aload_nR dX0_init_21 rfl ?_
  refine J.putf (fs' := [.int k, .ref id, .null, .int 0, .int 0, .ref q_1]) dX0_init_22 fp_X0_20 (fun _ => rfl) h_10 rfl rfl (Nat.le_of_ble_eq_true rfl) rfl ?_
  have h_12 : (kup (kup (kup (kup (kup σ q_1 (.inr (0, [.int 0, .null, .int 0]))) q_1 (kLi ([]))) a (.inr (1, [.int 0, .null, .null, .int 0, .int 0, .ref q_1]))) a (.inr (1, [.int k, .null, .null, .int 0, .int 0, .ref q_1]))) a (.inr (1, [.int k, .ref id, .null, .int 0, .int 0, .ref q_1]))) a = some (.inr (1, [.int k, .ref id, .null, .int 0, .int 0, .ref q_1])) := kup_s _ _ _
  have h_13 : (kup (kup (kup (kup (kup σ q_1 (.inr (0, [.int 0, .null, .int 0]))) q_1 (kLi ([]))) a (.inr (1, [.int 0, .null, .null, .int 0, .int 0, .ref q_1]))) a (.inr (1, [.int k, .null, .null, .int 0, .int 0, .ref q_1]))) a (.inr (1, [.int k, .ref id, .null, .int 0, .int 0, .ref q_1]))) q_1 = some (kLi ([])) := kup_i (Ne.symm (Nat.ne_of_lt (hl_3 _ _ ha))) h_11
  refine J.aload_nR dX0_init_25 rfl ?_
  refine J.aload_nR dX0_init_26 rfl ?_
  refine J.putf (fs' := [.int k, .ref id, .ref sc, .int 0, .int 0, .ref q_1]) dX0_init_27 fp_X0_24 (fun _ => rfl) h_12 rfl rfl (Nat.le_of_ble_eq_true rfl) rfl ?_
  have h_14 : (kup (kup (kup (kup (kup (kup σ q_1 (.inr (0, [.int 0, .null, .int 0]))) q_1 (kLi ([]))) a (.inr (1, [.int 0, .null, .null, .int 0, .int 0, .ref q_1]))) a (.inr (1, [.int k, .null, .null, .int 0, .int 0, .ref q_1]))) a (.inr (1, [.int k, .ref id, .null, .int 0, .int 0, .ref q_1]))) a (.inr (1, [.int k, .ref id, .ref sc, .int 0, .int 0, .ref q_1]))) a = some (.inr (1, [.int k, .ref id, .ref sc, .int 0, .int 0, .ref q_1])) := kup_s _ _ _
  have h_15 : (kup (kup (kup (kup (kup (kup σ q_1 (.inr (0, [.int 0, .null, .int 0]))) q_1 (kLi ([]))) a (.inr (1, [.int 0, .null, .null, .int 0, .int 0, .ref q_1]))) a (.inr (1, [.int k, .null, .null, .int 0, .int 0, .ref q_1]))) a (.inr (1, [.int k, .ref id, .null, .int 0, .int 0, .ref q_1]))) a (.inr (1, [.int k, .ref id, .ref sc, .int 0, .int 0, .ref q_1]))) q_1 = some (kLi ([])) := kup_i (Ne.symm (Nat.ne_of_lt (hl_3 _ _ ha))) h_13
  refine J.aload_nR dX0_init_30 rfl ?_
  refine J.iload dX0_init_31 rfl ?_
  refine J.putf (fs' := [.int k, .ref id, .ref sc, .int x, .int 0, .ref q_1]) dX0_init_33 fp_X0_27 (fun _ => rfl) h_14 rfl rfl (Nat.le_of_ble_eq_true rfl) rfl ?_
  have h_16 : (kup (kup (kup (kup (kup (kup (kup σ q_1 (.inr (0, [.int 0, .null, .int 0]))) q_1 (kLi ([]))) a (.inr (1, [.int 0, .null, .null, .int 0, .int 0, .ref q_1]))) a (.inr (1, [.int k, .null, .null, .int 0, .int 0, .ref q_1]))) a (.inr (1, [.int k, .ref id, .null, .int 0, .int 0, .ref q_1]))) a (.inr (1, [.int k, .ref id, .ref sc, .int 0, .int 0, .ref q_1]))) a (.inr (1, [.int k, .ref id, .ref sc, .int x, .int 0, .ref q_1]))) a = some (.inr (1, [.int k, .ref id, .ref sc, .int x, .int 0, .ref q_1])) := kup_s _ _ _
  have h_17 : (kup (kup (kup (kup (kup (kup (kup σ q_1 (.inr (0, [.int 0, .null, .int 0]))) q_1 (kLi ([]))) a (.inr (1, [.int 0, .null, .null, .int 0, .int 0, .ref q_1]))) a (.inr (1, [.int k, .null, .null, .int 0, .int 0, .ref q_1]))) a (.inr (1, [.int k, .ref id, .null, .int 0, .int 0, .ref q_1]))) a (.inr (1, [.int k, .ref id, .ref sc, .int 0, .int 0, .ref q_1]))) a (.inr (1, [.int k, .ref id, .ref sc, .int x, .int 0, .ref q_1]))) q_1 = some (kLi ([])) := kup_i (Ne.symm (Nat.ne_of_lt (hl_3 _ _ ha))) h_15
  refine J.aload_nR dX0_init_36 rfl ?_
  refine J.iload dX0_init_37 rfl ?_
  refine J.putf (fs' := [.int k, .ref id, .ref sc, .int x, .int (bI mr), .ref q_1]) dX0_init_39 fp_X0_30 (fun _ => rfl) h_16 (bI_nar _) (bI_fit _) (Nat.le_of_ble_eq_true rfl) rfl ?_
  have h_18 : (kup (kup (kup (kup (kup (kup (kup (kup σ q_1 (.inr (0, [.int 0, .null, .int 0]))) q_1 (kLi ([]))) a (.inr (1, [.int 0, .null, .null, .int 0, .int 0, .ref q_1]))) a (.inr (1, [.int k, .null, .null, .int 0, .int 0, .ref q_1]))) a (.inr (1, [.int k, .ref id, .null, .int 0, .int 0, .ref q_1]))) a (.inr (1, [.int k, .ref id, .ref sc, .int 0, .int 0, .ref q_1]))) a (.inr (1, [.int k, .ref id, .ref sc, .int x, .int 0, .ref q_1]))) a (.inr (1, [.int k, .ref id, .ref sc, .int x, .int (bI mr), .ref q_1]))) a = some (.inr (1, [.int k, .ref id, .ref sc, .int x, .int (bI mr), .ref q_1])) := kup_s _ _ _
  have h_19 : (kup (kup (kup (kup (kup (kup (kup (kup σ q_1 (.inr (0, [.int 0, .null, .int 0]))) q_1 (kLi ([]))) a (.inr (1, [.int 0, .null, .null, .int 0, .int 0, .ref q_1]))) a (.inr (1, [.int k, .null, .null, .int 0, .int 0, .ref q_1]))) a (.inr (1, [.int k, .ref id, .null, .int 0, .int 0, .ref q_1]))) a (.inr (1, [.int k, .ref id, .ref sc, .int 0, .int 0, .ref q_1]))) a (.inr (1, [.int k, .ref id, .ref sc, .int x, .int 0, .ref q_1]))) a (.inr (1, [.int k, .ref id, .ref sc, .int x, .int (bI mr), .ref q_1]))) q_1 = some (kLi ([])) := kup_i (Ne.symm (Nat.ne_of_lt (hl_3 _ _ ha))) h_17
  refine J.vret dX0_init_42 rfl ?_
  refine ⟨q_1, hb_2, hl_3, rfl, ?_⟩
  simp only [kup_up]

theorem c_Client_initN {Λ : kL} {σ : kh} {a : Nat} (k : Int32) (id : Nat) (x : Int32) (mr : Bool) (ha : σ a = some (.inr (1, [.int 0, .null, .null, .int 0, .int 0, .null]))) (hJ : kJd Λ) : jCt Λ mX0_init 1 3 [.ref a, .int k, .ref id, .null, .int x, .int (bI mr)] σ (fun v σ' => ∃ q, kB Λ ≤ q ∧ (∀ b c, σ b = some c → b < q) ∧ v = none ∧ σ' = kup (kup σ q (kLi [])) a (oCl k id (.null) x mr q)) := by
  refine jCt.of pn_X0 [some (.ref a), some (.int k), some (.ref id), some (.null), some (.int x), some (.int (bI mr))] rfl (Nat.le_of_ble_eq_true rfl) fun X => ?_
  refine J.aload_nR dX0_init_0 rfl ?_
  refine J.objInit dX0_init_1 lo_X0_1 oi_im oi_co rfl rfl ?_
  refine J.aload_nR dX0_init_4 rfl ?_
  refine J.less (bc' := 0 + 1) (bs' := 0 + 3) (by omega) (by omega) ?_
  refine J.new dX0_init_5 nw_X0_7 (fun q_1 hb_2 hl_3 => ?_)
  have h_4 : (kup σ q_1 (.inr (0, [.int 0, .null, .int 0]))) a = some (.inr (1, [.int 0, .null, .null, .int 0, .int 0, .null])) := kup_i (Nat.ne_of_lt (hl_3 _ _ ha)) ha
  have h_5 : (kup σ q_1 (.inr (0, [.int 0, .null, .int 0]))) q_1 = some (.inr (0, [.int 0, .null, .int 0])) := kup_s _ _ _
  refine J.dup dX0_init_8 rfl ?_
  refine J.callI0 [] dX0_init_9 mdJx4a65c_init_da8c8 ⟨rfl, rfl⟩ imJx4a65c_init_da8c8 lk_X0_9 rfl rfl rfl rfl (c_list_init h_5 hJ) ?_
  rintro _ _ ⟨rfl, rfl⟩
  have h_6 : (kup (kup σ q_1 (.inr (0, [.int 0, .null, .int 0]))) q_1 (kLi ([]))) a = some (.inr (1, [.int 0, .null, .null, .int 0, .int 0, .null])) := kup_i (Nat.ne_of_lt (hl_3 _ _ ha)) h_4
  have h_7 : (kup (kup σ q_1 (.inr (0, [.int 0, .null, .int 0]))) q_1 (kLi ([]))) q_1 = some (kLi ([])) := kup_s _ _ _
  refine J.putf (fs' := [.int 0, .null, .null, .int 0, .int 0, .ref q_1]) dX0_init_12 fp_X0_10 (fun _ => rfl) h_6 rfl rfl (Nat.le_of_ble_eq_true rfl) rfl ?_
  have h_8 : (kup (kup (kup σ q_1 (.inr (0, [.int 0, .null, .int 0]))) q_1 (kLi ([]))) a (.inr (1, [.int 0, .null, .null, .int 0, .int 0, .ref q_1]))) a = some (.inr (1, [.int 0, .null, .null, .int 0, .int 0, .ref q_1])) := kup_s _ _ _
  have h_9 : (kup (kup (kup σ q_1 (.inr (0, [.int 0, .null, .int 0]))) q_1 (kLi ([]))) a (.inr (1, [.int 0, .null, .null, .int 0, .int 0, .ref q_1]))) q_1 = some (kLi ([])) := kup_i (Ne.symm (Nat.ne_of_lt (hl_3 _ _ ha))) h_7
  refine J.aload_nR dX0_init_15 rfl ?_
  refine J.iload_n dX0_init_16 rfl ?_
  refine J.putf (fs' := [.int k, .null, .null, .int 0, .int 0, .ref q_1]) dX0_init_17 fp_X0_16 (fun _ => rfl) h_8 rfl rfl (Nat.le_of_ble_eq_true rfl) rfl ?_
  have h_10 : (kup (kup (kup (kup σ q_1 (.inr (0, [.int 0, .null, .int 0]))) q_1 (kLi ([]))) a (.inr (1, [.int 0, .null, .null, .int 0, .int 0, .ref q_1]))) a (.inr (1, [.int k, .null, .null, .int 0, .int 0, .ref q_1]))) a = some (.inr (1, [.int k, .null, .null, .int 0, .int 0, .ref q_1])) := kup_s _ _ _
  have h_11 : (kup (kup (kup (kup σ q_1 (.inr (0, [.int 0, .null, .int 0]))) q_1 (kLi ([]))) a (.inr (1, [.int 0, .null, .null, .int 0, .int 0, .ref q_1]))) a (.inr (1, [.int k, .null, .null, .int 0, .int 0, .ref q_1]))) q_1 = some (kLi ([])) := kup_i (Ne.symm (Nat.ne_of_lt (hl_3 _ _ ha))) h_9
  refine J.aload_nR dX0_init_20 rfl ?_
  refine J.aload_nR dX0_init_21 rfl ?_
  refine J.putf (fs' := [.int k, .ref id, .null, .int 0, .int 0, .ref q_1]) dX0_init_22 fp_X0_20 (fun _ => rfl) h_10 rfl rfl (Nat.le_of_ble_eq_true rfl) rfl ?_
  have h_12 : (kup (kup (kup (kup (kup σ q_1 (.inr (0, [.int 0, .null, .int 0]))) q_1 (kLi ([]))) a (.inr (1, [.int 0, .null, .null, .int 0, .int 0, .ref q_1]))) a (.inr (1, [.int k, .null, .null, .int 0, .int 0, .ref q_1]))) a (.inr (1, [.int k, .ref id, .null, .int 0, .int 0, .ref q_1]))) a = some (.inr (1, [.int k, .ref id, .null, .int 0, .int 0, .ref q_1])) := kup_s _ _ _
  have h_13 : (kup (kup (kup (kup (kup σ q_1 (.inr (0, [.int 0, .null, .int 0]))) q_1 (kLi ([]))) a (.inr (1, [.int 0, .null, .null, .int 0, .int 0, .ref q_1]))) a (.inr (1, [.int k, .null, .null, .int 0, .int 0, .ref q_1]))) a (.inr (1, [.int k, .ref id, .null, .int 0, .int 0, .ref q_1]))) q_1 = some (kLi ([])) := kup_i (Ne.symm (Nat.ne_of_lt (hl_3 _ _ ha))) h_11
  refine J.aload_nR dX0_init_25 rfl ?_
  refine J.aload_nN dX0_init_26 rfl ?_
  refine J.putf (fs' := [.int k, .ref id, .null, .int 0, .int 0, .ref q_1]) dX0_init_27 fp_X0_24 (fun _ => rfl) h_12 rfl rfl (Nat.le_of_ble_eq_true rfl) rfl ?_
  have h_14 : (kup (kup (kup (kup (kup (kup σ q_1 (.inr (0, [.int 0, .null, .int 0]))) q_1 (kLi ([]))) a (.inr (1, [.int 0, .null, .null, .int 0, .int 0, .ref q_1]))) a (.inr (1, [.int k, .null, .null, .int 0, .int 0, .ref q_1]))) a (.inr (1, [.int k, .ref id, .null, .int 0, .int 0, .ref q_1]))) a (.inr (1, [.int k, .ref id, .null, .int 0, .int 0, .ref q_1]))) a = some (.inr (1, [.int k, .ref id, .null, .int 0, .int 0, .ref q_1])) := kup_s _ _ _
  have h_15 : (kup (kup (kup (kup (kup (kup σ q_1 (.inr (0, [.int 0, .null, .int 0]))) q_1 (kLi ([]))) a (.inr (1, [.int 0, .null, .null, .int 0, .int 0, .ref q_1]))) a (.inr (1, [.int k, .null, .null, .int 0, .int 0, .ref q_1]))) a (.inr (1, [.int k, .ref id, .null, .int 0, .int 0, .ref q_1]))) a (.inr (1, [.int k, .ref id, .null, .int 0, .int 0, .ref q_1]))) q_1 = some (kLi ([])) := kup_i (Ne.symm (Nat.ne_of_lt (hl_3 _ _ ha))) h_13
  refine J.aload_nR dX0_init_30 rfl ?_
  refine J.iload dX0_init_31 rfl ?_
  refine J.putf (fs' := [.int k, .ref id, .null, .int x, .int 0, .ref q_1]) dX0_init_33 fp_X0_27 (fun _ => rfl) h_14 rfl rfl (Nat.le_of_ble_eq_true rfl) rfl ?_
  have h_16 : (kup (kup (kup (kup (kup (kup (kup σ q_1 (.inr (0, [.int 0, .null, .int 0]))) q_1 (kLi ([]))) a (.inr (1, [.int 0, .null, .null, .int 0, .int 0, .ref q_1]))) a (.inr (1, [.int k, .null, .null, .int 0, .int 0, .ref q_1]))) a (.inr (1, [.int k, .ref id, .null, .int 0, .int 0, .ref q_1]))) a (.inr (1, [.int k, .ref id, .null, .int 0, .int 0, .ref q_1]))) a (.inr (1, [.int k, .ref id, .null, .int x, .int 0, .ref q_1]))) a = some (.inr (1, [.int k, .ref id, .null, .int x, .int 0, .ref q_1])) := kup_s _ _ _
  have h_17 : (kup (kup (kup (kup (kup (kup (kup σ q_1 (.inr (0, [.int 0, .null, .int 0]))) q_1 (kLi ([]))) a (.inr (1, [.int 0, .null, .null, .int 0, .int 0, .ref q_1]))) a (.inr (1, [.int k, .null, .null, .int 0, .int 0, .ref q_1]))) a (.inr (1, [.int k, .ref id, .null, .int 0, .int 0, .ref q_1]))) a (.inr (1, [.int k, .ref id, .null, .int 0, .int 0, .ref q_1]))) a (.inr (1, [.int k, .ref id, .null, .int x, .int 0, .ref q_1]))) q_1 = some (kLi ([])) := kup_i (Ne.symm (Nat.ne_of_lt (hl_3 _ _ ha))) h_15
  refine J.aload_nR dX0_init_36 rfl ?_
  refine J.iload dX0_init_37 rfl ?_
  refine J.putf (fs' := [.int k, .ref id, .null, .int x, .int (bI mr), .ref q_1]) dX0_init_39 fp_X0_30 (fun _ => rfl) h_16 (bI_nar _) (bI_fit _) (Nat.le_of_ble_eq_true rfl) rfl ?_
  have h_18 : (kup (kup (kup (kup (kup (kup (kup (kup σ q_1 (.inr (0, [.int 0, .null, .int 0]))) q_1 (kLi ([]))) a (.inr (1, [.int 0, .null, .null, .int 0, .int 0, .ref q_1]))) a (.inr (1, [.int k, .null, .null, .int 0, .int 0, .ref q_1]))) a (.inr (1, [.int k, .ref id, .null, .int 0, .int 0, .ref q_1]))) a (.inr (1, [.int k, .ref id, .null, .int 0, .int 0, .ref q_1]))) a (.inr (1, [.int k, .ref id, .null, .int x, .int 0, .ref q_1]))) a (.inr (1, [.int k, .ref id, .null, .int x, .int (bI mr), .ref q_1]))) a = some (.inr (1, [.int k, .ref id, .null, .int x, .int (bI mr), .ref q_1])) := kup_s _ _ _
  have h_19 : (kup (kup (kup (kup (kup (kup (kup (kup σ q_1 (.inr (0, [.int 0, .null, .int 0]))) q_1 (kLi ([]))) a (.inr (1, [.int 0, .null, .null, .int 0, .int 0, .ref q_1]))) a (.inr (1, [.int k, .null, .null, .int 0, .int 0, .ref q_1]))) a (.inr (1, [.int k, .ref id, .null, .int 0, .int 0, .ref q_1]))) a (.inr (1, [.int k, .ref id, .null, .int 0, .int 0, .ref q_1]))) a (.inr (1, [.int k, .ref id, .null, .int x, .int 0, .ref q_1]))) a (.inr (1, [.int k, .ref id, .null, .int x, .int (bI mr), .ref q_1]))) q_1 = some (kLi ([])) := kup_i (Ne.symm (Nat.ne_of_lt (hl_3 _ _ ha))) h_17
  refine J.vret dX0_init_42 rfl ?_
  refine ⟨q_1, hb_2, hl_3, rfl, ?_⟩
  simp only [kup_up]

theorem wthn_top8 : ∀ n, n ≤ 8 → ((1 <<< (nI n &&& 31) : Int32) - 1).toBitVec = (BitVec.ofNat 32 (2 ^ n - 1)) ∧ ((1 <<< (nI n &&& 31) : Int32)).toInt = ((2 ^ n : Nat) : Int) ∧ 2 ^ n ≤ 256 := by decide
theorem wthn_top {n : Nat} (hn : n ≤ 8) (x : Int32) : wthn x (1 <<< (nI n &&& 31) - 1) = decide (0 ≤ x ∧ x < 1 <<< (nI n &&& 31)) := by
  obtain ⟨h1, h2, h3⟩ := wthn_top8 n hn
  have hc : ∀ i, i < 32 → (BitVec.ofNat 32 (2 ^ n - 1)).getLsbD i = decide (i < n) := fun i hi => by
    rw [BitVec.getLsbD_ofNat, decide_eq_true hi, Bool.true_and, Nat.testBit_two_pow_sub_one]
  have e2 : (x &&& ((1 <<< (nI n &&& 31) - 1) ^^^ -1)).toBitVec = x.toBitVec &&& ((BitVec.ofNat 32 (2 ^ n - 1)) ^^^ BitVec.allOnes 32) := by
    rw [Int32.toBitVec_and, Int32.toBitVec_xor, h1]
    rfl
  have e1 : (x &&& ((1 <<< (nI n &&& 31) - 1) ^^^ -1) = 0) ↔ x.toBitVec.toNat < 2 ^ n := by
    rw [← Int32.toBitVec_inj, e2]
    constructor
    · intro h
      refine Nat.lt_pow_two_of_testBit _ fun i hi => ?_
      rw [BitVec.testBit_toNat]
      by_cases hi2 : i < 32
      · have hb : (x.toBitVec &&& ((BitVec.ofNat 32 (2 ^ n - 1)) ^^^ BitVec.allOnes 32)).getLsbD i = (0 : Int32).toBitVec.getLsbD i := by rw [h]
        rw [BitVec.getLsbD_and, BitVec.getLsbD_xor, hc i hi2, BitVec.getLsbD_allOnes, decide_eq_true hi2, decide_eq_false (by omega : ¬ i < n)] at hb
        rw [show (0 : Int32).toBitVec.getLsbD i = false from BitVec.getLsbD_zero] at hb
        cases hz : x.toBitVec.getLsbD i with
        | false => rfl
        | true => rw [hz] at hb; exact absurd hb (by decide)
      · exact BitVec.getLsbD_of_ge _ _ (by omega)
    · intro h
      refine BitVec.eq_of_getLsbD_eq fun i hi => ?_
      rw [BitVec.getLsbD_and, BitVec.getLsbD_xor, hc i hi, BitVec.getLsbD_allOnes, decide_eq_true hi, show (0 : Int32).toBitVec.getLsbD i = false from BitVec.getLsbD_zero]
      by_cases hin : i < n
      · rw [decide_eq_true hin]
        exact Bool.and_false _
      · rw [← BitVec.testBit_toNat, Nat.testBit_lt_two_pow (Nat.lt_of_lt_of_le h (Nat.pow_le_pow_right (by decide) (by omega)))]
        rfl
  have e3 : (0 ≤ x ∧ x < 1 <<< (nI n &&& 31)) ↔ x.toBitVec.toNat < 2 ^ n := by
    rw [Int32.le_iff_toInt_le, Int32.lt_iff_toInt_lt, h2]
    have hx : x.toInt = x.toBitVec.toInt := rfl
    have ht := BitVec.toInt_eq_toNat_cond x.toBitVec
    have hl := x.toBitVec.isLt
    rw [hx, ht, show (0 : Int32).toInt = 0 from rfl]
    split <;> omega
  rw [wthn]
  exact decide_eq_decide.mpr (e1.trans e3.symm)

theorem k_areScopes {Λ : kL} {S : Nat → Nat} {G : Nat → kc} {D : kh} (hS : cInj S) {A L : Nat → List Nat} {N : Nat → Int32} {B : Nat → List Int32} {T R : Nat → List (List Int32)} (hR : cR Λ S G D A L N B T R) (hW : wf N B T R) (x : Int32) : cCt Λ mX11_areScopes 0 0 S [.ref (S 0), .int x] G D (fun r G' D' => r = some (.int (bI (decide (0 ≤ x ∧ x < 1 <<< (nI (T 2).length &&& 31))))) ∧ G' = G ∧ D' = D) := by
  refine cCt.of hS pn_X11 [some (.ref (S 0)), some (.int x)] rfl (Nat.le_of_ble_eq_true rfl) fun X => ?_
  obtain ⟨p_a, p_b, p_n, p_k, p_f, p_h, p_w, p_c, p_r, p_q, p_o, p_m, p_t, p_d⟩ := hR
  obtain ⟨w_a, w_n, w_w, w_c, w_r, w_x, w_q, w_k, w_f, w_t, w_m, w_l⟩ := hW
  have p_a9 := p_a; obtain ⟨ft, a1, a2, a3, a4, a5, a6⟩ := p_a9
  have p_b9 := p_b; obtain ⟨fo9, b1, b2, b3, b4, b5, b6⟩ := p_b9
  refine C.iload_n dX11_areScopes_0 rfl ?_
  refine C.iconst (v := 1) dX11_areScopes_1 (by decide) ?_
  refine C.aload_nR dX11_areScopes_2 rfl ?_
  refine C.getS (k9 := 0) (fs := [.ref (S 1), .ref (S 2), .ref (S 3), .ref (S 4), .ref (S 5), .ref (S 6), .ref (S 7), .ref (S 8), .ref (S 9), .ref (S 10), .ref (S 11), .ref (S 12), .int (N 26), .int (N 27), .int (N 28), .int (N 25), .int (N 5), .int (N 6)]) dX11_areScopes_3 fl_X11_45 rfl p_n rfl ?_
  refine C.callLS0 (k9 := 6) [] dX11_areScopes_6 mdJx4a65c_size_8abf5 imJx4a65c_size_8abf5 seJx4a65c_size_8abf5 rfl p_w.1 lk_X11_123 rfl rfl rfl rfl (cCt.w0 (R := fun r => r = some (.int (nI (rv (A 6)).length))) fun σ9 h9 => c_list_size (h9.at (k := 6) rfl p_w.1)) ?_
  rintro _ G9 D9 ⟨rfl, e9, e8⟩
  have e9 := e9.symm; subst e9; have e8 := e8.symm; subst e8
  rw [rv_len, p_w.2.1]
  refine C.ishl dX11_areScopes_9 ?_
  refine C.iconst (v := 1) dX11_areScopes_10 (by decide) ?_
  refine C.isub dX11_areScopes_11 ?_
  refine C.callS0 [.int x, .int ((1 <<< ((nI (T 2).length : Int32) &&& 31)) - 1)] dX11_areScopes_12 mdX11_isWithin ssX11_isWithin lk_X11_254 rfl rfl rfl rfl (cCt.w0 (R := fun r => r = some (.int (bI (wthn x (1 <<< (nI (T 2).length &&& 31) - 1))))) fun σ9 h9 => c_isWithin x ((1 <<< ((nI (T 2).length : Int32) &&& 31)) - 1)) ?_
  rintro _ G9 D9 ⟨rfl, e9, e8⟩
  have e9 := e9.symm; subst e9; have e8 := e8.symm; subst e8
  refine C.zret dX11_areScopes_15 rfl (bI_nar _) ?_
  exact ⟨congrArg (fun z => some (Value.int (bI z))) (wthn_top w_w.1 x), rfl, rfl⟩

theorem k_cot_T {Λ : kL} {S : Nat → Nat} {G : Nat → kc} {D : kh} (hS : cInj S) {A L : Nat → List Nat} {N : Nat → Int32} {B : Nat → List Int32} {T R : Nat → List (List Int32)} (hR : cR Λ S G D A L N B T R) (hW : wf N B T R) (hJ : kJd Λ) (x : Int32) (rf : Bool) : cCt Λ mX11_clientOnTape 6 2020 S [.ref (S 0), .int 1, .int x, .int (bI rf)] G D (cotQ S G D (B 0) (T 3).length true x rf) := by
  refine cCt.of hS pn_X11 [some (.ref (S 0)), some (.int 1), some (.int x), some (.int (bI rf)), none, none, none] rfl (Nat.le_of_ble_eq_true rfl) fun X => ?_
  obtain ⟨p_a, p_b, p_n, p_k, p_f, p_h, p_w, p_c, p_r, p_q, p_o, p_m, p_t, p_d⟩ := hR
  obtain ⟨w_a, w_n, w_w, w_c, w_r, w_x, w_q, w_k, w_f, w_t, w_m, w_l⟩ := hW
  have p_a9 := p_a; obtain ⟨ft, a1, a2, a3, a4, a5, a6⟩ := p_a9
  have p_b9 := p_b; obtain ⟨fo9, b1, b2, b3, b4, b5, b6⟩ := p_b9
  have hid := idL_le (B 0)
  refine C.iload_n dX11_clientOnTape_0 rfl ?_
  refine C.if_eq (tgt := 23) dX11_clientOnTape_1 (by decide) (fun c_1 => absurd c_1 (by decide)) (fun c_1 => ?_)
  refine C.aload_nR dX11_clientOnTape_4 rfl ?_
  refine C.getS (k9 := 0) (fs := [.ref (S 1), .ref (S 2), .ref (S 3), .ref (S 4), .ref (S 5), .ref (S 6), .ref (S 7), .ref (S 8), .ref (S 9), .ref (S 10), .ref (S 11), .ref (S 12), .int (N 26), .int (N 27), .int (N 28), .int (N 25), .int (N 5), .int (N 6)]) dX11_clientOnTape_5 fl_X11_14 rfl p_n rfl ?_
  refine C.iconst (v := 0) dX11_clientOnTape_8 (by decide) ?_
  refine C.iconst (v := 0) dX11_clientOnTape_9 (by decide) ?_
  refine C.aload_nR dX11_clientOnTape_10 rfl ?_
  refine C.getS (k9 := 0) (fs := [.ref (S 1), .ref (S 2), .ref (S 3), .ref (S 4), .ref (S 5), .ref (S 6), .ref (S 7), .ref (S 8), .ref (S 9), .ref (S 10), .ref (S 11), .ref (S 12), .int (N 26), .int (N 27), .int (N 28), .int (N 25), .int (N 5), .int (N 6)]) dX11_clientOnTape_11 fl_X11_14 rfl p_n rfl ?_
  refine C.callVS0 (k9 := 1) [] dX11_clientOnTape_14 mdX9_size imX9_size seX9_size kc_10 rfl a1 lk_X11_86 rfl rfl rfl rfl (cCt.w0 (R := fun r => r = some (.int (nI (B 0).length))) fun σ9 h9 => v_size ((show tO S G 1 13 2000 (B 0) from p_a).s.tx h9 rfl rfl)) ?_
  rintro _ G9 D9 ⟨rfl, e9, e8⟩
  have e9 := e9.symm; subst e9; have e8 := e8.symm; subst e8
  refine C.callVS0 (k9 := 1) [.int 0, .int 0, .int (nI (B 0).length)] dX11_clientOnTape_17 mdX9_indexOf imX9_indexOf seX9_indexOf kc_10 rfl a1 lk_X11_404 rfl rfl rfl rfl (cCt.w0 (R := fun r => r = some (.int (nI (idL (B 0))))) fun σ9 h9 => v_indexOf ((show tO S G 1 13 2000 (B 0) from p_a).s.tx h9 rfl rfl) (c := 0) (by decide) (i := 0) (e := (B 0).length) (Nat.zero_le _) (Nat.le_refl _)) ?_
  rintro _ G9 D9 ⟨rfl, e9, e8⟩
  have e9 := e9.symm; subst e9; have e8 := e8.symm; subst e8
  refine C.goto (tgt := 30) dX11_clientOnTape_20 (by decide) ?_
  refine C.istore (L' := [some (.ref (S 0)), some (.int 1), some (.int x), some (.int (bI rf)), some (.int (nI (idL (B 0)))), none, none]) dX11_clientOnTape_30 (by decide) rfl rfl ?_
  refine C.aload_nR dX11_clientOnTape_32 rfl ?_
  refine C.getS (k9 := 0) (fs := [.ref (S 1), .ref (S 2), .ref (S 3), .ref (S 4), .ref (S 5), .ref (S 6), .ref (S 7), .ref (S 8), .ref (S 9), .ref (S 10), .ref (S 11), .ref (S 12), .int (N 26), .int (N 27), .int (N 28), .int (N 25), .int (N 5), .int (N 6)]) dX11_clientOnTape_33 fl_X11_14 rfl p_n rfl ?_
  refine C.iconst (v := 0) dX11_clientOnTape_36 (by decide) ?_
  refine C.iload dX11_clientOnTape_37 rfl ?_
  have hct := k_copyOf (Λ := Λ) (D := D) (fun σ9 h9 => ((show tO S G 1 13 2000 (B 0) from p_a).s.tx h9 rfl rfl)) a6 (by omega) (g := 0) (m := (idL (B 0))) (by omega)
  rw [List.drop_zero] at hct
  refine C.less (bc' := 4 + 2) (bs' := (2020 - ((idL (B 0)) + 3)) + ((idL (B 0)) + 3)) (by omega) (by omega) ?_
  refine C.callVS (k9 := 1) [.int 0, .int (nI (idL (B 0)))] dX11_clientOnTape_39 mdX9_copyOfPart imX9_copyOfPart seX9_copyOfPart kc_10 rfl a1 lk_X11_105 rfl rfl rfl rfl hct ?_
  rintro _ G9 D2 ⟨q5, f_q5, rfl, e9, m_q5, t_q5⟩; have e9 := e9.symm; subst e9
  have o_q5 := t_q5; obtain ⟨r_q5, b_q5, c_q5, g_q5, p_q5, _⟩ := o_q5
  refine C.astore (L' := [some (.ref (S 0)), some (.int 1), some (.int x), some (.int (bI rf)), some (.int (nI (idL (B 0)))), some (.ref q5), none]) dX11_clientOnTape_42 (by decide) rfl rfl ?_
  refine C.aload_nR dX11_clientOnTape_44 rfl ?_
  refine C.getS (k9 := 0) (fs := [.ref (S 1), .ref (S 2), .ref (S 3), .ref (S 4), .ref (S 5), .ref (S 6), .ref (S 7), .ref (S 8), .ref (S 9), .ref (S 10), .ref (S 11), .ref (S 12), .int (N 26), .int (N 27), .int (N 28), .int (N 25), .int (N 5), .int (N 6)]) dX11_clientOnTape_45 fl_X11_14 rfl p_n rfl ?_
  refine C.iload dX11_clientOnTape_48 rfl ?_
  refine C.iconst (v := 1) dX11_clientOnTape_50 (by decide) ?_
  refine C.iadd dX11_clientOnTape_51 ?_
  rw [show (nI (idL (B 0))) + 1 = nI ((idL (B 0)) + 1) from nI_1 (idL (B 0))]
  refine C.aload_nR dX11_clientOnTape_52 rfl ?_
  refine C.getS (k9 := 0) (fs := [.ref (S 1), .ref (S 2), .ref (S 3), .ref (S 4), .ref (S 5), .ref (S 6), .ref (S 7), .ref (S 8), .ref (S 9), .ref (S 10), .ref (S 11), .ref (S 12), .int (N 26), .int (N 27), .int (N 28), .int (N 25), .int (N 5), .int (N 6)]) dX11_clientOnTape_53 fl_X11_14 rfl p_n rfl ?_
  refine C.callVS0 (k9 := 1) [] dX11_clientOnTape_56 mdX9_size imX9_size seX9_size kc_10 rfl a1 lk_X11_86 rfl rfl rfl rfl (cCt.w0 (R := fun r => r = some (.int (nI (B 0).length))) fun σ9 h9 => v_size ((show tO S G 1 13 2000 (B 0) from p_a).s.tx h9 rfl rfl)) ?_
  rintro _ G9 D9 ⟨rfl, e9, e8⟩
  have e9 := e9.symm; subst e9; have e8 := e8.symm; subst e8
  refine C.iload dX11_clientOnTape_59 rfl ?_
  refine C.isub dX11_clientOnTape_61 ?_
  refine C.iconst (v := 1) dX11_clientOnTape_62 (by decide) ?_
  refine C.isub dX11_clientOnTape_63 ?_
  by_cases hlt : idL (B 0) < (B 0).length
  · skip
    rw [nI_m1 hlt]
    have hct := k_copyOf (Λ := Λ) (D := D2) (fun σ9 h9 => ((show tO S G 1 13 2000 (B 0) from p_a).s.tx h9 rfl rfl)) a6 (by omega) (g := idL (B 0) + 1) (m := (B 0).length - idL (B 0) - 1) (by omega)
    rw [show ((B 0).drop (idL (B 0) + 1)).take ((B 0).length - idL (B 0) - 1) = (B 0).drop (idL (B 0) + 1) from List.take_of_length_le (by rw [List.length_drop]; omega)] at hct
    refine C.less (bc' := 2 + 2) (bs' := ((2020 - ((idL (B 0)) + 3)) - ((B 0).length - idL (B 0) - 1 + 3)) + ((B 0).length - idL (B 0) - 1 + 3)) (by omega) (by omega) ?_
    refine C.callVS (k9 := 1) [.int (nI (idL (B 0) + 1)), .int (nI ((B 0).length - idL (B 0) - 1))] dX11_clientOnTape_64 mdX9_copyOfPart imX9_copyOfPart seX9_copyOfPart kc_10 rfl a1 lk_X11_105 rfl rfl rfl rfl hct ?_
    rintro _ G9 D3 ⟨q6, f_q6, rfl, e9, m_q6, t_q6⟩; have e9 := e9.symm; subst e9
    have o_q6 := t_q6; obtain ⟨r_q6, b_q6, c_q6, g_q6, p_q6, _⟩ := o_q6
    have t5 := t_q5.mono m_q6
    have md : dm D D3 := m_q5.tr m_q6
    refine C.astore (L' := [some (.ref (S 0)), some (.int 1), some (.int x), some (.int (bI rf)), some (.int (nI (idL (B 0)))), some (.ref q5), some (.ref q6)]) dX11_clientOnTape_67 (by decide) rfl rfl ?_
    refine C.aloadR dX11_clientOnTape_69 rfl ?_
    refine C.bipush (v := 20) dX11_clientOnTape_71 (by decide) ?_
    refine C.callVD0 [.int 20] dX11_clientOnTape_73 mdX9_isVisible imX9_isVisible seX9_isVisible kc_10 (m_q6 _ _ p_q5) lk_X11_390 rfl rfl rfl rfl (cCt.w0 (R := fun r => r = some (.int (bI (decide (1 ≤ ((B 0).take (idL (B 0))).length ∧ ((B 0).take (idL (B 0))).length ≤ 20) && ((B 0).take (idL (B 0))).all visb)))) fun σ9 h9 => v_isVisible (t5.mono h9.2.1) (m := 20) (by decide)) ?_
    rintro _ G9 D9 ⟨rfl, e9, e8⟩
    have e9 := e9.symm; subst e9; have e8 := e8.symm; subst e8
    refine C.if_eq (tgt := 93) dX11_clientOnTape_76 (by decide) (fun c_76 => ?_) (fun c_76 => ?_)
    · skip
      refine C.aconst_null dX11_clientOnTape_93 ?_
      refine C.aret (r := none) dX11_clientOnTape_94 rfl (by first | exact Or.inl ⟨_, rfl⟩ | exact Or.inr ⟨_, rfl⟩) ?_
      exact ⟨rfl, md, Or.inl ⟨by rw [gdC_t, (bI_eq0 _).mp c_76, Bool.false_and], rfl⟩⟩
    · skip
      refine C.iload_n dX11_clientOnTape_79 rfl ?_
      refine C.if_eq (tgt := 95) dX11_clientOnTape_80 (by decide) (fun c_80 => absurd c_80 (by decide)) (fun c_80 => ?_)
      refine C.aloadR dX11_clientOnTape_83 rfl ?_
      refine C.bipush (v := 20) dX11_clientOnTape_85 (by decide) ?_
      refine C.callVD0 [.int 20] dX11_clientOnTape_87 mdX9_isVisible imX9_isVisible seX9_isVisible kc_10 p_q6 lk_X11_390 rfl rfl rfl rfl (cCt.w0 (R := fun r => r = some (.int (bI (decide (1 ≤ ((B 0).drop (idL (B 0) + 1)).length ∧ ((B 0).drop (idL (B 0) + 1)).length ≤ 20) && ((B 0).drop (idL (B 0) + 1)).all visb)))) fun σ9 h9 => v_isVisible (t_q6.mono h9.2.1) (m := 20) (by decide)) ?_
      rintro _ G9 D9 ⟨rfl, e9, e8⟩
      have e9 := e9.symm; subst e9; have e8 := e8.symm; subst e8
      refine C.if_ne (tgt := 95) dX11_clientOnTape_90 (by decide) (fun c_90 => ?_) (fun c_90 => ?_)
      · skip
        have hgd : gdC (B 0) true = true := by rw [gdC_t, bt1 c_76, bt1 c_90]; rfl
        refine C.less (bc' := 1 + 1) (bs' := (((2020 - ((idL (B 0)) + 3)) - ((B 0).length - idL (B 0) - 1 + 3)) - 6) + 6) (by omega) (by omega) ?_
        refine C.new dX11_clientOnTape_95 nw_X11_141 (fun q_1 hb_2 hl_3 => ?_)
        have h_4 : (kup D3 q_1 (.inr (1, [.int 0, .null, .null, .int 0, .int 0, .null]))) q5 = some (.inr (10, [.ref r_q5, .int (nI b_q5), .int (nI ((B 0).take (idL (B 0))).length)])) := kup_i (Nat.ne_of_lt (hl_3 _ _ (m_q6 _ _ p_q5))) (m_q6 _ _ p_q5)
        have h_5 : (kup D3 q_1 (.inr (1, [.int 0, .null, .null, .int 0, .int 0, .null]))) q6 = some (.inr (10, [.ref r_q6, .int (nI b_q6), .int (nI ((B 0).drop (idL (B 0) + 1)).length)])) := kup_i (Nat.ne_of_lt (hl_3 _ _ p_q6)) p_q6
        have h_6 : (kup D3 q_1 (.inr (1, [.int 0, .null, .null, .int 0, .int 0, .null]))) q_1 = some (.inr (1, [.int 0, .null, .null, .int 0, .int 0, .null])) := kup_s _ _ _
        refine C.dup dX11_clientOnTape_98 rfl ?_
        refine C.aload_nR dX11_clientOnTape_99 rfl ?_
        refine C.getS (k9 := 0) (fs := [.ref (S 1), .ref (S 2), .ref (S 3), .ref (S 4), .ref (S 5), .ref (S 6), .ref (S 7), .ref (S 8), .ref (S 9), .ref (S 10), .ref (S 11), .ref (S 12), .int (N 26), .int (N 27), .int (N 28), .int (N 25), .int (N 5), .int (N 6)]) dX11_clientOnTape_100 fl_X11_49 rfl p_n rfl ?_
        refine C.callLS0 (k9 := 7) [] dX11_clientOnTape_103 mdJx4a65c_size_8abf5 imJx4a65c_size_8abf5 seJx4a65c_size_8abf5 rfl p_c.1 lk_X11_123 rfl rfl rfl rfl (cCt.w0 (R := fun r => r = some (.int (nI (rv (A 7)).length))) fun σ9 h9 => c_list_size (h9.at (k := 7) rfl p_c.1)) ?_
        rintro _ G9 D9 ⟨rfl, e9, e8⟩
        have e9 := e9.symm; subst e9; have e8 := e8.symm; subst e8
        refine C.aloadR dX11_clientOnTape_106 rfl ?_
        refine C.iload_n dX11_clientOnTape_108 rfl ?_
        refine C.if_eq (tgt := 117) dX11_clientOnTape_109 (by decide) (fun c_109 => absurd c_109 (by decide)) (fun c_109 => ?_)
        refine C.aloadR dX11_clientOnTape_112 rfl ?_
        refine C.goto (tgt := 118) dX11_clientOnTape_114 (by decide) ?_
        refine C.iload_n dX11_clientOnTape_118 rfl ?_
        refine C.iload_n dX11_clientOnTape_119 rfl ?_
        have hcn := cCt.nd (S := S) (G := G) h_6 fun σ9 h9 => c_Client_initR (nI (rv (A 7)).length) q5 q6 x rf (h9.2.1 _ _ h_6) hJ
        refine C.less (bc' := 0 + 1) (bs' := ((((2020 - ((idL (B 0)) + 3)) - ((B 0).length - idL (B 0) - 1 + 3)) - 6) - 3) + 3) (by omega) (by omega) ?_
        refine C.callI [.int (nI (rv (A 7)).length), .ref q5, .ref q6, .int x, .int (bI rf)] dX11_clientOnTape_120 mdX0_init ⟨rfl, rfl⟩ imX0_init lk_X11_408 rfl rfl rfl rfl hcn ?_
        rintro _ G9 _ ⟨q8, f_q8, rfl, e9, rfl⟩; have e9 := e9.symm; subst e9
        refine C.aret (r := some q_1) dX11_clientOnTape_123 rfl (by first | exact Or.inl ⟨_, rfl⟩ | exact Or.inr ⟨_, rfl⟩) ?_
        have hq8 : q_1 < q8 := f_q8 _ _ (kup_s _ _ _)
        have hnew : ∀ b c, D b = some c → b < q_1 := fun b c hb => hl_3 _ _ (md b c hb)
        have hd9 : ∀ b c, D3 b = some c → (kup (kup (kup D3 q_1 (.inr (1, [.int 0, .null, .null, .int 0, .int 0, .null]))) q8 (kLi [])) q_1 (oCl (nI (rv (A 7)).length) q5 (.ref q6) x rf q8)) b = some c := fun b c hb => by have h8 := hl_3 _ _ hb; exact kup_i (by omega) (kup_i (by omega) (kup_i (by omega) hb))
        refine ⟨rfl, fun b c hb => hd9 b c (md b c hb), Or.inr ⟨hgd, q_1, q8, q5, _, rfl, hnew, fun b c hb => Nat.lt_trans (hnew b c hb) hq8, ?_, t5.mono hd9, ⟨q6, rfl, t_q6.mono hd9⟩, kup_i (by omega) (kup_s _ _ _)⟩⟩
        · rw [kup_s, rv_len, p_c.2.1]
      · skip
        refine C.aconst_null dX11_clientOnTape_93 ?_
        refine C.aret (r := none) dX11_clientOnTape_94 rfl (by first | exact Or.inl ⟨_, rfl⟩ | exact Or.inr ⟨_, rfl⟩) ?_
        exact ⟨rfl, md, Or.inl ⟨by rw [gdC_t, (bI_eq0 _).mp c_90, Bool.and_false], rfl⟩⟩
  · skip
    have heq : idL (B 0) = (B 0).length := by have := idL_le (B 0); omega
    rw [show nI (B 0).length - nI (idL (B 0)) - 1 = (-1 : Int32) from by rw [heq, Int32.sub_self]; rfl]
    rw [show nI (idL (B 0) + 1) = nI ((B 0).length + 1) from by rw [heq]]
    have hct := k_copyNeg (Λ := Λ) (D := D2) (fun σ9 h9 => ((show tO S G 1 13 2000 (B 0) from p_a).s.tx h9 rfl rfl)) (by omega)
    rw [show ([] : List Int32) = (B 0).drop (idL (B 0) + 1) from (List.drop_of_length_le (by omega)).symm] at hct
    refine C.less (bc' := 2 + 2) (bs' := ((2020 - ((idL (B 0)) + 3)) - 3) + 3) (by omega) (by omega) ?_
    refine C.callVS (k9 := 1) [.int (nI ((B 0).length + 1)), .int (-1)] dX11_clientOnTape_64 mdX9_copyOfPart imX9_copyOfPart seX9_copyOfPart kc_10 rfl a1 lk_X11_105 rfl rfl rfl rfl hct ?_
    rintro _ G9 D3 ⟨q6, f_q6, rfl, e9, m_q6, t_q6⟩; have e9 := e9.symm; subst e9
    have o_q6 := t_q6; obtain ⟨r_q6, b_q6, c_q6, g_q6, p_q6, _⟩ := o_q6
    have t5 := t_q5.mono m_q6
    have md : dm D D3 := m_q5.tr m_q6
    refine C.astore (L' := [some (.ref (S 0)), some (.int 1), some (.int x), some (.int (bI rf)), some (.int (nI (idL (B 0)))), some (.ref q5), some (.ref q6)]) dX11_clientOnTape_67 (by decide) rfl rfl ?_
    refine C.aloadR dX11_clientOnTape_69 rfl ?_
    refine C.bipush (v := 20) dX11_clientOnTape_71 (by decide) ?_
    refine C.callVD0 [.int 20] dX11_clientOnTape_73 mdX9_isVisible imX9_isVisible seX9_isVisible kc_10 (m_q6 _ _ p_q5) lk_X11_390 rfl rfl rfl rfl (cCt.w0 (R := fun r => r = some (.int (bI (decide (1 ≤ ((B 0).take (idL (B 0))).length ∧ ((B 0).take (idL (B 0))).length ≤ 20) && ((B 0).take (idL (B 0))).all visb)))) fun σ9 h9 => v_isVisible (t5.mono h9.2.1) (m := 20) (by decide)) ?_
    rintro _ G9 D9 ⟨rfl, e9, e8⟩
    have e9 := e9.symm; subst e9; have e8 := e8.symm; subst e8
    refine C.if_eq (tgt := 93) dX11_clientOnTape_76 (by decide) (fun c_76 => ?_) (fun c_76 => ?_)
    · skip
      refine C.aconst_null dX11_clientOnTape_93 ?_
      refine C.aret (r := none) dX11_clientOnTape_94 rfl (by first | exact Or.inl ⟨_, rfl⟩ | exact Or.inr ⟨_, rfl⟩) ?_
      exact ⟨rfl, md, Or.inl ⟨by rw [gdC_t, (bI_eq0 _).mp c_76, Bool.false_and], rfl⟩⟩
    · skip
      refine C.iload_n dX11_clientOnTape_79 rfl ?_
      refine C.if_eq (tgt := 95) dX11_clientOnTape_80 (by decide) (fun c_80 => absurd c_80 (by decide)) (fun c_80 => ?_)
      refine C.aloadR dX11_clientOnTape_83 rfl ?_
      refine C.bipush (v := 20) dX11_clientOnTape_85 (by decide) ?_
      refine C.callVD0 [.int 20] dX11_clientOnTape_87 mdX9_isVisible imX9_isVisible seX9_isVisible kc_10 p_q6 lk_X11_390 rfl rfl rfl rfl (cCt.w0 (R := fun r => r = some (.int (bI (decide (1 ≤ ((B 0).drop (idL (B 0) + 1)).length ∧ ((B 0).drop (idL (B 0) + 1)).length ≤ 20) && ((B 0).drop (idL (B 0) + 1)).all visb)))) fun σ9 h9 => v_isVisible (t_q6.mono h9.2.1) (m := 20) (by decide)) ?_
      rintro _ G9 D9 ⟨rfl, e9, e8⟩
      have e9 := e9.symm; subst e9; have e8 := e8.symm; subst e8
      refine C.if_ne (tgt := 95) dX11_clientOnTape_90 (by decide) (fun c_90 => ?_) (fun c_90 => ?_)
      · skip
        have hgd : gdC (B 0) true = true := by rw [gdC_t, bt1 c_76, bt1 c_90]; rfl
        refine C.less (bc' := 1 + 1) (bs' := (((2020 - ((idL (B 0)) + 3)) - 3) - 6) + 6) (by omega) (by omega) ?_
        refine C.new dX11_clientOnTape_95 nw_X11_141 (fun q_7 hb_8 hl_9 => ?_)
        have h_10 : (kup D3 q_7 (.inr (1, [.int 0, .null, .null, .int 0, .int 0, .null]))) q5 = some (.inr (10, [.ref r_q5, .int (nI b_q5), .int (nI ((B 0).take (idL (B 0))).length)])) := kup_i (Nat.ne_of_lt (hl_9 _ _ (m_q6 _ _ p_q5))) (m_q6 _ _ p_q5)
        have h_11 : (kup D3 q_7 (.inr (1, [.int 0, .null, .null, .int 0, .int 0, .null]))) q6 = some (.inr (10, [.ref r_q6, .int (nI b_q6), .int (nI ((B 0).drop (idL (B 0) + 1)).length)])) := kup_i (Nat.ne_of_lt (hl_9 _ _ p_q6)) p_q6
        have h_12 : (kup D3 q_7 (.inr (1, [.int 0, .null, .null, .int 0, .int 0, .null]))) q_7 = some (.inr (1, [.int 0, .null, .null, .int 0, .int 0, .null])) := kup_s _ _ _
        refine C.dup dX11_clientOnTape_98 rfl ?_
        refine C.aload_nR dX11_clientOnTape_99 rfl ?_
        refine C.getS (k9 := 0) (fs := [.ref (S 1), .ref (S 2), .ref (S 3), .ref (S 4), .ref (S 5), .ref (S 6), .ref (S 7), .ref (S 8), .ref (S 9), .ref (S 10), .ref (S 11), .ref (S 12), .int (N 26), .int (N 27), .int (N 28), .int (N 25), .int (N 5), .int (N 6)]) dX11_clientOnTape_100 fl_X11_49 rfl p_n rfl ?_
        refine C.callLS0 (k9 := 7) [] dX11_clientOnTape_103 mdJx4a65c_size_8abf5 imJx4a65c_size_8abf5 seJx4a65c_size_8abf5 rfl p_c.1 lk_X11_123 rfl rfl rfl rfl (cCt.w0 (R := fun r => r = some (.int (nI (rv (A 7)).length))) fun σ9 h9 => c_list_size (h9.at (k := 7) rfl p_c.1)) ?_
        rintro _ G9 D9 ⟨rfl, e9, e8⟩
        have e9 := e9.symm; subst e9; have e8 := e8.symm; subst e8
        refine C.aloadR dX11_clientOnTape_106 rfl ?_
        refine C.iload_n dX11_clientOnTape_108 rfl ?_
        refine C.if_eq (tgt := 117) dX11_clientOnTape_109 (by decide) (fun c_109 => absurd c_109 (by decide)) (fun c_109 => ?_)
        refine C.aloadR dX11_clientOnTape_112 rfl ?_
        refine C.goto (tgt := 118) dX11_clientOnTape_114 (by decide) ?_
        refine C.iload_n dX11_clientOnTape_118 rfl ?_
        refine C.iload_n dX11_clientOnTape_119 rfl ?_
        have hcn := cCt.nd (S := S) (G := G) h_12 fun σ9 h9 => c_Client_initR (nI (rv (A 7)).length) q5 q6 x rf (h9.2.1 _ _ h_12) hJ
        refine C.less (bc' := 0 + 1) (bs' := ((((2020 - ((idL (B 0)) + 3)) - 3) - 6) - 3) + 3) (by omega) (by omega) ?_
        refine C.callI [.int (nI (rv (A 7)).length), .ref q5, .ref q6, .int x, .int (bI rf)] dX11_clientOnTape_120 mdX0_init ⟨rfl, rfl⟩ imX0_init lk_X11_408 rfl rfl rfl rfl hcn ?_
        rintro _ G9 _ ⟨q8, f_q8, rfl, e9, rfl⟩; have e9 := e9.symm; subst e9
        refine C.aret (r := some q_7) dX11_clientOnTape_123 rfl (by first | exact Or.inl ⟨_, rfl⟩ | exact Or.inr ⟨_, rfl⟩) ?_
        have hq8 : q_7 < q8 := f_q8 _ _ (kup_s _ _ _)
        have hnew : ∀ b c, D b = some c → b < q_7 := fun b c hb => hl_9 _ _ (md b c hb)
        have hd9 : ∀ b c, D3 b = some c → (kup (kup (kup D3 q_7 (.inr (1, [.int 0, .null, .null, .int 0, .int 0, .null]))) q8 (kLi [])) q_7 (oCl (nI (rv (A 7)).length) q5 (.ref q6) x rf q8)) b = some c := fun b c hb => by have h8 := hl_9 _ _ hb; exact kup_i (by omega) (kup_i (by omega) (kup_i (by omega) hb))
        refine ⟨rfl, fun b c hb => hd9 b c (md b c hb), Or.inr ⟨hgd, q_7, q8, q5, _, rfl, hnew, fun b c hb => Nat.lt_trans (hnew b c hb) hq8, ?_, t5.mono hd9, ⟨q6, rfl, t_q6.mono hd9⟩, kup_i (by omega) (kup_s _ _ _)⟩⟩
        · rw [kup_s, rv_len, p_c.2.1]
      · skip
        refine C.aconst_null dX11_clientOnTape_93 ?_
        refine C.aret (r := none) dX11_clientOnTape_94 rfl (by first | exact Or.inl ⟨_, rfl⟩ | exact Or.inr ⟨_, rfl⟩) ?_
        exact ⟨rfl, md, Or.inl ⟨by rw [gdC_t, (bI_eq0 _).mp c_90, Bool.and_false], rfl⟩⟩

theorem k_cot_F {Λ : kL} {S : Nat → Nat} {G : Nat → kc} {D : kh} (hS : cInj S) {A L : Nat → List Nat} {N : Nat → Int32} {B : Nat → List Int32} {T R : Nat → List (List Int32)} (hR : cR Λ S G D A L N B T R) (hW : wf N B T R) (hJ : kJd Λ) (x : Int32) (rf : Bool) : cCt Λ mX11_clientOnTape 6 2020 S [.ref (S 0), .int 0, .int x, .int (bI rf)] G D (cotQ S G D (B 0) (T 3).length false x rf) := by
  refine cCt.of hS pn_X11 [some (.ref (S 0)), some (.int 0), some (.int x), some (.int (bI rf)), none, none, none] rfl (Nat.le_of_ble_eq_true rfl) fun X => ?_
  obtain ⟨p_a, p_b, p_n, p_k, p_f, p_h, p_w, p_c, p_r, p_q, p_o, p_m, p_t, p_d⟩ := hR
  obtain ⟨w_a, w_n, w_w, w_c, w_r, w_x, w_q, w_k, w_f, w_t, w_m, w_l⟩ := hW
  have p_a9 := p_a; obtain ⟨ft, a1, a2, a3, a4, a5, a6⟩ := p_a9
  have p_b9 := p_b; obtain ⟨fo9, b1, b2, b3, b4, b5, b6⟩ := p_b9
  have hid := idL_le (B 0)
  refine C.iload_n dX11_clientOnTape_0 rfl ?_
  refine C.if_eq (tgt := 23) dX11_clientOnTape_1 (by decide) (fun c_1 => ?_) (fun c_1 => absurd rfl c_1)
  refine C.aload_nR dX11_clientOnTape_23 rfl ?_
  refine C.getS (k9 := 0) (fs := [.ref (S 1), .ref (S 2), .ref (S 3), .ref (S 4), .ref (S 5), .ref (S 6), .ref (S 7), .ref (S 8), .ref (S 9), .ref (S 10), .ref (S 11), .ref (S 12), .int (N 26), .int (N 27), .int (N 28), .int (N 25), .int (N 5), .int (N 6)]) dX11_clientOnTape_24 fl_X11_14 rfl p_n rfl ?_
  refine C.callVS0 (k9 := 1) [] dX11_clientOnTape_27 mdX9_size imX9_size seX9_size kc_10 rfl a1 lk_X11_86 rfl rfl rfl rfl (cCt.w0 (R := fun r => r = some (.int (nI (B 0).length))) fun σ9 h9 => v_size ((show tO S G 1 13 2000 (B 0) from p_a).s.tx h9 rfl rfl)) ?_
  rintro _ G9 D9 ⟨rfl, e9, e8⟩
  have e9 := e9.symm; subst e9; have e8 := e8.symm; subst e8
  refine C.istore (L' := [some (.ref (S 0)), some (.int 0), some (.int x), some (.int (bI rf)), some (.int (nI (B 0).length)), none, none]) dX11_clientOnTape_30 (by decide) rfl rfl ?_
  refine C.aload_nR dX11_clientOnTape_32 rfl ?_
  refine C.getS (k9 := 0) (fs := [.ref (S 1), .ref (S 2), .ref (S 3), .ref (S 4), .ref (S 5), .ref (S 6), .ref (S 7), .ref (S 8), .ref (S 9), .ref (S 10), .ref (S 11), .ref (S 12), .int (N 26), .int (N 27), .int (N 28), .int (N 25), .int (N 5), .int (N 6)]) dX11_clientOnTape_33 fl_X11_14 rfl p_n rfl ?_
  refine C.iconst (v := 0) dX11_clientOnTape_36 (by decide) ?_
  refine C.iload dX11_clientOnTape_37 rfl ?_
  have hct := k_copyOf (Λ := Λ) (D := D) (fun σ9 h9 => ((show tO S G 1 13 2000 (B 0) from p_a).s.tx h9 rfl rfl)) a6 (by omega) (g := 0) (m := (B 0).length) (by omega)
  rw [List.drop_zero] at hct
  refine C.less (bc' := 4 + 2) (bs' := (2020 - ((B 0).length + 3)) + ((B 0).length + 3)) (by omega) (by omega) ?_
  refine C.callVS (k9 := 1) [.int 0, .int (nI (B 0).length)] dX11_clientOnTape_39 mdX9_copyOfPart imX9_copyOfPart seX9_copyOfPart kc_10 rfl a1 lk_X11_105 rfl rfl rfl rfl hct ?_
  rintro _ G9 D2 ⟨q5, f_q5, rfl, e9, m_q5, t_q5⟩; have e9 := e9.symm; subst e9
  have o_q5 := t_q5; obtain ⟨r_q5, b_q5, c_q5, g_q5, p_q5, _⟩ := o_q5
  refine C.astore (L' := [some (.ref (S 0)), some (.int 0), some (.int x), some (.int (bI rf)), some (.int (nI (B 0).length)), some (.ref q5), none]) dX11_clientOnTape_42 (by decide) rfl rfl ?_
  refine C.aload_nR dX11_clientOnTape_44 rfl ?_
  refine C.getS (k9 := 0) (fs := [.ref (S 1), .ref (S 2), .ref (S 3), .ref (S 4), .ref (S 5), .ref (S 6), .ref (S 7), .ref (S 8), .ref (S 9), .ref (S 10), .ref (S 11), .ref (S 12), .int (N 26), .int (N 27), .int (N 28), .int (N 25), .int (N 5), .int (N 6)]) dX11_clientOnTape_45 fl_X11_14 rfl p_n rfl ?_
  refine C.iload dX11_clientOnTape_48 rfl ?_
  refine C.iconst (v := 1) dX11_clientOnTape_50 (by decide) ?_
  refine C.iadd dX11_clientOnTape_51 ?_
  rw [show (nI (B 0).length) + 1 = nI ((B 0).length + 1) from nI_1 ((B 0).length)]
  refine C.aload_nR dX11_clientOnTape_52 rfl ?_
  refine C.getS (k9 := 0) (fs := [.ref (S 1), .ref (S 2), .ref (S 3), .ref (S 4), .ref (S 5), .ref (S 6), .ref (S 7), .ref (S 8), .ref (S 9), .ref (S 10), .ref (S 11), .ref (S 12), .int (N 26), .int (N 27), .int (N 28), .int (N 25), .int (N 5), .int (N 6)]) dX11_clientOnTape_53 fl_X11_14 rfl p_n rfl ?_
  refine C.callVS0 (k9 := 1) [] dX11_clientOnTape_56 mdX9_size imX9_size seX9_size kc_10 rfl a1 lk_X11_86 rfl rfl rfl rfl (cCt.w0 (R := fun r => r = some (.int (nI (B 0).length))) fun σ9 h9 => v_size ((show tO S G 1 13 2000 (B 0) from p_a).s.tx h9 rfl rfl)) ?_
  rintro _ G9 D9 ⟨rfl, e9, e8⟩
  have e9 := e9.symm; subst e9; have e8 := e8.symm; subst e8
  refine C.iload dX11_clientOnTape_59 rfl ?_
  refine C.isub dX11_clientOnTape_61 ?_
  refine C.iconst (v := 1) dX11_clientOnTape_62 (by decide) ?_
  refine C.isub dX11_clientOnTape_63 ?_
  rw [show nI (B 0).length - nI (B 0).length - 1 = (-1 : Int32) from by rw [Int32.sub_self]; rfl]
  have hct := k_copyNeg (Λ := Λ) (D := D2) (fun σ9 h9 => ((show tO S G 1 13 2000 (B 0) from p_a).s.tx h9 rfl rfl)) (by omega)
  refine C.less (bc' := 2 + 2) (bs' := ((2020 - ((B 0).length + 3)) - 3) + 3) (by omega) (by omega) ?_
  refine C.callVS (k9 := 1) [.int (nI ((B 0).length + 1)), .int (-1)] dX11_clientOnTape_64 mdX9_copyOfPart imX9_copyOfPart seX9_copyOfPart kc_10 rfl a1 lk_X11_105 rfl rfl rfl rfl hct ?_
  rintro _ G9 D3 ⟨q6, f_q6, rfl, e9, m_q6, t_q6⟩; have e9 := e9.symm; subst e9
  have o_q6 := t_q6; obtain ⟨r_q6, b_q6, c_q6, g_q6, p_q6, _⟩ := o_q6
  have t5 := t_q5.mono m_q6
  have md : dm D D3 := m_q5.tr m_q6
  refine C.astore (L' := [some (.ref (S 0)), some (.int 0), some (.int x), some (.int (bI rf)), some (.int (nI (B 0).length)), some (.ref q5), some (.ref q6)]) dX11_clientOnTape_67 (by decide) rfl rfl ?_
  refine C.aloadR dX11_clientOnTape_69 rfl ?_
  refine C.bipush (v := 20) dX11_clientOnTape_71 (by decide) ?_
  refine C.callVD0 [.int 20] dX11_clientOnTape_73 mdX9_isVisible imX9_isVisible seX9_isVisible kc_10 (m_q6 _ _ p_q5) lk_X11_390 rfl rfl rfl rfl (cCt.w0 (R := fun r => r = some (.int (bI (decide (1 ≤ ((B 0).take (B 0).length).length ∧ ((B 0).take (B 0).length).length ≤ 20) && ((B 0).take (B 0).length).all visb)))) fun σ9 h9 => v_isVisible (t5.mono h9.2.1) (m := 20) (by decide)) ?_
  rintro _ G9 D9 ⟨rfl, e9, e8⟩
  have e9 := e9.symm; subst e9; have e8 := e8.symm; subst e8
  refine C.if_eq (tgt := 93) dX11_clientOnTape_76 (by decide) (fun c_76 => ?_) (fun c_76 => ?_)
  · skip
    refine C.aconst_null dX11_clientOnTape_93 ?_
    refine C.aret (r := none) dX11_clientOnTape_94 rfl (by first | exact Or.inl ⟨_, rfl⟩ | exact Or.inr ⟨_, rfl⟩) ?_
    exact ⟨rfl, md, Or.inl ⟨by rw [List.take_length] at c_76; rw [gdC_f, (bI_eq0 _).mp c_76], rfl⟩⟩
  · skip
    have hgd : gdC (B 0) false = true := by rw [List.take_length] at c_76; rw [gdC_f, bt1 c_76]
    refine C.iload_n dX11_clientOnTape_79 rfl ?_
    refine C.if_eq (tgt := 95) dX11_clientOnTape_80 (by decide) (fun c_80 => ?_) (fun c_80 => absurd rfl c_80)
    refine C.less (bc' := 1 + 1) (bs' := (((2020 - ((B 0).length + 3)) - 3) - 6) + 6) (by omega) (by omega) ?_
    refine C.new dX11_clientOnTape_95 nw_X11_141 (fun q_1 hb_2 hl_3 => ?_)
    have h_4 : (kup D3 q_1 (.inr (1, [.int 0, .null, .null, .int 0, .int 0, .null]))) q5 = some (.inr (10, [.ref r_q5, .int (nI b_q5), .int (nI ((B 0).take (B 0).length).length)])) := kup_i (Nat.ne_of_lt (hl_3 _ _ (m_q6 _ _ p_q5))) (m_q6 _ _ p_q5)
    have h_5 : (kup D3 q_1 (.inr (1, [.int 0, .null, .null, .int 0, .int 0, .null]))) q6 = some (.inr (10, [.ref r_q6, .int (nI b_q6), .int (nI [].length)])) := kup_i (Nat.ne_of_lt (hl_3 _ _ p_q6)) p_q6
    have h_6 : (kup D3 q_1 (.inr (1, [.int 0, .null, .null, .int 0, .int 0, .null]))) q_1 = some (.inr (1, [.int 0, .null, .null, .int 0, .int 0, .null])) := kup_s _ _ _
    refine C.dup dX11_clientOnTape_98 rfl ?_
    refine C.aload_nR dX11_clientOnTape_99 rfl ?_
    refine C.getS (k9 := 0) (fs := [.ref (S 1), .ref (S 2), .ref (S 3), .ref (S 4), .ref (S 5), .ref (S 6), .ref (S 7), .ref (S 8), .ref (S 9), .ref (S 10), .ref (S 11), .ref (S 12), .int (N 26), .int (N 27), .int (N 28), .int (N 25), .int (N 5), .int (N 6)]) dX11_clientOnTape_100 fl_X11_49 rfl p_n rfl ?_
    refine C.callLS0 (k9 := 7) [] dX11_clientOnTape_103 mdJx4a65c_size_8abf5 imJx4a65c_size_8abf5 seJx4a65c_size_8abf5 rfl p_c.1 lk_X11_123 rfl rfl rfl rfl (cCt.w0 (R := fun r => r = some (.int (nI (rv (A 7)).length))) fun σ9 h9 => c_list_size (h9.at (k := 7) rfl p_c.1)) ?_
    rintro _ G9 D9 ⟨rfl, e9, e8⟩
    have e9 := e9.symm; subst e9; have e8 := e8.symm; subst e8
    refine C.aloadR dX11_clientOnTape_106 rfl ?_
    refine C.iload_n dX11_clientOnTape_108 rfl ?_
    refine C.if_eq (tgt := 117) dX11_clientOnTape_109 (by decide) (fun c_109 => ?_) (fun c_109 => absurd rfl c_109)
    refine C.aconst_null dX11_clientOnTape_117 ?_
    refine C.iload_n dX11_clientOnTape_118 rfl ?_
    refine C.iload_n dX11_clientOnTape_119 rfl ?_
    have hcn := cCt.nd (S := S) (G := G) h_6 fun σ9 h9 => c_Client_initN (nI (rv (A 7)).length) q5 x rf (h9.2.1 _ _ h_6) hJ
    refine C.less (bc' := 0 + 1) (bs' := ((((2020 - ((B 0).length + 3)) - 3) - 6) - 3) + 3) (by omega) (by omega) ?_
    refine C.callI [.int (nI (rv (A 7)).length), .ref q5, .null, .int x, .int (bI rf)] dX11_clientOnTape_120 mdX0_init ⟨rfl, rfl⟩ imX0_init lk_X11_408 rfl rfl rfl rfl hcn ?_
    rintro _ G9 _ ⟨q8, f_q8, rfl, e9, rfl⟩; have e9 := e9.symm; subst e9
    refine C.aret (r := some q_1) dX11_clientOnTape_123 rfl (by first | exact Or.inl ⟨_, rfl⟩ | exact Or.inr ⟨_, rfl⟩) ?_
    have hq8 : q_1 < q8 := f_q8 _ _ (kup_s _ _ _)
    have hnew : ∀ b c, D b = some c → b < q_1 := fun b c hb => hl_3 _ _ (md b c hb)
    have hd9 : ∀ b c, D3 b = some c → (kup (kup (kup D3 q_1 (.inr (1, [.int 0, .null, .null, .int 0, .int 0, .null]))) q8 (kLi [])) q_1 (oCl (nI (rv (A 7)).length) q5 (.null) x rf q8)) b = some c := fun b c hb => by have h8 := hl_3 _ _ hb; exact kup_i (by omega) (kup_i (by omega) (kup_i (by omega) hb))
    refine ⟨rfl, fun b c hb => hd9 b c (md b c hb), Or.inr ⟨hgd, q_1, q8, q5, _, rfl, hnew, fun b c hb => Nat.lt_trans (hnew b c hb) hq8, ?_, ?_, rfl, kup_i (by omega) (kup_s _ _ _)⟩⟩
    · rw [kup_s, rv_len, p_c.2.1]
    · rw [gdC_id hgd]; exact t5.mono hd9
