/-! the class: which HANDLES can be made -/
theorem take_s {W : List (List Int32)} {i : Nat} (h : i < W.length) : W.take (i + 1) = W.take i ++ [W.getD i []] := by
  rw [List.take_add_one, List.getElem?_eq_getElem h, List.getD_eq_getElem?_getD, List.getElem?_eq_getElem h]
  rfl
theorem four_eq {f g : Nat → Int32} {d e : List Int32} (h1 : tl f 0 4 = d) (h2 : tl g 0 4 = e) : decide (f 0 = g 0 ∧ f 1 = g 1 ∧ f 2 = g 2 ∧ f 3 = g 3) = decide (d = e) := by
  rw [← h1, ← h2]
  by_cases q : tl f 0 4 = tl g 0 4
  · rw [decide_eq_true q]
    have h := tl_eq.mp q
    refine decide_eq_true ⟨?_, ?_, ?_, ?_⟩
    · exact h 0 (by decide)
    · exact h 1 (by decide)
    · exact h 2 (by decide)
    · exact h 3 (by decide)
  · rw [decide_eq_false q]
    refine decide_eq_false fun ⟨a, b, c, d⟩ => q (tl_eq.mpr fun i hi => ?_)
    rcases (show i = 0 ∨ i = 1 ∨ i = 2 ∨ i = 3 by omega) with rfl | rfl | rfl | rfl
    · exact a
    · exact b
    · exact c
    · exact d
/-- whether so many new numbers wait -/
def cm (U W : List (List Int32)) : Nat → Bool
  | 0 => true
  | 1 => (tk1 U W).isSome
  | _ => match tk1 U W with
    | none => false
    | some (d, W1) => (tk1 (U ++ [d]) W1).isSome
/-- the number of what a HANDLE stands for -/
def fnH (M U : List (List Int32)) (kd : Int32) (v : List Int32) : Nat := fsti (fun i => decide (ro M i 0 = kd) && decide (b64 (U.getD i []) 22 = v)) U.length 0
theorem drop_i {W : List (List Int32)} {i : Nat} (h : W.length ≤ i) : W.drop i = [] := List.drop_eq_nil_of_le h

theorem k_isAhead_45 {Λ : kL} {S : Nat → Nat} {G : Nat → kc} {D : kh} (hS : cInj S) {a : Nat} {d : List Int32} {kd k : Int32} (hA : hd1 D a d kd k) {l : List Nat} (hG : G 45 = kLi (rv l)) {T : List (List Int32)} (hl : l.length = T.length) (hlm : T.length ≤ 1000) (hE : ∀ n, n < T.length → ∃ kd k, hd1 D (l.getD n 0) (T.getD n []) kd k) {e : Nat} (he : e ≤ T.length) : cCt Λ mX6_isAhead 0 0 S [.ref a, .ref (S 45), .int (nI e)] G D (fun r G' D' => r = some (.int (bI (decide (d ∈ T.take e)))) ∧ G' = G ∧ D' = D) := by
  refine cCt.of hS pn_X6 [some (.ref a), some (.ref (S 45)), some (.int (nI e)), none] rfl (Nat.le_of_ble_eq_true rfl) fun X => ?_
  obtain ⟨ns, sg, g9, x1, x2, x3, x4⟩ := hA
  have hrl := rv_len l
  refine C.iconst (v := 0) dX6_isAhead_0 (by decide) ?_
  refine C.istore_n (L' := [some (.ref a), some (.ref (S 45)), some (.int (nI e)), some (.int 0)]) dX6_isAhead_1 (by decide) rfl rfl ?_
  have cut_2 : ∀ (k_2 : Nat) (i : Nat), (i ≤ e) → (e + 1 ≤ i + k_2) → (¬ d ∈ T.take i) → C Λ X mX6_isAhead 0 0 S (fun r G' D' => r = some (.int (bI (decide (d ∈ T.take e)))) ∧ G' = G ∧ D' = D) 0 0 G D 2 [some (.ref a), some (.ref (S 45)), some (.int (nI e)), some (.int (nI i))] [] := by
    intro k_2
    induction k_2 with
    | zero => intro i h1 h2 hni; exact absurd h2 (by omega)
    | succ k_2 ih_2 =>
      intro i h1 h2 hni
      refine C.iload_n dX6_isAhead_2 rfl ?_
      refine C.iload_n dX6_isAhead_3 rfl ?_
      refine C.icmp_ge (tgt := 38) dX6_isAhead_4 (by decide) (fun c_4 => ?_) (fun c_4 => ?_)
      · skip
        have ei := nI_gen c_4 h1 (by omega); subst ei
        refine C.iconst (v := 0) dX6_isAhead_38 (by decide) ?_
        refine C.zret dX6_isAhead_39 rfl rfl ?_
        refine ⟨congrArg (fun z => some (Value.int z)) ?_, rfl, rfl⟩
        rw [decide_eq_false hni]; rfl
      · skip
        have lt_i : i < e := nI_ltn c_4 (by omega) (by omega)
        have hiT : i < T.length := by omega
        obtain ⟨kd9, k9, ns2, sg2, g2, y1, y2, y3, y4⟩ := hE i hiT
        refine C.iload_n dX6_isAhead_7 rfl ?_
        refine C.aload_nR dX6_isAhead_8 rfl ?_
        refine C.callLS0 (k9 := 45) [] dX6_isAhead_9 mdJx4a65c_size_8abf5 imJx4a65c_size_8abf5 seJx4a65c_size_8abf5 rfl hG lk_X6_21 rfl rfl rfl rfl (cCt.w0 (R := fun r => r = some (.int (nI (rv l).length))) fun σ9 h9 => c_list_size (h9.at (k := 45) rfl hG)) ?_
        rintro _ G9 D9 ⟨rfl, e9, e8⟩
        have e9 := e9.symm; subst e9; have e8 := e8.symm; subst e8
        refine C.icmp_ge (tgt := 38) dX6_isAhead_12 (by decide) (fun c_12 => absurd c_12 (by rw [rv_len]; exact nI_ge (by omega) (by omega))) (fun c_12 => ?_)
        refine C.aload_nR dX6_isAhead_15 rfl ?_
        refine C.aload_nR dX6_isAhead_16 rfl ?_
        refine C.iload_n dX6_isAhead_17 rfl ?_
        refine C.callLS0 (k9 := 45) [.int (nI i)] dX6_isAhead_18 mdJx4a65c_get_915e3 imJx4a65c_get_915e3 seJx4a65c_get_915e3 rfl hG lk_X6_34 rfl rfl rfl rfl (cCt.w0 (R := fun r => r = some (.ref (l.getD i 0))) fun σ9 h9 => c_list_get (h9.at (k := 45) rfl hG) (rv_at (by omega))) ?_
        rintro _ G9 D9 ⟨rfl, e9, e8⟩
        have e9 := e9.symm; subst e9; have e8 := e8.symm; subst e8
        refine C.castD dX6_isAhead_21 cl_X6_25 cs_6 kc_6 y1 ?_
        have hct9 := fun (σ9 : kh) (h9 : cHas σ9 S G D) => c_Handle_isOf (Λ := Λ) (h9.2.1 _ _ x1) (h9.2.1 _ _ y1) (h9.2.1 _ _ x2) (h9.2.1 _ _ y2)
        rw [four_eq x3 y3] at hct9
        refine C.callVD0 [.ref (l.getD i 0)] dX6_isAhead_24 mdX5_isOf imX5_isOf seX5_isOf kc_6 x1 lk_X6_42 rfl rfl rfl rfl (cCt.w0 (R := fun r => r = some (.int (bI (decide (d = T.getD i []))))) fun σ9 h9 => hct9 σ9 h9) ?_
        rintro _ G9 D9 ⟨rfl, e9, e8⟩
        have e9 := e9.symm; subst e9; have e8 := e8.symm; subst e8
        refine C.if_eq (tgt := 32) dX6_isAhead_27 (by decide) (fun c_27 => ?_) (fun c_27 => ?_)
        · skip
          refine C.iinc (v := nI (i + 1)) (L' := [some (.ref a), some (.ref (S 45)), some (.int (nI e)), some (.int (nI (i + 1)))]) dX6_isAhead_32 rfl (nI_1 i) (by decide) rfl rfl ?_
          refine C.goto (tgt := 2) dX6_isAhead_35 (by decide) ?_
          exact ih_2 (i + 1) (by omega) (by omega) (by rw [take_s (by omega)]; exact fun q => (List.mem_append.mp q).elim hni (fun z => of_decide_eq_false ((bI_eq0 _).mp c_27) (List.mem_singleton.mp z)))
        · skip
          refine C.iconst (v := 1) dX6_isAhead_30 (by decide) ?_
          refine C.zret dX6_isAhead_31 rfl rfl ?_
          refine ⟨congrArg (fun z => some (Value.int z)) ?_, rfl, rfl⟩
          rw [decide_eq_true (show d ∈ T.take e from List.mem_of_mem_take (show d ∈ (T.take e).take (i + 1) by rw [List.take_take, Nat.min_eq_left (by omega), take_s hiT]; exact List.mem_append.mpr (Or.inr (List.mem_singleton.mpr (of_decide_eq_true (bt1 c_27))))))]; rfl
  exact cut_2 (e + 1) 0 (by omega) (by omega) (by rw [List.take_zero]; exact List.not_mem_nil)

theorem k_isAhead_46 {Λ : kL} {S : Nat → Nat} {G : Nat → kc} {D : kh} (hS : cInj S) {a : Nat} {d : List Int32} {kd k : Int32} (hA : hd1 D a d kd k) {l : List Nat} (hG : G 46 = kLi (rv l)) {T : List (List Int32)} (hl : l.length = T.length) (hlm : T.length ≤ 1000) (hE : ∀ n, n < T.length → ∃ kd k, hd1 D (l.getD n 0) (T.getD n []) kd k) {e : Nat} (he : e ≤ T.length) : cCt Λ mX6_isAhead 0 0 S [.ref a, .ref (S 46), .int (nI e)] G D (fun r G' D' => r = some (.int (bI (decide (d ∈ T.take e)))) ∧ G' = G ∧ D' = D) := by
  refine cCt.of hS pn_X6 [some (.ref a), some (.ref (S 46)), some (.int (nI e)), none] rfl (Nat.le_of_ble_eq_true rfl) fun X => ?_
  obtain ⟨ns, sg, g9, x1, x2, x3, x4⟩ := hA
  have hrl := rv_len l
  refine C.iconst (v := 0) dX6_isAhead_0 (by decide) ?_
  refine C.istore_n (L' := [some (.ref a), some (.ref (S 46)), some (.int (nI e)), some (.int 0)]) dX6_isAhead_1 (by decide) rfl rfl ?_
  have cut_2 : ∀ (k_2 : Nat) (i : Nat), (i ≤ e) → (e + 1 ≤ i + k_2) → (¬ d ∈ T.take i) → C Λ X mX6_isAhead 0 0 S (fun r G' D' => r = some (.int (bI (decide (d ∈ T.take e)))) ∧ G' = G ∧ D' = D) 0 0 G D 2 [some (.ref a), some (.ref (S 46)), some (.int (nI e)), some (.int (nI i))] [] := by
    intro k_2
    induction k_2 with
    | zero => intro i h1 h2 hni; exact absurd h2 (by omega)
    | succ k_2 ih_2 =>
      intro i h1 h2 hni
      refine C.iload_n dX6_isAhead_2 rfl ?_
      refine C.iload_n dX6_isAhead_3 rfl ?_
      refine C.icmp_ge (tgt := 38) dX6_isAhead_4 (by decide) (fun c_4 => ?_) (fun c_4 => ?_)
      · skip
        have ei := nI_gen c_4 h1 (by omega); subst ei
        refine C.iconst (v := 0) dX6_isAhead_38 (by decide) ?_
        refine C.zret dX6_isAhead_39 rfl rfl ?_
        refine ⟨congrArg (fun z => some (Value.int z)) ?_, rfl, rfl⟩
        rw [decide_eq_false hni]; rfl
      · skip
        have lt_i : i < e := nI_ltn c_4 (by omega) (by omega)
        have hiT : i < T.length := by omega
        obtain ⟨kd9, k9, ns2, sg2, g2, y1, y2, y3, y4⟩ := hE i hiT
        refine C.iload_n dX6_isAhead_7 rfl ?_
        refine C.aload_nR dX6_isAhead_8 rfl ?_
        refine C.callLS0 (k9 := 46) [] dX6_isAhead_9 mdJx4a65c_size_8abf5 imJx4a65c_size_8abf5 seJx4a65c_size_8abf5 rfl hG lk_X6_21 rfl rfl rfl rfl (cCt.w0 (R := fun r => r = some (.int (nI (rv l).length))) fun σ9 h9 => c_list_size (h9.at (k := 46) rfl hG)) ?_
        rintro _ G9 D9 ⟨rfl, e9, e8⟩
        have e9 := e9.symm; subst e9; have e8 := e8.symm; subst e8
        refine C.icmp_ge (tgt := 38) dX6_isAhead_12 (by decide) (fun c_12 => absurd c_12 (by rw [rv_len]; exact nI_ge (by omega) (by omega))) (fun c_12 => ?_)
        refine C.aload_nR dX6_isAhead_15 rfl ?_
        refine C.aload_nR dX6_isAhead_16 rfl ?_
        refine C.iload_n dX6_isAhead_17 rfl ?_
        refine C.callLS0 (k9 := 46) [.int (nI i)] dX6_isAhead_18 mdJx4a65c_get_915e3 imJx4a65c_get_915e3 seJx4a65c_get_915e3 rfl hG lk_X6_34 rfl rfl rfl rfl (cCt.w0 (R := fun r => r = some (.ref (l.getD i 0))) fun σ9 h9 => c_list_get (h9.at (k := 46) rfl hG) (rv_at (by omega))) ?_
        rintro _ G9 D9 ⟨rfl, e9, e8⟩
        have e9 := e9.symm; subst e9; have e8 := e8.symm; subst e8
        refine C.castD dX6_isAhead_21 cl_X6_25 cs_6 kc_6 y1 ?_
        have hct9 := fun (σ9 : kh) (h9 : cHas σ9 S G D) => c_Handle_isOf (Λ := Λ) (h9.2.1 _ _ x1) (h9.2.1 _ _ y1) (h9.2.1 _ _ x2) (h9.2.1 _ _ y2)
        rw [four_eq x3 y3] at hct9
        refine C.callVD0 [.ref (l.getD i 0)] dX6_isAhead_24 mdX5_isOf imX5_isOf seX5_isOf kc_6 x1 lk_X6_42 rfl rfl rfl rfl (cCt.w0 (R := fun r => r = some (.int (bI (decide (d = T.getD i []))))) fun σ9 h9 => hct9 σ9 h9) ?_
        rintro _ G9 D9 ⟨rfl, e9, e8⟩
        have e9 := e9.symm; subst e9; have e8 := e8.symm; subst e8
        refine C.if_eq (tgt := 32) dX6_isAhead_27 (by decide) (fun c_27 => ?_) (fun c_27 => ?_)
        · skip
          refine C.iinc (v := nI (i + 1)) (L' := [some (.ref a), some (.ref (S 46)), some (.int (nI e)), some (.int (nI (i + 1)))]) dX6_isAhead_32 rfl (nI_1 i) (by decide) rfl rfl ?_
          refine C.goto (tgt := 2) dX6_isAhead_35 (by decide) ?_
          exact ih_2 (i + 1) (by omega) (by omega) (by rw [take_s (by omega)]; exact fun q => (List.mem_append.mp q).elim hni (fun z => of_decide_eq_false ((bI_eq0 _).mp c_27) (List.mem_singleton.mp z)))
        · skip
          refine C.iconst (v := 1) dX6_isAhead_30 (by decide) ?_
          refine C.zret dX6_isAhead_31 rfl rfl ?_
          refine ⟨congrArg (fun z => some (Value.int z)) ?_, rfl, rfl⟩
          rw [decide_eq_true (show d ∈ T.take e from List.mem_of_mem_take (show d ∈ (T.take e).take (i + 1) by rw [List.take_take, Nat.min_eq_left (by omega), take_s hiT]; exact List.mem_append.mpr (Or.inr (List.mem_singleton.mpr (of_decide_eq_true (bt1 c_27))))))]; rfl
  exact cut_2 (e + 1) 0 (by omega) (by omega) (by rw [List.take_zero]; exact List.not_mem_nil)

theorem k_canMake_1 {Λ : kL} {S : Nat → Nat} {G : Nat → kc} {D : kh} (hS : cInj S) (h4 : G 4 = oHs (S 45) (S 46)) {lw lm : List Nat} (h45 : G 45 = kLi (rv lw)) (h46 : G 46 = kLi (rv lm)) {W U M : List (List Int32)} (hH : cHs D lw lm W U M) (hW6 : W.length ≤ 60) (hU8 : U.length ≤ 800) : cCt Λ mX6_canMake 0 0 S [.ref (S 4), .int 1] G D (fun r G' D' => r = some (.int (bI (cm U W 1))) ∧ G' = G ∧ D' = D) := by
  refine cCt.of hS pn_X6 [some (.ref (S 4)), some (.int 1), none, none, none] rfl (Nat.le_of_ble_eq_true rfl) fun X => ?_
  have hlw := hH.1
  have hlm := hH.2.1
  have hrw := rv_len lw
  refine C.iconst (v := 0) dX6_canMake_0 (by decide) ?_
  refine C.istore_n (L' := [some (.ref (S 4)), some (.int 1), some (.int 0), none, none]) dX6_canMake_1 (by decide) rfl rfl ?_
  refine C.iconst (v := 0) dX6_canMake_2 (by decide) ?_
  refine C.istore_n (L' := [some (.ref (S 4)), some (.int 1), some (.int 0), some (.int 0), none]) dX6_canMake_3 (by decide) rfl rfl ?_
  have cut_4a : ∀ (k_4a : Nat) (i : Nat), (i ≤ W.length) → (W.length + 1 ≤ i + k_4a) → (tk1 U W = tk1 U (W.drop i)) → (∀ z ∈ W.take i, z ∈ U) → C Λ X mX6_canMake 0 0 S (fun r G' D' => r = some (.int (bI (cm U W 1))) ∧ G' = G ∧ D' = D) 0 0 G D 4 [some (.ref (S 4)), some (.int 1), some (.int 0), some (.int (nI i)), none] [] := by
    intro k_4a
    induction k_4a with
    | zero => intro i h1 h2 ht hsub; exact absurd h2 (by omega)
    | succ k_4a ih_4a =>
      intro i h1 h2 ht hsub
      refine C.iload_n dX6_canMake_4 rfl ?_
      refine C.aload_nR dX6_canMake_5 rfl ?_
      refine C.getS (k9 := 4) (fs := [.ref (S 45), .ref (S 46)]) dX6_canMake_6 fl_X6_12 rfl h4 rfl ?_
      refine C.callLS0 (k9 := 45) [] dX6_canMake_9 mdJx4a65c_size_8abf5 imJx4a65c_size_8abf5 seJx4a65c_size_8abf5 rfl h45 lk_X6_21 rfl rfl rfl rfl (cCt.w0 (R := fun r => r = some (.int (nI (rv lw).length))) fun σ9 h9 => c_list_size (h9.at (k := 45) rfl h45)) ?_
      rintro _ G9 D9 ⟨rfl, e9, e8⟩
      have e9 := e9.symm; subst e9; have e8 := e8.symm; subst e8
      refine C.icmp_ge (tgt := 77) dX6_canMake_12 (by decide) (fun c_12 => ?_) (fun c_12 => ?_)
      · skip
        have hend : W.length ≤ i := by have h9 := c_12; rw [rv_len, hlw] at h9; exact (nI_leI (by omega) (by omega)).mp h9
        refine C.iload_n dX6_canMake_77 rfl ?_
        refine C.iload_n dX6_canMake_78 rfl ?_
        refine C.icmp_lt (tgt := 86) dX6_canMake_79 (by decide) (fun c_79 => ?_) (fun c_79 => absurd (by decide) c_79)
        refine C.iconst (v := 0) dX6_canMake_86 (by decide) ?_
        refine C.zret dX6_canMake_87 rfl rfl ?_
        refine ⟨congrArg (fun z => some (Value.int z)) ?_, rfl, rfl⟩
        rw [cm, ht, tk1_end hend]; rfl
      · skip
        have lt_i : i < W.length := by have h9 := c_12; rw [rv_len, hlw] at h9; exact nI_ltn h9 (by omega) (by omega)
        refine C.iload_n dX6_canMake_15 rfl ?_
        refine C.iload_n dX6_canMake_16 rfl ?_
        refine C.icmp_ge (tgt := 77) dX6_canMake_17 (by decide) (fun c_17 => absurd c_17 (by decide)) (fun c_17 => ?_)
        obtain ⟨nsx, sgx, gx, hx1, hx2⟩ := hH.2.2.2.2.2.1 i lt_i
        refine C.aload_nR dX6_canMake_20 rfl ?_
        refine C.getS (k9 := 4) (fs := [.ref (S 45), .ref (S 46)]) dX6_canMake_21 fl_X6_12 rfl h4 rfl ?_
        refine C.iload_n dX6_canMake_24 rfl ?_
        refine C.callLS0 (k9 := 45) [.int (nI i)] dX6_canMake_25 mdJx4a65c_get_915e3 imJx4a65c_get_915e3 seJx4a65c_get_915e3 rfl h45 lk_X6_34 rfl rfl rfl rfl (cCt.w0 (R := fun r => r = some (.ref (lw.getD i 0))) fun σ9 h9 => c_list_get (h9.at (k := 45) rfl h45) (rv_at (by omega))) ?_
        rintro _ G9 D9 ⟨rfl, e9, e8⟩
        have e9 := e9.symm; subst e9; have e8 := e8.symm; subst e8
        refine C.castD dX6_canMake_28 cl_X6_25 cs_6 kc_6 hx1 ?_
        refine C.astore (L' := [some (.ref (S 4)), some (.int 1), some (.int 0), some (.int (nI i)), some (.ref (lw.getD i 0))]) dX6_canMake_31 (by decide) rfl rfl ?_
        refine C.aloadR dX6_canMake_33 rfl ?_
        refine C.aload_nR dX6_canMake_35 rfl ?_
        refine C.getS (k9 := 4) (fs := [.ref (S 45), .ref (S 46)]) dX6_canMake_36 fl_X6_18 rfl h4 rfl ?_
        refine C.aload_nR dX6_canMake_39 rfl ?_
        refine C.getS (k9 := 4) (fs := [.ref (S 45), .ref (S 46)]) dX6_canMake_40 fl_X6_18 rfl h4 rfl ?_
        refine C.callLS0 (k9 := 46) [] dX6_canMake_43 mdJx4a65c_size_8abf5 imJx4a65c_size_8abf5 seJx4a65c_size_8abf5 rfl h46 lk_X6_21 rfl rfl rfl rfl (cCt.w0 (R := fun r => r = some (.int (nI (rv lm).length))) fun σ9 h9 => c_list_size (h9.at (k := 46) rfl h46)) ?_
        rintro _ G9 D9 ⟨rfl, e9, e8⟩
        have e9 := e9.symm; subst e9; have e8 := e8.symm; subst e8
        rw [rv_len, hlm]
        refine C.callS0 [.ref (lw.getD i 0), .ref (S 46), .int (nI U.length)] dX6_canMake_46 mdX6_isAhead ssX6_isAhead lk_X6_38 rfl rfl rfl rfl (k_isAhead_46 hS (hH.2.2.2.2.2.1 i lt_i) h46 (T := U) hlm (by omega) (fun n hn => ⟨_, _, hH.2.2.2.2.2.2 n hn⟩) (e := U.length) (Nat.le_refl _)) ?_
        rintro _ G9 D9 ⟨rfl, e9, e8⟩
        have e9 := e9.symm; subst e9; have e8 := e8.symm; subst e8
        rw [List.take_length]
        refine C.if_ne (tgt := 71) dX6_canMake_49 (by decide) (fun c_49 => ?_) (fun c_49 => ?_)
        · skip
          have hinU : W.getD i [] ∈ U := of_decide_eq_true (bt1 c_49)
          refine C.iinc (v := nI (i + 1)) (L' := [some (.ref (S 4)), some (.int 1), some (.int 0), some (.int (nI (i + 1))), some (.ref (lw.getD i 0))]) dX6_canMake_71 rfl (nI_1 i) (by decide) rfl rfl ?_
          refine C.goto (tgt := 4) dX6_canMake_74 (by decide) ?_
          refine C.drop (i := 4) (L' := [some (.ref (S 4)), some (.int 1), some (.int 0), some (.int (nI (i + 1))), none]) rfl ?_
          exact ih_4a (i + 1) (by omega) (by omega) (ht.trans (tk1_in lt_i hinU)) (fun z hz => by rw [take_s lt_i] at hz; exact (List.mem_append.mp hz).elim (hsub z) (fun q => by rw [List.mem_singleton.mp q]; exact hinU))
        · skip
          have hnU := of_decide_eq_false ((bI_eq0 _).mp c_49)
          refine C.aloadR dX6_canMake_52 rfl ?_
          refine C.aload_nR dX6_canMake_54 rfl ?_
          refine C.getS (k9 := 4) (fs := [.ref (S 45), .ref (S 46)]) dX6_canMake_55 fl_X6_12 rfl h4 rfl ?_
          refine C.iload_n dX6_canMake_58 rfl ?_
          refine C.callS0 [.ref (lw.getD i 0), .ref (S 45), .int (nI i)] dX6_canMake_59 mdX6_isAhead ssX6_isAhead lk_X6_38 rfl rfl rfl rfl (k_isAhead_45 hS (hH.2.2.2.2.2.1 i lt_i) h45 (T := W) hlw (by omega) (fun n hn => ⟨_, _, hH.2.2.2.2.2.1 n hn⟩) (e := i) (by omega)) ?_
          rintro _ G9 D9 ⟨rfl, e9, e8⟩
          have e9 := e9.symm; subst e9; have e8 := e8.symm; subst e8
          refine C.if_eq (tgt := 68) dX6_canMake_62 (by decide) (fun c_62 => ?_) (fun c_62 => ?_)
          · skip
            have hk1 : tk1 U W = some (W.getD i [], W.drop (i + 1)) := ht.trans (tk1_out lt_i hnU)
            refine C.iinc (v := 1) (L' := [some (.ref (S 4)), some (.int 1), some (.int 1), some (.int (nI i)), some (.ref (lw.getD i 0))]) dX6_canMake_68 rfl rfl (by decide) rfl rfl ?_
            refine C.iinc (v := nI (i + 1)) (L' := [some (.ref (S 4)), some (.int 1), some (.int 1), some (.int (nI (i + 1))), some (.ref (lw.getD i 0))]) dX6_canMake_71 rfl (nI_1 i) (by decide) rfl rfl ?_
            refine C.goto (tgt := 4) dX6_canMake_74 (by decide) ?_
            refine C.iload_n dX6_canMake_4 rfl ?_
            refine C.aload_nR dX6_canMake_5 rfl ?_
            refine C.getS (k9 := 4) (fs := [.ref (S 45), .ref (S 46)]) dX6_canMake_6 fl_X6_12 rfl h4 rfl ?_
            refine C.callLS0 (k9 := 45) [] dX6_canMake_9 mdJx4a65c_size_8abf5 imJx4a65c_size_8abf5 seJx4a65c_size_8abf5 rfl h45 lk_X6_21 rfl rfl rfl rfl (cCt.w0 (R := fun r => r = some (.int (nI (rv lw).length))) fun σ9 h9 => c_list_size (h9.at (k := 45) rfl h45)) ?_
            rintro _ G9 D9 ⟨rfl, e9, e8⟩
            have e9 := e9.symm; subst e9; have e8 := e8.symm; subst e8
            refine C.icmp_ge (tgt := 77) dX6_canMake_12 (by decide) (fun c_12 => ?_) (fun c_12 => ?_)
            · skip
              refine C.iload_n dX6_canMake_77 rfl ?_
              refine C.iload_n dX6_canMake_78 rfl ?_
              refine C.icmp_lt (tgt := 86) dX6_canMake_79 (by decide) (fun c_79 => absurd c_79 (by decide)) (fun c_79 => ?_)
              refine C.iconst (v := 1) dX6_canMake_82 (by decide) ?_
              refine C.goto (tgt := 87) dX6_canMake_83 (by decide) ?_
              refine C.zret dX6_canMake_87 rfl rfl ?_
              refine ⟨congrArg (fun z => some (Value.int z)) ?_, rfl, rfl⟩
              rw [cm, hk1]; rfl
            · skip
              refine C.iload_n dX6_canMake_15 rfl ?_
              refine C.iload_n dX6_canMake_16 rfl ?_
              refine C.icmp_ge (tgt := 77) dX6_canMake_17 (by decide) (fun c_17 => ?_) (fun c_17 => absurd (by decide) c_17)
              refine C.iload_n dX6_canMake_77 rfl ?_
              refine C.iload_n dX6_canMake_78 rfl ?_
              refine C.icmp_lt (tgt := 86) dX6_canMake_79 (by decide) (fun c_79 => absurd c_79 (by decide)) (fun c_79 => ?_)
              refine C.iconst (v := 1) dX6_canMake_82 (by decide) ?_
              refine C.goto (tgt := 87) dX6_canMake_83 (by decide) ?_
              refine C.zret dX6_canMake_87 rfl rfl ?_
              refine ⟨congrArg (fun z => some (Value.int z)) ?_, rfl, rfl⟩
              rw [cm, hk1]; rfl
          · skip
            have hinU : W.getD i [] ∈ U := hsub _ (of_decide_eq_true (bt1 c_62))
            refine C.goto (tgt := 71) dX6_canMake_65 (by decide) ?_
            refine C.iinc (v := nI (i + 1)) (L' := [some (.ref (S 4)), some (.int 1), some (.int 0), some (.int (nI (i + 1))), some (.ref (lw.getD i 0))]) dX6_canMake_71 rfl (nI_1 i) (by decide) rfl rfl ?_
            refine C.goto (tgt := 4) dX6_canMake_74 (by decide) ?_
            refine C.drop (i := 4) (L' := [some (.ref (S 4)), some (.int 1), some (.int 0), some (.int (nI (i + 1))), none]) rfl ?_
            exact ih_4a (i + 1) (by omega) (by omega) (ht.trans (tk1_in lt_i hinU)) (fun z hz => by rw [take_s lt_i] at hz; exact (List.mem_append.mp hz).elim (hsub z) (fun q => by rw [List.mem_singleton.mp q]; exact hinU))
  exact cut_4a (W.length + 1) 0 (by omega) (by omega) (by rw [List.drop_zero]) (fun z hz => by rw [List.take_zero] at hz; cases hz)

theorem k_canMake_2 {Λ : kL} {S : Nat → Nat} {G : Nat → kc} {D : kh} (hS : cInj S) (h4 : G 4 = oHs (S 45) (S 46)) {lw lm : List Nat} (h45 : G 45 = kLi (rv lw)) (h46 : G 46 = kLi (rv lm)) {W U M : List (List Int32)} (hH : cHs D lw lm W U M) (hW6 : W.length ≤ 60) (hU8 : U.length ≤ 800) : cCt Λ mX6_canMake 0 0 S [.ref (S 4), .int 2] G D (fun r G' D' => r = some (.int (bI (cm U W 2))) ∧ G' = G ∧ D' = D) := by
  refine cCt.of hS pn_X6 [some (.ref (S 4)), some (.int 2), none, none, none] rfl (Nat.le_of_ble_eq_true rfl) fun X => ?_
  have hlw := hH.1
  have hlm := hH.2.1
  have hrw := rv_len lw
  refine C.iconst (v := 0) dX6_canMake_0 (by decide) ?_
  refine C.istore_n (L' := [some (.ref (S 4)), some (.int 2), some (.int 0), none, none]) dX6_canMake_1 (by decide) rfl rfl ?_
  refine C.iconst (v := 0) dX6_canMake_2 (by decide) ?_
  refine C.istore_n (L' := [some (.ref (S 4)), some (.int 2), some (.int 0), some (.int 0), none]) dX6_canMake_3 (by decide) rfl rfl ?_
  have cut_4a : ∀ (k_4a : Nat) (i : Nat), (i ≤ W.length) → (W.length + 1 ≤ i + k_4a) → (tk1 U W = tk1 U (W.drop i)) → (∀ z ∈ W.take i, z ∈ U) → C Λ X mX6_canMake 0 0 S (fun r G' D' => r = some (.int (bI (cm U W 2))) ∧ G' = G ∧ D' = D) 0 0 G D 4 [some (.ref (S 4)), some (.int 2), some (.int 0), some (.int (nI i)), none] [] := by
    intro k_4a
    induction k_4a with
    | zero => intro i h1 h2 ht hsub; exact absurd h2 (by omega)
    | succ k_4a ih_4a =>
      intro i h1 h2 ht hsub
      refine C.iload_n dX6_canMake_4 rfl ?_
      refine C.aload_nR dX6_canMake_5 rfl ?_
      refine C.getS (k9 := 4) (fs := [.ref (S 45), .ref (S 46)]) dX6_canMake_6 fl_X6_12 rfl h4 rfl ?_
      refine C.callLS0 (k9 := 45) [] dX6_canMake_9 mdJx4a65c_size_8abf5 imJx4a65c_size_8abf5 seJx4a65c_size_8abf5 rfl h45 lk_X6_21 rfl rfl rfl rfl (cCt.w0 (R := fun r => r = some (.int (nI (rv lw).length))) fun σ9 h9 => c_list_size (h9.at (k := 45) rfl h45)) ?_
      rintro _ G9 D9 ⟨rfl, e9, e8⟩
      have e9 := e9.symm; subst e9; have e8 := e8.symm; subst e8
      refine C.icmp_ge (tgt := 77) dX6_canMake_12 (by decide) (fun c_12 => ?_) (fun c_12 => ?_)
      · skip
        have hend : W.length ≤ i := by have h9 := c_12; rw [rv_len, hlw] at h9; exact (nI_leI (by omega) (by omega)).mp h9
        refine C.iload_n dX6_canMake_77 rfl ?_
        refine C.iload_n dX6_canMake_78 rfl ?_
        refine C.icmp_lt (tgt := 86) dX6_canMake_79 (by decide) (fun c_79 => ?_) (fun c_79 => absurd (by decide) c_79)
        refine C.iconst (v := 0) dX6_canMake_86 (by decide) ?_
        refine C.zret dX6_canMake_87 rfl rfl ?_
        refine ⟨congrArg (fun z => some (Value.int z)) ?_, rfl, rfl⟩
        show (0 : Int32) = bI (match tk1 U W with | none => false | some (d, W1) => (tk1 (U ++ [d]) W1).isSome)
        rw [ht, tk1_end hend]; rfl
      · skip
        have lt_i : i < W.length := by have h9 := c_12; rw [rv_len, hlw] at h9; exact nI_ltn h9 (by omega) (by omega)
        refine C.iload_n dX6_canMake_15 rfl ?_
        refine C.iload_n dX6_canMake_16 rfl ?_
        refine C.icmp_ge (tgt := 77) dX6_canMake_17 (by decide) (fun c_17 => absurd c_17 (by decide)) (fun c_17 => ?_)
        obtain ⟨nsx, sgx, gx, hx1, hx2⟩ := hH.2.2.2.2.2.1 i lt_i
        refine C.aload_nR dX6_canMake_20 rfl ?_
        refine C.getS (k9 := 4) (fs := [.ref (S 45), .ref (S 46)]) dX6_canMake_21 fl_X6_12 rfl h4 rfl ?_
        refine C.iload_n dX6_canMake_24 rfl ?_
        refine C.callLS0 (k9 := 45) [.int (nI i)] dX6_canMake_25 mdJx4a65c_get_915e3 imJx4a65c_get_915e3 seJx4a65c_get_915e3 rfl h45 lk_X6_34 rfl rfl rfl rfl (cCt.w0 (R := fun r => r = some (.ref (lw.getD i 0))) fun σ9 h9 => c_list_get (h9.at (k := 45) rfl h45) (rv_at (by omega))) ?_
        rintro _ G9 D9 ⟨rfl, e9, e8⟩
        have e9 := e9.symm; subst e9; have e8 := e8.symm; subst e8
        refine C.castD dX6_canMake_28 cl_X6_25 cs_6 kc_6 hx1 ?_
        refine C.astore (L' := [some (.ref (S 4)), some (.int 2), some (.int 0), some (.int (nI i)), some (.ref (lw.getD i 0))]) dX6_canMake_31 (by decide) rfl rfl ?_
        refine C.aloadR dX6_canMake_33 rfl ?_
        refine C.aload_nR dX6_canMake_35 rfl ?_
        refine C.getS (k9 := 4) (fs := [.ref (S 45), .ref (S 46)]) dX6_canMake_36 fl_X6_18 rfl h4 rfl ?_
        refine C.aload_nR dX6_canMake_39 rfl ?_
        refine C.getS (k9 := 4) (fs := [.ref (S 45), .ref (S 46)]) dX6_canMake_40 fl_X6_18 rfl h4 rfl ?_
        refine C.callLS0 (k9 := 46) [] dX6_canMake_43 mdJx4a65c_size_8abf5 imJx4a65c_size_8abf5 seJx4a65c_size_8abf5 rfl h46 lk_X6_21 rfl rfl rfl rfl (cCt.w0 (R := fun r => r = some (.int (nI (rv lm).length))) fun σ9 h9 => c_list_size (h9.at (k := 46) rfl h46)) ?_
        rintro _ G9 D9 ⟨rfl, e9, e8⟩
        have e9 := e9.symm; subst e9; have e8 := e8.symm; subst e8
        rw [rv_len, hlm]
        refine C.callS0 [.ref (lw.getD i 0), .ref (S 46), .int (nI U.length)] dX6_canMake_46 mdX6_isAhead ssX6_isAhead lk_X6_38 rfl rfl rfl rfl (k_isAhead_46 hS (hH.2.2.2.2.2.1 i lt_i) h46 (T := U) hlm (by omega) (fun n hn => ⟨_, _, hH.2.2.2.2.2.2 n hn⟩) (e := U.length) (Nat.le_refl _)) ?_
        rintro _ G9 D9 ⟨rfl, e9, e8⟩
        have e9 := e9.symm; subst e9; have e8 := e8.symm; subst e8
        rw [List.take_length]
        refine C.if_ne (tgt := 71) dX6_canMake_49 (by decide) (fun c_49 => ?_) (fun c_49 => ?_)
        · skip
          have hinU : W.getD i [] ∈ U := of_decide_eq_true (bt1 c_49)
          refine C.iinc (v := nI (i + 1)) (L' := [some (.ref (S 4)), some (.int 2), some (.int 0), some (.int (nI (i + 1))), some (.ref (lw.getD i 0))]) dX6_canMake_71 rfl (nI_1 i) (by decide) rfl rfl ?_
          refine C.goto (tgt := 4) dX6_canMake_74 (by decide) ?_
          refine C.drop (i := 4) (L' := [some (.ref (S 4)), some (.int 2), some (.int 0), some (.int (nI (i + 1))), none]) rfl ?_
          exact ih_4a (i + 1) (by omega) (by omega) (ht.trans (tk1_in lt_i hinU)) (fun z hz => by rw [take_s lt_i] at hz; exact (List.mem_append.mp hz).elim (hsub z) (fun q => by rw [List.mem_singleton.mp q]; exact hinU))
        · skip
          have hnU := of_decide_eq_false ((bI_eq0 _).mp c_49)
          refine C.aloadR dX6_canMake_52 rfl ?_
          refine C.aload_nR dX6_canMake_54 rfl ?_
          refine C.getS (k9 := 4) (fs := [.ref (S 45), .ref (S 46)]) dX6_canMake_55 fl_X6_12 rfl h4 rfl ?_
          refine C.iload_n dX6_canMake_58 rfl ?_
          refine C.callS0 [.ref (lw.getD i 0), .ref (S 45), .int (nI i)] dX6_canMake_59 mdX6_isAhead ssX6_isAhead lk_X6_38 rfl rfl rfl rfl (k_isAhead_45 hS (hH.2.2.2.2.2.1 i lt_i) h45 (T := W) hlw (by omega) (fun n hn => ⟨_, _, hH.2.2.2.2.2.1 n hn⟩) (e := i) (by omega)) ?_
          rintro _ G9 D9 ⟨rfl, e9, e8⟩
          have e9 := e9.symm; subst e9; have e8 := e8.symm; subst e8
          refine C.if_eq (tgt := 68) dX6_canMake_62 (by decide) (fun c_62 => ?_) (fun c_62 => ?_)
          · skip
            have hk1 : tk1 U W = some (W.getD i [], W.drop (i + 1)) := ht.trans (tk1_out lt_i hnU)
            refine C.iinc (v := 1) (L' := [some (.ref (S 4)), some (.int 2), some (.int 1), some (.int (nI i)), some (.ref (lw.getD i 0))]) dX6_canMake_68 rfl rfl (by decide) rfl rfl ?_
            refine C.iinc (v := nI (i + 1)) (L' := [some (.ref (S 4)), some (.int 2), some (.int 1), some (.int (nI (i + 1))), some (.ref (lw.getD i 0))]) dX6_canMake_71 rfl (nI_1 i) (by decide) rfl rfl ?_
            refine C.goto (tgt := 4) dX6_canMake_74 (by decide) ?_
            have cut_4b : ∀ (k_4b : Nat) (j : Nat), (i < j) → (j ≤ W.length) → (W.length + 1 ≤ j + k_4b) → (tk1 (U ++ [(W.getD i [])]) (W.drop (i + 1)) = tk1 (U ++ [(W.getD i [])]) (W.drop j)) → (∀ z ∈ W.take j, z ∈ (U ++ [(W.getD i [])])) → ((W.getD i []) ∈ W.take j) → C Λ X mX6_canMake 0 0 S (fun r G' D' => r = some (.int (bI (cm U W 2))) ∧ G' = G ∧ D' = D) 0 0 G D 4 [some (.ref (S 4)), some (.int 2), some (.int 1), some (.int (nI j)), none] [] := by
              intro k_4b
              induction k_4b with
              | zero => intro j h3 h3b h4z ht2 hsub2 hdm; exact absurd h4z (by omega)
              | succ k_4b ih_4b =>
                intro j h3 h3b h4z ht2 hsub2 hdm
                refine C.iload_n dX6_canMake_4 rfl ?_
                refine C.aload_nR dX6_canMake_5 rfl ?_
                refine C.getS (k9 := 4) (fs := [.ref (S 45), .ref (S 46)]) dX6_canMake_6 fl_X6_12 rfl h4 rfl ?_
                refine C.callLS0 (k9 := 45) [] dX6_canMake_9 mdJx4a65c_size_8abf5 imJx4a65c_size_8abf5 seJx4a65c_size_8abf5 rfl h45 lk_X6_21 rfl rfl rfl rfl (cCt.w0 (R := fun r => r = some (.int (nI (rv lw).length))) fun σ9 h9 => c_list_size (h9.at (k := 45) rfl h45)) ?_
                rintro _ G9 D9 ⟨rfl, e9, e8⟩
                have e9 := e9.symm; subst e9; have e8 := e8.symm; subst e8
                refine C.icmp_ge (tgt := 77) dX6_canMake_12 (by decide) (fun c_12 => ?_) (fun c_12 => ?_)
                · skip
                  have hend : W.length ≤ j := by have h9 := c_12; rw [rv_len, hlw] at h9; exact (nI_leI (by omega) (by omega)).mp h9
                  refine C.iload_n dX6_canMake_77 rfl ?_
                  refine C.iload_n dX6_canMake_78 rfl ?_
                  refine C.icmp_lt (tgt := 86) dX6_canMake_79 (by decide) (fun c_79 => ?_) (fun c_79 => absurd (by decide) c_79)
                  refine C.iconst (v := 0) dX6_canMake_86 (by decide) ?_
                  refine C.zret dX6_canMake_87 rfl rfl ?_
                  refine ⟨congrArg (fun z => some (Value.int z)) ?_, rfl, rfl⟩
                  show (0 : Int32) = bI (match tk1 U W with | none => false | some (d, W1) => (tk1 (U ++ [d]) W1).isSome)
                  rw [hk1]
                  show (0 : Int32) = bI (tk1 _ _).isSome
                  rw [ht2, tk1_end hend]; rfl
                · skip
                  have lt_j : j < W.length := by have h9 := c_12; rw [rv_len, hlw] at h9; exact nI_ltn h9 (by omega) (by omega)
                  refine C.iload_n dX6_canMake_15 rfl ?_
                  refine C.iload_n dX6_canMake_16 rfl ?_
                  refine C.icmp_ge (tgt := 77) dX6_canMake_17 (by decide) (fun c_17 => absurd c_17 (by decide)) (fun c_17 => ?_)
                  obtain ⟨nsx, sgx, gx, hx1, hx2⟩ := hH.2.2.2.2.2.1 j lt_j
                  refine C.aload_nR dX6_canMake_20 rfl ?_
                  refine C.getS (k9 := 4) (fs := [.ref (S 45), .ref (S 46)]) dX6_canMake_21 fl_X6_12 rfl h4 rfl ?_
                  refine C.iload_n dX6_canMake_24 rfl ?_
                  refine C.callLS0 (k9 := 45) [.int (nI j)] dX6_canMake_25 mdJx4a65c_get_915e3 imJx4a65c_get_915e3 seJx4a65c_get_915e3 rfl h45 lk_X6_34 rfl rfl rfl rfl (cCt.w0 (R := fun r => r = some (.ref (lw.getD j 0))) fun σ9 h9 => c_list_get (h9.at (k := 45) rfl h45) (rv_at (by omega))) ?_
                  rintro _ G9 D9 ⟨rfl, e9, e8⟩
                  have e9 := e9.symm; subst e9; have e8 := e8.symm; subst e8
                  refine C.castD dX6_canMake_28 cl_X6_25 cs_6 kc_6 hx1 ?_
                  refine C.astore (L' := [some (.ref (S 4)), some (.int 2), some (.int 1), some (.int (nI j)), some (.ref (lw.getD j 0))]) dX6_canMake_31 (by decide) rfl rfl ?_
                  refine C.aloadR dX6_canMake_33 rfl ?_
                  refine C.aload_nR dX6_canMake_35 rfl ?_
                  refine C.getS (k9 := 4) (fs := [.ref (S 45), .ref (S 46)]) dX6_canMake_36 fl_X6_18 rfl h4 rfl ?_
                  refine C.aload_nR dX6_canMake_39 rfl ?_
                  refine C.getS (k9 := 4) (fs := [.ref (S 45), .ref (S 46)]) dX6_canMake_40 fl_X6_18 rfl h4 rfl ?_
                  refine C.callLS0 (k9 := 46) [] dX6_canMake_43 mdJx4a65c_size_8abf5 imJx4a65c_size_8abf5 seJx4a65c_size_8abf5 rfl h46 lk_X6_21 rfl rfl rfl rfl (cCt.w0 (R := fun r => r = some (.int (nI (rv lm).length))) fun σ9 h9 => c_list_size (h9.at (k := 46) rfl h46)) ?_
                  rintro _ G9 D9 ⟨rfl, e9, e8⟩
                  have e9 := e9.symm; subst e9; have e8 := e8.symm; subst e8
                  rw [rv_len, hlm]
                  refine C.callS0 [.ref (lw.getD j 0), .ref (S 46), .int (nI U.length)] dX6_canMake_46 mdX6_isAhead ssX6_isAhead lk_X6_38 rfl rfl rfl rfl (k_isAhead_46 hS (hH.2.2.2.2.2.1 j lt_j) h46 (T := U) hlm (by omega) (fun n hn => ⟨_, _, hH.2.2.2.2.2.2 n hn⟩) (e := U.length) (Nat.le_refl _)) ?_
                  rintro _ G9 D9 ⟨rfl, e9, e8⟩
                  have e9 := e9.symm; subst e9; have e8 := e8.symm; subst e8
                  rw [List.take_length]
                  refine C.if_ne (tgt := 71) dX6_canMake_49 (by decide) (fun c_49 => ?_) (fun c_49 => ?_)
                  · skip
                    have hinU : W.getD j [] ∈ (U ++ [(W.getD i [])]) := List.mem_append.mpr (Or.inl (of_decide_eq_true (bt1 c_49)))
                    refine C.iinc (v := nI (j + 1)) (L' := [some (.ref (S 4)), some (.int 2), some (.int 1), some (.int (nI (j + 1))), some (.ref (lw.getD j 0))]) dX6_canMake_71 rfl (nI_1 j) (by decide) rfl rfl ?_
                    refine C.goto (tgt := 4) dX6_canMake_74 (by decide) ?_
                    refine C.drop (i := 4) (L' := [some (.ref (S 4)), some (.int 2), some (.int 1), some (.int (nI (j + 1))), none]) rfl ?_
                    exact ih_4b (j + 1) (by omega) (by omega) (by omega) (ht2.trans (tk1_in lt_j hinU)) (fun z hz => by rw [take_s lt_j] at hz; exact (List.mem_append.mp hz).elim (hsub2 z) (fun q => by rw [List.mem_singleton.mp q]; exact hinU)) (by rw [take_s lt_j]; exact List.mem_append.mpr (Or.inl hdm))
                  · skip
                    have hnU := of_decide_eq_false ((bI_eq0 _).mp c_49)
                    refine C.aloadR dX6_canMake_52 rfl ?_
                    refine C.aload_nR dX6_canMake_54 rfl ?_
                    refine C.getS (k9 := 4) (fs := [.ref (S 45), .ref (S 46)]) dX6_canMake_55 fl_X6_12 rfl h4 rfl ?_
                    refine C.iload_n dX6_canMake_58 rfl ?_
                    refine C.callS0 [.ref (lw.getD j 0), .ref (S 45), .int (nI j)] dX6_canMake_59 mdX6_isAhead ssX6_isAhead lk_X6_38 rfl rfl rfl rfl (k_isAhead_45 hS (hH.2.2.2.2.2.1 j lt_j) h45 (T := W) hlw (by omega) (fun n hn => ⟨_, _, hH.2.2.2.2.2.1 n hn⟩) (e := j) (by omega)) ?_
                    rintro _ G9 D9 ⟨rfl, e9, e8⟩
                    have e9 := e9.symm; subst e9; have e8 := e8.symm; subst e8
                    refine C.if_eq (tgt := 68) dX6_canMake_62 (by decide) (fun c_62 => ?_) (fun c_62 => ?_)
                    · skip
                      have hk2 : tk1 (U ++ [(W.getD i [])]) (W.drop (i + 1)) = some (W.getD j [], W.drop (j + 1)) := ht2.trans (tk1_out lt_j (fun q => (List.mem_append.mp q).elim hnU (fun z => of_decide_eq_false ((bI_eq0 _).mp c_62) (by rw [List.mem_singleton.mp z]; exact hdm))))
                      refine C.iinc (v := 2) (L' := [some (.ref (S 4)), some (.int 2), some (.int 2), some (.int (nI j)), some (.ref (lw.getD j 0))]) dX6_canMake_68 rfl rfl (by decide) rfl rfl ?_
                      refine C.iinc (v := nI (j + 1)) (L' := [some (.ref (S 4)), some (.int 2), some (.int 2), some (.int (nI (j + 1))), some (.ref (lw.getD j 0))]) dX6_canMake_71 rfl (nI_1 j) (by decide) rfl rfl ?_
                      refine C.goto (tgt := 4) dX6_canMake_74 (by decide) ?_
                      refine C.iload_n dX6_canMake_4 rfl ?_
                      refine C.aload_nR dX6_canMake_5 rfl ?_
                      refine C.getS (k9 := 4) (fs := [.ref (S 45), .ref (S 46)]) dX6_canMake_6 fl_X6_12 rfl h4 rfl ?_
                      refine C.callLS0 (k9 := 45) [] dX6_canMake_9 mdJx4a65c_size_8abf5 imJx4a65c_size_8abf5 seJx4a65c_size_8abf5 rfl h45 lk_X6_21 rfl rfl rfl rfl (cCt.w0 (R := fun r => r = some (.int (nI (rv lw).length))) fun σ9 h9 => c_list_size (h9.at (k := 45) rfl h45)) ?_
                      rintro _ G9 D9 ⟨rfl, e9, e8⟩
                      have e9 := e9.symm; subst e9; have e8 := e8.symm; subst e8
                      refine C.icmp_ge (tgt := 77) dX6_canMake_12 (by decide) (fun c_12 => ?_) (fun c_12 => ?_)
                      · skip
                        refine C.iload_n dX6_canMake_77 rfl ?_
                        refine C.iload_n dX6_canMake_78 rfl ?_
                        refine C.icmp_lt (tgt := 86) dX6_canMake_79 (by decide) (fun c_79 => absurd c_79 (by decide)) (fun c_79 => ?_)
                        refine C.iconst (v := 1) dX6_canMake_82 (by decide) ?_
                        refine C.goto (tgt := 87) dX6_canMake_83 (by decide) ?_
                        refine C.zret dX6_canMake_87 rfl rfl ?_
                        refine ⟨congrArg (fun z => some (Value.int z)) ?_, rfl, rfl⟩
                        show (1 : Int32) = bI (match tk1 U W with | none => false | some (d, W1) => (tk1 (U ++ [d]) W1).isSome)
                        rw [hk1]
                        show (1 : Int32) = bI (tk1 _ _).isSome
                        rw [hk2]; rfl
                      · skip
                        refine C.iload_n dX6_canMake_15 rfl ?_
                        refine C.iload_n dX6_canMake_16 rfl ?_
                        refine C.icmp_ge (tgt := 77) dX6_canMake_17 (by decide) (fun c_17 => ?_) (fun c_17 => absurd (by decide) c_17)
                        refine C.iload_n dX6_canMake_77 rfl ?_
                        refine C.iload_n dX6_canMake_78 rfl ?_
                        refine C.icmp_lt (tgt := 86) dX6_canMake_79 (by decide) (fun c_79 => absurd c_79 (by decide)) (fun c_79 => ?_)
                        refine C.iconst (v := 1) dX6_canMake_82 (by decide) ?_
                        refine C.goto (tgt := 87) dX6_canMake_83 (by decide) ?_
                        refine C.zret dX6_canMake_87 rfl rfl ?_
                        refine ⟨congrArg (fun z => some (Value.int z)) ?_, rfl, rfl⟩
                        show (1 : Int32) = bI (match tk1 U W with | none => false | some (d, W1) => (tk1 (U ++ [d]) W1).isSome)
                        rw [hk1]
                        show (1 : Int32) = bI (tk1 _ _).isSome
                        rw [hk2]; rfl
                    · skip
                      have hinU : W.getD j [] ∈ (U ++ [(W.getD i [])]) := hsub2 _ (of_decide_eq_true (bt1 c_62))
                      refine C.goto (tgt := 71) dX6_canMake_65 (by decide) ?_
                      refine C.iinc (v := nI (j + 1)) (L' := [some (.ref (S 4)), some (.int 2), some (.int 1), some (.int (nI (j + 1))), some (.ref (lw.getD j 0))]) dX6_canMake_71 rfl (nI_1 j) (by decide) rfl rfl ?_
                      refine C.goto (tgt := 4) dX6_canMake_74 (by decide) ?_
                      refine C.drop (i := 4) (L' := [some (.ref (S 4)), some (.int 2), some (.int 1), some (.int (nI (j + 1))), none]) rfl ?_
                      exact ih_4b (j + 1) (by omega) (by omega) (by omega) (ht2.trans (tk1_in lt_j hinU)) (fun z hz => by rw [take_s lt_j] at hz; exact (List.mem_append.mp hz).elim (hsub2 z) (fun q => by rw [List.mem_singleton.mp q]; exact hinU)) (by rw [take_s lt_j]; exact List.mem_append.mpr (Or.inl hdm))
            refine C.drop (i := 4) (L' := [some (.ref (S 4)), some (.int 2), some (.int 1), some (.int (nI (i + 1))), none]) rfl ?_
            exact cut_4b (W.length + 1) (i + 1) (by omega) (by omega) (by omega) rfl (fun z hz => by rw [take_s lt_i] at hz; exact (List.mem_append.mp hz).elim (fun q => List.mem_append.mpr (Or.inl (hsub z q))) (fun q => List.mem_append.mpr (Or.inr q))) (by rw [take_s lt_i]; exact List.mem_append.mpr (Or.inr (List.mem_singleton.mpr rfl)))
          · skip
            have hinU : W.getD i [] ∈ U := hsub _ (of_decide_eq_true (bt1 c_62))
            refine C.goto (tgt := 71) dX6_canMake_65 (by decide) ?_
            refine C.iinc (v := nI (i + 1)) (L' := [some (.ref (S 4)), some (.int 2), some (.int 0), some (.int (nI (i + 1))), some (.ref (lw.getD i 0))]) dX6_canMake_71 rfl (nI_1 i) (by decide) rfl rfl ?_
            refine C.goto (tgt := 4) dX6_canMake_74 (by decide) ?_
            refine C.drop (i := 4) (L' := [some (.ref (S 4)), some (.int 2), some (.int 0), some (.int (nI (i + 1))), none]) rfl ?_
            exact ih_4a (i + 1) (by omega) (by omega) (ht.trans (tk1_in lt_i hinU)) (fun z hz => by rw [take_s lt_i] at hz; exact (List.mem_append.mp hz).elim (hsub z) (fun q => by rw [List.mem_singleton.mp q]; exact hinU))
  exact cut_4a (W.length + 1) 0 (by omega) (by omega) (by rw [List.drop_zero]) (fun z hz => by rw [List.take_zero] at hz; cases hz)

theorem k_find {Λ : kL} {S : Nat → Nat} {G : Nat → kc} {D : kh} (hS : cInj S) (h4 : G 4 = oHs (S 45) (S 46)) {lw lm : List Nat} (h46 : G 46 = kLi (rv lm)) {W U M : List (List Int32)} (hH : cHs D lw lm W U M) (hU8 : U.length ≤ 800) (kd : Int32) {tt : Nat} {v : List Int32} (hT : ∀ σ, cHas σ S G D → tx σ tt v) : cCt Λ mX6_find 0 0 S [.ref (S 4), .int kd, .ref tt] G D (fun r G' D' => r = some (.int (if fnH M U kd v < U.length then ro M (fnH M U kd v) 1 else -1)) ∧ G' = G ∧ D' = D) := by
  refine cCt.of hS pn_X6 [some (.ref (S 4)), some (.int kd), some (.ref tt), none, none] rfl (Nat.le_of_ble_eq_true rfl) fun X => ?_
  have hlm := hH.2.1
  refine C.iconst (v := 0) dX6_find_0 (by decide) ?_
  refine C.istore_n (L' := [some (.ref (S 4)), some (.int kd), some (.ref tt), some (.int 0), none]) dX6_find_1 (by decide) rfl rfl ?_
  have cut_2 : ∀ (k_2 : Nat) (i : Nat), (i ≤ U.length) → (U.length + 1 ≤ i + k_2) → (fnH M U kd v = fsti (fun i => decide (ro M i 0 = kd) && decide (b64 (U.getD i []) 22 = v)) (U.length - i) i) → C Λ X mX6_find 0 0 S (fun r G' D' => r = some (.int (if fnH M U kd v < U.length then ro M (fnH M U kd v) 1 else -1)) ∧ G' = G ∧ D' = D) 0 0 G D 2 [some (.ref (S 4)), some (.int kd), some (.ref tt), some (.int (nI i)), none] [] := by
    intro k_2
    induction k_2 with
    | zero => intro i h1 h2 hz; exact absurd h2 (by omega)
    | succ k_2 ih_2 =>
      intro i h1 h2 hz
      refine C.iload_n dX6_find_2 rfl ?_
      refine C.aload_nR dX6_find_3 rfl ?_
      refine C.getS (k9 := 4) (fs := [.ref (S 45), .ref (S 46)]) dX6_find_4 fl_X6_18 rfl h4 rfl ?_
      refine C.callLS0 (k9 := 46) [] dX6_find_7 mdJx4a65c_size_8abf5 imJx4a65c_size_8abf5 seJx4a65c_size_8abf5 rfl h46 lk_X6_21 rfl rfl rfl rfl (cCt.w0 (R := fun r => r = some (.int (nI (rv lm).length))) fun σ9 h9 => c_list_size (h9.at (k := 46) rfl h46)) ?_
      rintro _ G9 D9 ⟨rfl, e9, e8⟩
      have e9 := e9.symm; subst e9; have e8 := e8.symm; subst e8
      refine C.icmp_ge (tgt := 59) dX6_find_10 (by decide) (fun c_10 => ?_) (fun c_10 => ?_)
      · skip
        have hend : U.length ≤ i := by have h9 := c_10; rw [rv_len, hlm] at h9; exact (nI_leI (by omega) (by omega)).mp h9
        refine C.iconst (v := (-1)) dX6_find_59 (by decide) ?_
        refine C.iret dX6_find_60 rfl ?_
        refine ⟨congrArg (fun z => some (Value.int z)) (if_neg ?_).symm, rfl, rfl⟩
        rw [hz, show U.length - i = 0 by omega]; show ¬ i < U.length; omega
      · skip
        have lt_i : i < U.length := by have h9 := c_10; rw [rv_len, hlm] at h9; exact nI_ltn h9 (by omega) (by omega)
        obtain ⟨ns, sg, g9, x1, x2, x3, x4⟩ := hH.2.2.2.2.2.2 i lt_i
        refine C.aload_nR dX6_find_13 rfl ?_
        refine C.getS (k9 := 4) (fs := [.ref (S 45), .ref (S 46)]) dX6_find_14 fl_X6_18 rfl h4 rfl ?_
        refine C.iload_n dX6_find_17 rfl ?_
        refine C.callLS0 (k9 := 46) [.int (nI i)] dX6_find_18 mdJx4a65c_get_915e3 imJx4a65c_get_915e3 seJx4a65c_get_915e3 rfl h46 lk_X6_34 rfl rfl rfl rfl (cCt.w0 (R := fun r => r = some (.ref (lm.getD i 0))) fun σ9 h9 => c_list_get (h9.at (k := 46) rfl h46) (rv_at (by omega))) ?_
        rintro _ G9 D9 ⟨rfl, e9, e8⟩
        have e9 := e9.symm; subst e9; have e8 := e8.symm; subst e8
        refine C.castD dX6_find_21 cl_X6_25 cs_6 kc_6 x1 ?_
        refine C.astore (L' := [some (.ref (S 4)), some (.int kd), some (.ref tt), some (.int (nI i)), some (.ref (lm.getD i 0))]) dX6_find_24 (by decide) rfl rfl ?_
        refine C.aloadR dX6_find_26 rfl ?_
        refine C.getD dX6_find_28 fl_X6_53 x1 rfl ?_
        refine C.iload_n dX6_find_31 rfl ?_
        refine C.icmp_ne (tgt := 53) dX6_find_32 (by decide) (fun c_32 => ?_) (fun c_32 => ?_)
        · skip
          refine C.iinc (v := nI (i + 1)) (L' := [some (.ref (S 4)), some (.int kd), some (.ref tt), some (.int (nI (i + 1))), some (.ref (lm.getD i 0))]) dX6_find_53 rfl (nI_1 i) (by decide) rfl rfl ?_
          refine C.goto (tgt := 2) dX6_find_56 (by decide) ?_
          refine C.drop (i := 4) (L' := [some (.ref (S 4)), some (.int kd), some (.ref tt), some (.int (nI (i + 1))), none]) rfl ?_
          exact ih_2 (i + 1) (by omega) (by omega) (hz.trans (fsti_st lt_i (by first | rw [decide_eq_false c_32, Bool.false_and] | rw [(bI_eq0 _).mp c_44, Bool.and_false])))
        · skip
          refine C.aloadR dX6_find_35 rfl ?_
          refine C.getD dX6_find_37 fl_X6_60 x1 rfl ?_
          refine C.aload_nR dX6_find_40 rfl ?_
          have x5 := x4; obtain ⟨r9, b9, c9, f9, z1, z2⟩ := x5
          refine C.callVD0 [.ref tt] dX6_find_41 mdX9_same imX9_same seX9_same kc_10 z1 lk_X6_71 rfl rfl rfl rfl (cCt.w0 (R := fun r => r = some (.int (bI (decide (b64 (U.getD i []) 22 = v))))) fun σ9 h9 => v_same (x4.mono h9.2.1) (hT σ9 h9)) ?_
          rintro _ G9 D9 ⟨rfl, e9, e8⟩
          have e9 := e9.symm; subst e9; have e8 := e8.symm; subst e8
          refine C.if_eq (tgt := 53) dX6_find_44 (by decide) (fun c_44 => ?_) (fun c_44 => ?_)
          · skip
            refine C.iinc (v := nI (i + 1)) (L' := [some (.ref (S 4)), some (.int kd), some (.ref tt), some (.int (nI (i + 1))), some (.ref (lm.getD i 0))]) dX6_find_53 rfl (nI_1 i) (by decide) rfl rfl ?_
            refine C.goto (tgt := 2) dX6_find_56 (by decide) ?_
            refine C.drop (i := 4) (L' := [some (.ref (S 4)), some (.int kd), some (.ref tt), some (.int (nI (i + 1))), none]) rfl ?_
            exact ih_2 (i + 1) (by omega) (by omega) (hz.trans (fsti_st lt_i (by first | rw [decide_eq_false c_32, Bool.false_and] | rw [(bI_eq0 _).mp c_44, Bool.and_false])))
          · skip
            refine C.aloadR dX6_find_47 rfl ?_
            refine C.getD dX6_find_49 fl_X6_57 x1 rfl ?_
            refine C.iret dX6_find_52 rfl ?_
            have hf : fnH M U kd v = i := hz.trans (fsti_hit lt_i (by rw [decide_eq_true c_32, bt1 c_44]; rfl))
            refine ⟨congrArg (fun z => some (Value.int z)) ((if_pos ?_).trans ?_).symm, rfl, rfl⟩
            · rw [hf]; exact lt_i
            · rw [hf]
  exact cut_2 (U.length + 1) 0 (by omega) (by omega) rfl
