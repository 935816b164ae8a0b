/-! the reference: what is put out -/
def bts (l : List Int32) : Prop := ∀ x ∈ l, b8 x = x
theorem bts_at {l : List Int32} (h : bts l) {i : Nat} (hi : i < l.length) : b8 (l.getD i 0) = l.getD i 0 := by
  rw [List.getD_eq_getElem?_getD, List.getElem?_eq_getElem hi]
  exact h _ (List.getElem_mem hi)
def plc (v : List Int32) : Int32 := if v.any (fun z => decide (z = 63)) = true then 38 else 63
theorem any_take {v : List Int32} {p : Int32 → Bool} {x : Nat} (h : x < v.length) : (v.take (x + 1)).any p = ((v.take x).any p || p (v.getD x 0)) := by
  rw [take_at h, List.any_append]
  show _ = _
  simp
def hxc (d : Int32) : Int32 := if d < 10 then 48 + d else 65 + d - 10
def escb (x : Int32) : List Int32 := if unres (x &&& 255) = true then [b8 (x &&& 255)] else [37, b8 (hxc ((x &&& 255) >>> ((4 : Int32) &&& 31))), b8 (hxc ((x &&& 255) &&& 15))]
def stS (v : List Int32) : List Int32 := if v.length = 0 then [] else sb_andState ++ v.flatMap escb
theorem escb_len (x : Int32) : (escb x).length ≤ 3 := by
  rw [escb]
  by_cases h : unres (x &&& 255) = true
  · rw [if_pos h]; show 1 ≤ 3; decide
  · rw [if_neg h]; show 3 ≤ 3; decide
theorem esc_len (v : List Int32) : (v.flatMap escb).length ≤ 3 * v.length := by
  induction v with
  | nil => exact Nat.le_refl 0
  | cons x v ih =>
    rw [List.flatMap_cons, List.length_append, List.length_cons]
    have := escb_len x
    omega
theorem fm_take {v : List Int32} {x : Nat} (h : x < v.length) : (v.take (x + 1)).flatMap escb = (v.take x).flatMap escb ++ escb (v.getD x 0) := by
  rw [take_at h, List.flatMap_append]
  simp
theorem esc_le (v : List Int32) (x : Nat) (h : x ≤ v.length) : ((v.take x).flatMap escb).length ≤ 3 * x := by
  have := esc_len (v.take x)
  rw [List.length_take, Nat.min_eq_left h] at this
  exact this
theorem escb_t {x : Int32} (h : unres (x &&& 255) = true) : escb x = [b8 (x &&& 255)] := if_pos h
theorem escb_f {x : Int32} (h : unres (x &&& 255) = false) : escb x = [37] ++ [b8 (hxc ((x &&& 255) >>> ((4 : Int32) &&& 31)))] ++ [b8 (hxc ((x &&& 255) &&& 15))] := if_neg (by rw [h]; decide)
theorem app4 (a b c d e : List Int32) : a ++ b ++ c ++ d ++ e = a ++ (b ++ (c ++ d ++ e)) := by simp
theorem app3 (a b c d : List Int32) : a ++ b ++ c ++ d = a ++ (b ++ c ++ d) := by simp

theorem m_place {Λ : kL} {m : Nat} {A : Nat → Nat} {I : Nat → Int32} {F : Nat → Nat → Int32} (hA : mInj A) {c : Nat} (hc : c < 8) {R : List (List Int32)} (hR : mRd F c R) {r : Nat} (hr : r < R.length) (hvb : bts (R.getD r [])) {n : Nat} (h4 : I 4 = nI n) (hn : n ≤ 7000) : mCt Λ mX12_place m A [.ref m, .int (nI c), .int (nI r)] I F (fun r9 I' F' => r9 = none ∧ I' = mo I n ((R.getD r []) ++ [plc (R.getD r [])]) ∧ F' = fo F n ((R.getD r []) ++ [plc (R.getD r [])])) := by
  refine mCt.of hA pn_X12 [some (.ref m), some (.int (nI c)), some (.int (nI r)), none, none, none, none] rfl (Nat.le_of_ble_eq_true rfl) fun X => ?_
  have hx := hR.2.2 r hr
  have hR3 := hR.2.1
  refine M.bipush (v := 80) dX12_place_0 (by decide) ?_
  refine M.iconst (v := 3) dX12_place_2 (by decide) ?_
  refine M.iload_n dX12_place_3 rfl ?_
  refine M.imul dX12_place_4 ?_
  rw [show 3 * (nI c) = nI (3 * c) from nI_mulc 3 c]
  refine M.iload_n dX12_place_5 rfl ?_
  refine M.iadd dX12_place_6 ?_
  rw [show (nI (3 * c)) + (nI r) = nI (3 * c + r) from nI_add (3 * c) r]
  refine M.imul dX12_place_7 ?_
  rw [show 80 * (nI (3 * c + r)) = nI (80 * (3 * c + r)) from nI_mulc 80 (3 * c + r)]
  refine M.istore_n (L' := [some (.ref m), some (.int (nI c)), some (.int (nI r)), some (.int (nI (80 * (3 * c + r)))), none, none, none]) dX12_place_8 (by decide) rfl rfl ?_
  refine M.aload_nR dX12_place_9 rfl ?_
  refine M.getr dX12_place_10 fl_X12_48 rfl rfl ?_
  refine M.iconst (v := 3) dX12_place_13 (by decide) ?_
  refine M.iload_n dX12_place_14 rfl ?_
  refine M.imul dX12_place_15 ?_
  rw [show 3 * (nI c) = nI (3 * c) from nI_mulc 3 c]
  refine M.iload_n dX12_place_16 rfl ?_
  refine M.iadd dX12_place_17 ?_
  rw [show (nI (3 * c)) + (nI r) = nI (3 * c + r) from nI_add (3 * c) r]
  refine M.ialdv (k9 := 18) (j := 3 * c + r) (g := F 18) (v := nI (R.getD r []).length) dX12_place_18 rfl rfl rfl rfl (show 3 * c + r < 24 by omega) hx.1 ?_
  refine M.istore (L' := [some (.ref m), some (.int (nI c)), some (.int (nI r)), some (.int (nI (80 * (3 * c + r)))), some (.int (nI (R.getD r []).length)), none, none]) dX12_place_19 (by decide) rfl rfl ?_
  refine M.iconst (v := 0) dX12_place_21 (by decide) ?_
  refine M.istore (L' := [some (.ref m), some (.int (nI c)), some (.int (nI r)), some (.int (nI (80 * (3 * c + r)))), some (.int (nI (R.getD r []).length)), some (.int 0), none]) dX12_place_22 (by decide) rfl rfl ?_
  refine M.iconst (v := 0) dX12_place_24 (by decide) ?_
  refine M.istore (L' := [some (.ref m), some (.int (nI c)), some (.int (nI r)), some (.int (nI (80 * (3 * c + r)))), some (.int (nI (R.getD r []).length)), some (.int 0), some (.int 0)]) dX12_place_25 (by decide) rfl rfl ?_
  have cut_27 : ∀ (k_27 : Nat) (x : Nat) (b : Bool), (x ≤ (R.getD r []).length) → ((R.getD r []).length + 1 ≤ x + k_27) → (b = ((R.getD r []).take x).any (fun z => decide (z = 63))) → M Λ X mX12_place m A (fun r9 I' F' => r9 = none ∧ I' = mo I n ((R.getD r []) ++ [plc (R.getD r [])]) ∧ F' = fo F n ((R.getD r []) ++ [plc (R.getD r [])])) (mo I n ((R.getD r []).take x)) (fo F n ((R.getD r []).take x)) 27 [some (.ref m), some (.int (nI c)), some (.int (nI r)), some (.int (nI (80 * (3 * c + r)))), some (.int (nI (R.getD r []).length)), some (.int (bI b)), some (.int (nI x))] [] := by
    intro k_27
    induction k_27 with
    | zero => intro x b h1 h2 hb; exact absurd h2 (by omega)
    | succ k_27 ih_27 =>
      intro x b h1 h2 hb
      refine M.iload dX12_place_27 rfl ?_
      refine M.iload dX12_place_29 rfl ?_
      refine M.icmp_ge (tgt := 79) dX12_place_31 (by decide) (fun c_31 => ?_) (fun c_31 => ?_)
      · skip
        have e1 := nI_gen c_31 h1 (by omega); subst e1
        rw [List.take_length] at hb
        rw [List.take_length]
        skip
        refine M.aload_nR dX12_place_79 rfl ?_
        refine M.iload dX12_place_80 rfl ?_
        refine M.if_eq (tgt := 90) dX12_place_82 (by decide) (fun c_82 => ?_) (fun c_82 => ?_)
        · skip
          refine M.bipush (v := 63) dX12_place_90 (by decide) ?_
          refine M.callV [.int 63] dX12_place_92 mdX12_puts imX12_puts seX12_puts lk_X12_299 rfl rfl rfl rfl (m_puts hA 63 (mo_4 rfl) (by omega)) ?_
          rintro _ I9 F9 ⟨rfl, e9, e8⟩
          have e9 := e9.symm; subst e9; have e8 := e8.symm; subst e8
          rw [mo_mo rfl, fo_fo rfl]
          refine M.vret dX12_place_95 rfl ?_
          refine ⟨rfl, ?_, ?_⟩
          all_goals (rw [plc, ← hb]; first | rw [if_pos (bt1 c_82)] | rw [if_neg (by rw [(bI_eq0 _).mp c_82]; decide)])
          all_goals rfl
        · skip
          refine M.bipush (v := 38) dX12_place_85 (by decide) ?_
          refine M.goto (tgt := 92) dX12_place_87 (by decide) ?_
          refine M.callV [.int 38] dX12_place_92 mdX12_puts imX12_puts seX12_puts lk_X12_299 rfl rfl rfl rfl (m_puts hA 38 (mo_4 rfl) (by omega)) ?_
          rintro _ I9 F9 ⟨rfl, e9, e8⟩
          have e9 := e9.symm; subst e9; have e8 := e8.symm; subst e8
          rw [mo_mo rfl, fo_fo rfl]
          refine M.vret dX12_place_95 rfl ?_
          refine ⟨rfl, ?_, ?_⟩
          all_goals (rw [plc, ← hb]; first | rw [if_pos (bt1 c_82)] | rw [if_neg (by rw [(bI_eq0 _).mp c_82]; decide)])
          all_goals rfl
      · skip
        have lt_x : x < (R.getD r []).length := nI_ltn c_31 (by omega) (by omega)
        refine M.aload_nR dX12_place_34 rfl ?_
        refine M.aload_nR dX12_place_35 rfl ?_
        refine M.getr dX12_place_36 fl_X12_45 rfl rfl ?_
        refine M.iload_n dX12_place_39 rfl ?_
        refine M.iload dX12_place_40 rfl ?_
        refine M.iadd dX12_place_42 ?_
        rw [show (nI (80 * (3 * c + r))) + (nI x) = nI (80 * (3 * c + r) + x) from nI_add (80 * (3 * c + r)) x]
        refine M.baldv (k9 := 17) (j := 80 * (3 * c + r) + x) (g := F 17) (v := (R.getD r []).getD x 0) dX12_place_43 rfl rfl rfl rfl (show 80 * (3 * c + r) + x < 1920 by omega) (tl_bs.mp hx.2.2 x lt_x) ?_
        refine M.callV [.int ((R.getD r []).getD x 0)] dX12_place_44 mdX12_puts imX12_puts seX12_puts lk_X12_299 rfl rfl rfl rfl (m_puts hA _ (mo_4 (len_take (R.getD r []) n x h1)) (by omega)) ?_
        rintro _ I9 F9 ⟨rfl, e9, e8⟩
        have e9 := e9.symm; subst e9; have e8 := e8.symm; subst e8
        rw [mo_mo (len_take (R.getD r []) n x h1), fo_fo (len_take (R.getD r []) n x h1), bts_at hvb lt_x, ← take_at lt_x]
        refine M.iload dX12_place_47 rfl ?_
        refine M.if_ne (tgt := 66) dX12_place_49 (by decide) (fun c_49 => ?_) (fun c_49 => ?_)
        · skip
          refine M.iconst (v := 1) dX12_place_66 (by decide) ?_
          refine M.goto (tgt := 71) dX12_place_67 (by decide) ?_
          refine M.istore (L' := [some (.ref m), some (.int (nI c)), some (.int (nI r)), some (.int (nI (80 * (3 * c + r)))), some (.int (nI (R.getD r []).length)), some (.int 1), some (.int (nI x))]) dX12_place_71 (by decide) rfl rfl ?_
          refine M.iinc (v := nI (x + 1)) (L' := [some (.ref m), some (.int (nI c)), some (.int (nI r)), some (.int (nI (80 * (3 * c + r)))), some (.int (nI (R.getD r []).length)), some (.int 1), some (.int (nI (x + 1)))]) dX12_place_73 rfl (nI_1 x) (by decide) rfl rfl ?_
          refine M.goto (tgt := 27) dX12_place_76 (by decide) ?_
          exact ih_27 (x + 1) true (by omega) (by omega) (by rw [any_take lt_x, ← hb]; symm; first | rw [bt1 c_49, Bool.true_or] | rw [decide_eq_true c_63, Bool.or_true])
        · skip
          refine M.aload_nR dX12_place_52 rfl ?_
          refine M.getr dX12_place_53 fl_X12_45 rfl rfl ?_
          refine M.iload_n dX12_place_56 rfl ?_
          refine M.iload dX12_place_57 rfl ?_
          refine M.iadd dX12_place_59 ?_
          rw [show (nI (80 * (3 * c + r))) + (nI x) = nI (80 * (3 * c + r) + x) from nI_add (80 * (3 * c + r)) x]
          refine M.baldv (k9 := 17) (j := 80 * (3 * c + r) + x) (g := F 17) (v := (R.getD r []).getD x 0) dX12_place_60 rfl rfl rfl rfl (show 80 * (3 * c + r) + x < 1920 by omega) (tl_bs.mp hx.2.2 x lt_x) ?_
          refine M.bipush (v := 63) dX12_place_61 (by decide) ?_
          refine M.icmp_ne (tgt := 70) dX12_place_63 (by decide) (fun c_63 => ?_) (fun c_63 => ?_)
          · skip
            refine M.iconst (v := 0) dX12_place_70 (by decide) ?_
            refine M.istore (L' := [some (.ref m), some (.int (nI c)), some (.int (nI r)), some (.int (nI (80 * (3 * c + r)))), some (.int (nI (R.getD r []).length)), some (.int 0), some (.int (nI x))]) dX12_place_71 (by decide) rfl rfl ?_
            refine M.iinc (v := nI (x + 1)) (L' := [some (.ref m), some (.int (nI c)), some (.int (nI r)), some (.int (nI (80 * (3 * c + r)))), some (.int (nI (R.getD r []).length)), some (.int 0), some (.int (nI (x + 1)))]) dX12_place_73 rfl (nI_1 x) (by decide) rfl rfl ?_
            refine M.goto (tgt := 27) dX12_place_76 (by decide) ?_
            exact ih_27 (x + 1) false (by omega) (by omega) (by rw [any_take lt_x, ← hb, (bI_eq0 _).mp c_49, decide_eq_false c_63]; rfl)
          · skip
            refine M.iconst (v := 1) dX12_place_66 (by decide) ?_
            refine M.goto (tgt := 71) dX12_place_67 (by decide) ?_
            refine M.istore (L' := [some (.ref m), some (.int (nI c)), some (.int (nI r)), some (.int (nI (80 * (3 * c + r)))), some (.int (nI (R.getD r []).length)), some (.int 1), some (.int (nI x))]) dX12_place_71 (by decide) rfl rfl ?_
            refine M.iinc (v := nI (x + 1)) (L' := [some (.ref m), some (.int (nI c)), some (.int (nI r)), some (.int (nI (80 * (3 * c + r)))), some (.int (nI (R.getD r []).length)), some (.int 1), some (.int (nI (x + 1)))]) dX12_place_73 rfl (nI_1 x) (by decide) rfl rfl ?_
            refine M.goto (tgt := 27) dX12_place_76 (by decide) ?_
            exact ih_27 (x + 1) true (by omega) (by omega) (by rw [any_take lt_x, ← hb]; symm; first | rw [bt1 c_49, Bool.true_or] | rw [decide_eq_true c_63, Bool.or_true])
  have t9 := cut_27 ((R.getD r []).length + 1) 0 false (by omega) (by omega) rfl
  rw [List.take_zero, ← mo_0 I h4, ← fo_0 F n] at t9
  exact t9

theorem m_errorWord_1 {Λ : kL} {m : Nat} {A : Nat → Nat} {I : Nat → Int32} {F : Nat → Nat → Int32} (hA : mInj A)  : mCt Λ mX12_errorWord m A [.int 1] I F (fun r I' F' => r = some (.ref (kSa Λ RX12 302)) ∧ I' = I ∧ F' = F) := by
  refine mCt.of hA pn_X12 [some (.int 1)] rfl (Nat.le_of_ble_eq_true rfl) fun X => ?_
  refine M.iload_n dX12_errorWord_0 rfl ?_
  refine M.tableIn (off := 55) (tgt := 56) dX12_errorWord_1 (by decide) (by decide) rfl (by decide) ?_
  refine M.ldcwS dX12_errorWord_56 sr_X12_302 ?_
  refine M.aret (r := some (kSa Λ RX12 302)) dX12_errorWord_59 rfl (by first | exact Or.inl ⟨_, rfl⟩ | exact Or.inr ⟨_, rfl⟩) ?_
  exact ⟨rfl, rfl, rfl⟩

theorem m_errorWord_3 {Λ : kL} {m : Nat} {A : Nat → Nat} {I : Nat → Int32} {F : Nat → Nat → Int32} (hA : mInj A)  : mCt Λ mX12_errorWord m A [.int 3] I F (fun r I' F' => r = some (.ref (kSa Λ RX12 304)) ∧ I' = I ∧ F' = F) := by
  refine mCt.of hA pn_X12 [some (.int 3)] rfl (Nat.le_of_ble_eq_true rfl) fun X => ?_
  refine M.iload_n dX12_errorWord_0 rfl ?_
  refine M.tableIn (off := 59) (tgt := 60) dX12_errorWord_1 (by decide) (by decide) rfl (by decide) ?_
  refine M.ldcwS dX12_errorWord_60 sr_X12_304 ?_
  refine M.aret (r := some (kSa Λ RX12 304)) dX12_errorWord_63 rfl (by first | exact Or.inl ⟨_, rfl⟩ | exact Or.inr ⟨_, rfl⟩) ?_
  exact ⟨rfl, rfl, rfl⟩

theorem m_errorWord_4 {Λ : kL} {m : Nat} {A : Nat → Nat} {I : Nat → Int32} {F : Nat → Nat → Int32} (hA : mInj A)  : mCt Λ mX12_errorWord m A [.int 4] I F (fun r I' F' => r = some (.ref (kSa Λ RX12 306)) ∧ I' = I ∧ F' = F) := by
  refine mCt.of hA pn_X12 [some (.int 4)] rfl (Nat.le_of_ble_eq_true rfl) fun X => ?_
  refine M.iload_n dX12_errorWord_0 rfl ?_
  refine M.tableIn (off := 63) (tgt := 64) dX12_errorWord_1 (by decide) (by decide) rfl (by decide) ?_
  refine M.ldcwS dX12_errorWord_64 sr_X12_306 ?_
  refine M.aret (r := some (kSa Λ RX12 306)) dX12_errorWord_67 rfl (by first | exact Or.inl ⟨_, rfl⟩ | exact Or.inr ⟨_, rfl⟩) ?_
  exact ⟨rfl, rfl, rfl⟩

theorem m_errorWord_5 {Λ : kL} {m : Nat} {A : Nat → Nat} {I : Nat → Int32} {F : Nat → Nat → Int32} (hA : mInj A)  : mCt Λ mX12_errorWord m A [.int 5] I F (fun r I' F' => r = some (.ref (kSa Λ RX12 308)) ∧ I' = I ∧ F' = F) := by
  refine mCt.of hA pn_X12 [some (.int 5)] rfl (Nat.le_of_ble_eq_true rfl) fun X => ?_
  refine M.iload_n dX12_errorWord_0 rfl ?_
  refine M.tableIn (off := 67) (tgt := 68) dX12_errorWord_1 (by decide) (by decide) rfl (by decide) ?_
  refine M.ldcwS dX12_errorWord_68 sr_X12_308 ?_
  refine M.aret (r := some (kSa Λ RX12 308)) dX12_errorWord_71 rfl (by first | exact Or.inl ⟨_, rfl⟩ | exact Or.inr ⟨_, rfl⟩) ?_
  exact ⟨rfl, rfl, rfl⟩

theorem m_errorWord_6 {Λ : kL} {m : Nat} {A : Nat → Nat} {I : Nat → Int32} {F : Nat → Nat → Int32} (hA : mInj A)  : mCt Λ mX12_errorWord m A [.int 6] I F (fun r I' F' => r = some (.ref (kSa Λ RX12 310)) ∧ I' = I ∧ F' = F) := by
  refine mCt.of hA pn_X12 [some (.int 6)] rfl (Nat.le_of_ble_eq_true rfl) fun X => ?_
  refine M.iload_n dX12_errorWord_0 rfl ?_
  refine M.tableIn (off := 71) (tgt := 72) dX12_errorWord_1 (by decide) (by decide) rfl (by decide) ?_
  refine M.ldcwS dX12_errorWord_72 sr_X12_310 ?_
  refine M.aret (r := some (kSa Λ RX12 310)) dX12_errorWord_75 rfl (by first | exact Or.inl ⟨_, rfl⟩ | exact Or.inr ⟨_, rfl⟩) ?_
  exact ⟨rfl, rfl, rfl⟩

theorem m_errorWord_7 {Λ : kL} {m : Nat} {A : Nat → Nat} {I : Nat → Int32} {F : Nat → Nat → Int32} (hA : mInj A)  : mCt Λ mX12_errorWord m A [.int 7] I F (fun r I' F' => r = some (.ref (kSa Λ RX12 312)) ∧ I' = I ∧ F' = F) := by
  refine mCt.of hA pn_X12 [some (.int 7)] rfl (Nat.le_of_ble_eq_true rfl) fun X => ?_
  refine M.iload_n dX12_errorWord_0 rfl ?_
  refine M.tableIn (off := 75) (tgt := 76) dX12_errorWord_1 (by decide) (by decide) rfl (by decide) ?_
  refine M.ldcwS dX12_errorWord_76 sr_X12_312 ?_
  refine M.aret (r := some (kSa Λ RX12 312)) dX12_errorWord_79 rfl (by first | exact Or.inl ⟨_, rfl⟩ | exact Or.inr ⟨_, rfl⟩) ?_
  exact ⟨rfl, rfl, rfl⟩

theorem m_errorWord_8 {Λ : kL} {m : Nat} {A : Nat → Nat} {I : Nat → Int32} {F : Nat → Nat → Int32} (hA : mInj A)  : mCt Λ mX12_errorWord m A [.int 8] I F (fun r I' F' => r = some (.ref (kSa Λ RX12 314)) ∧ I' = I ∧ F' = F) := by
  refine mCt.of hA pn_X12 [some (.int 8)] rfl (Nat.le_of_ble_eq_true rfl) fun X => ?_
  refine M.iload_n dX12_errorWord_0 rfl ?_
  refine M.tableIn (off := 79) (tgt := 80) dX12_errorWord_1 (by decide) (by decide) rfl (by decide) ?_
  refine M.ldcwS dX12_errorWord_80 sr_X12_314 ?_
  refine M.aret (r := some (kSa Λ RX12 314)) dX12_errorWord_83 rfl (by first | exact Or.inl ⟨_, rfl⟩ | exact Or.inr ⟨_, rfl⟩) ?_
  exact ⟨rfl, rfl, rfl⟩

theorem m_errorWord_9 {Λ : kL} {m : Nat} {A : Nat → Nat} {I : Nat → Int32} {F : Nat → Nat → Int32} (hA : mInj A)  : mCt Λ mX12_errorWord m A [.int 9] I F (fun r I' F' => r = some (.ref (kSa Λ RX12 316)) ∧ I' = I ∧ F' = F) := by
  refine mCt.of hA pn_X12 [some (.int 9)] rfl (Nat.le_of_ble_eq_true rfl) fun X => ?_
  refine M.iload_n dX12_errorWord_0 rfl ?_
  refine M.tableIn (off := 83) (tgt := 84) dX12_errorWord_1 (by decide) (by decide) rfl (by decide) ?_
  refine M.ldcwS dX12_errorWord_84 sr_X12_316 ?_
  refine M.aret (r := some (kSa Λ RX12 316)) dX12_errorWord_87 rfl (by first | exact Or.inl ⟨_, rfl⟩ | exact Or.inr ⟨_, rfl⟩) ?_
  exact ⟨rfl, rfl, rfl⟩

theorem m_errorWord_10 {Λ : kL} {m : Nat} {A : Nat → Nat} {I : Nat → Int32} {F : Nat → Nat → Int32} (hA : mInj A)  : mCt Λ mX12_errorWord m A [.int 10] I F (fun r I' F' => r = some (.ref (kSa Λ RX12 318)) ∧ I' = I ∧ F' = F) := by
  refine mCt.of hA pn_X12 [some (.int 10)] rfl (Nat.le_of_ble_eq_true rfl) fun X => ?_
  refine M.iload_n dX12_errorWord_0 rfl ?_
  refine M.tableIn (off := 87) (tgt := 88) dX12_errorWord_1 (by decide) (by decide) rfl (by decide) ?_
  refine M.ldcwS dX12_errorWord_88 sr_X12_318 ?_
  refine M.aret (r := some (kSa Λ RX12 318)) dX12_errorWord_91 rfl (by first | exact Or.inl ⟨_, rfl⟩ | exact Or.inr ⟨_, rfl⟩) ?_
  exact ⟨rfl, rfl, rfl⟩

theorem m_errorWord_11 {Λ : kL} {m : Nat} {A : Nat → Nat} {I : Nat → Int32} {F : Nat → Nat → Int32} (hA : mInj A)  : mCt Λ mX12_errorWord m A [.int 11] I F (fun r I' F' => r = some (.ref (kSa Λ RX12 320)) ∧ I' = I ∧ F' = F) := by
  refine mCt.of hA pn_X12 [some (.int 11)] rfl (Nat.le_of_ble_eq_true rfl) fun X => ?_
  refine M.iload_n dX12_errorWord_0 rfl ?_
  refine M.tableOut (tgt := 92) dX12_errorWord_1 (by decide) (by decide) ?_
  refine M.ldcwS dX12_errorWord_92 sr_X12_320 ?_
  refine M.aret (r := some (kSa Λ RX12 320)) dX12_errorWord_95 rfl (by first | exact Or.inl ⟨_, rfl⟩ | exact Or.inr ⟨_, rfl⟩) ?_
  exact ⟨rfl, rfl, rfl⟩

theorem m_refuses_1 {Λ : kL} {m : Nat} {A : Nat → Nat} {I : Nat → Int32} {F : Nat → Nat → Int32} (hA : mInj A) (hSt : kSt Λ) (x : Int32) : mCt Λ mX12_refuses m A [.ref m, .int x, .int 1] I F (fun r I' F' => r = some (.int x) ∧ I' = mo (upd (upd (upd I 5 x) 6 1) 4 0) 0 (sb_openError ++ sb_invalid_request ++ sb_close) ∧ F' = fo F 0 (sb_openError ++ sb_invalid_request ++ sb_close)) := by
  refine mCt.of hA pn_X12 [some (.ref m), some (.int x), some (.int 1)] rfl (Nat.le_of_ble_eq_true rfl) fun X => ?_
  refine M.aload_nR dX12_refuses_0 rfl ?_
  refine M.iload_n dX12_refuses_1 rfl ?_
  refine M.iload_n dX12_refuses_2 rfl ?_
  refine M.callV [.int x, .int 1] dX12_refuses_3 mdX12_ends imX12_ends seX12_ends lk_X12_328 rfl rfl rfl rfl (m_ends hA x 1) ?_
  rintro _ I9 F9 ⟨rfl, e9, e8⟩
  have e9 := e9.symm; subst e9; have e8 := e8.symm; subst e8
  refine M.aload_nR dX12_refuses_6 rfl ?_
  refine M.ldcwS dX12_refuses_7 sr_X12_332 ?_
  refine M.callV [.ref (kSa Λ RX12 332)] dX12_refuses_10 mdX12_says imX12_says seX12_says lk_X12_334 rfl rfl rfl rfl (m_says hA (st_X12_332 hSt) sb_openError_b rfl (by decide)) ?_
  rintro _ I9 F9 ⟨rfl, e9, e8⟩
  have e9 := e9.symm; subst e9; have e8 := e8.symm; subst e8
  refine M.aload_nR dX12_refuses_13 rfl ?_
  refine M.iload_n dX12_refuses_14 rfl ?_
  refine M.callS [.int 1] dX12_refuses_15 mdX12_errorWord ssX12_errorWord lk_X12_338 rfl rfl rfl rfl (m_errorWord_1 hA) ?_
  rintro _ I9 F9 ⟨rfl, e9, e8⟩
  have e9 := e9.symm; subst e9; have e8 := e8.symm; subst e8
  refine M.callV [.ref (kSa Λ RX12 302)] dX12_refuses_18 mdX12_says imX12_says seX12_says lk_X12_334 rfl rfl rfl rfl (m_says hA (st_X12_302 hSt) sb_invalid_request_b (mo_4 rfl) (by decide)) ?_
  rintro _ I9 F9 ⟨rfl, e9, e8⟩
  have e9 := e9.symm; subst e9; have e8 := e8.symm; subst e8
  rw [mo_mo rfl, fo_fo rfl]
  refine M.aload_nR dX12_refuses_21 rfl ?_
  refine M.ldcwS dX12_refuses_22 sr_X12_341 ?_
  refine M.callV [.ref (kSa Λ RX12 341)] dX12_refuses_25 mdX12_says imX12_says seX12_says lk_X12_334 rfl rfl rfl rfl (m_says hA (st_X12_341 hSt) sb_close_b (mo_4 rfl) (by decide)) ?_
  rintro _ I9 F9 ⟨rfl, e9, e8⟩
  have e9 := e9.symm; subst e9; have e8 := e8.symm; subst e8
  rw [mo_mo rfl, fo_fo rfl]
  refine M.iload_n dX12_refuses_28 rfl ?_
  refine M.iret dX12_refuses_29 rfl ?_
  exact ⟨rfl, rfl, rfl⟩

theorem m_refuses_5 {Λ : kL} {m : Nat} {A : Nat → Nat} {I : Nat → Int32} {F : Nat → Nat → Int32} (hA : mInj A) (hSt : kSt Λ) (x : Int32) : mCt Λ mX12_refuses m A [.ref m, .int x, .int 5] I F (fun r I' F' => r = some (.int x) ∧ I' = mo (upd (upd (upd I 5 x) 6 5) 4 0) 0 (sb_openError ++ sb_invalid_scope ++ sb_close) ∧ F' = fo F 0 (sb_openError ++ sb_invalid_scope ++ sb_close)) := by
  refine mCt.of hA pn_X12 [some (.ref m), some (.int x), some (.int 5)] rfl (Nat.le_of_ble_eq_true rfl) fun X => ?_
  refine M.aload_nR dX12_refuses_0 rfl ?_
  refine M.iload_n dX12_refuses_1 rfl ?_
  refine M.iload_n dX12_refuses_2 rfl ?_
  refine M.callV [.int x, .int 5] dX12_refuses_3 mdX12_ends imX12_ends seX12_ends lk_X12_328 rfl rfl rfl rfl (m_ends hA x 5) ?_
  rintro _ I9 F9 ⟨rfl, e9, e8⟩
  have e9 := e9.symm; subst e9; have e8 := e8.symm; subst e8
  refine M.aload_nR dX12_refuses_6 rfl ?_
  refine M.ldcwS dX12_refuses_7 sr_X12_332 ?_
  refine M.callV [.ref (kSa Λ RX12 332)] dX12_refuses_10 mdX12_says imX12_says seX12_says lk_X12_334 rfl rfl rfl rfl (m_says hA (st_X12_332 hSt) sb_openError_b rfl (by decide)) ?_
  rintro _ I9 F9 ⟨rfl, e9, e8⟩
  have e9 := e9.symm; subst e9; have e8 := e8.symm; subst e8
  refine M.aload_nR dX12_refuses_13 rfl ?_
  refine M.iload_n dX12_refuses_14 rfl ?_
  refine M.callS [.int 5] dX12_refuses_15 mdX12_errorWord ssX12_errorWord lk_X12_338 rfl rfl rfl rfl (m_errorWord_5 hA) ?_
  rintro _ I9 F9 ⟨rfl, e9, e8⟩
  have e9 := e9.symm; subst e9; have e8 := e8.symm; subst e8
  refine M.callV [.ref (kSa Λ RX12 308)] dX12_refuses_18 mdX12_says imX12_says seX12_says lk_X12_334 rfl rfl rfl rfl (m_says hA (st_X12_308 hSt) sb_invalid_scope_b (mo_4 rfl) (by decide)) ?_
  rintro _ I9 F9 ⟨rfl, e9, e8⟩
  have e9 := e9.symm; subst e9; have e8 := e8.symm; subst e8
  rw [mo_mo rfl, fo_fo rfl]
  refine M.aload_nR dX12_refuses_21 rfl ?_
  refine M.ldcwS dX12_refuses_22 sr_X12_341 ?_
  refine M.callV [.ref (kSa Λ RX12 341)] dX12_refuses_25 mdX12_says imX12_says seX12_says lk_X12_334 rfl rfl rfl rfl (m_says hA (st_X12_341 hSt) sb_close_b (mo_4 rfl) (by decide)) ?_
  rintro _ I9 F9 ⟨rfl, e9, e8⟩
  have e9 := e9.symm; subst e9; have e8 := e8.symm; subst e8
  rw [mo_mo rfl, fo_fo rfl]
  refine M.iload_n dX12_refuses_28 rfl ?_
  refine M.iret dX12_refuses_29 rfl ?_
  exact ⟨rfl, rfl, rfl⟩

theorem m_refuses_6 {Λ : kL} {m : Nat} {A : Nat → Nat} {I : Nat → Int32} {F : Nat → Nat → Int32} (hA : mInj A) (hSt : kSt Λ) (x : Int32) : mCt Λ mX12_refuses m A [.ref m, .int x, .int 6] I F (fun r I' F' => r = some (.int x) ∧ I' = mo (upd (upd (upd I 5 x) 6 6) 4 0) 0 (sb_openError ++ sb_invalid_client ++ sb_close) ∧ F' = fo F 0 (sb_openError ++ sb_invalid_client ++ sb_close)) := by
  refine mCt.of hA pn_X12 [some (.ref m), some (.int x), some (.int 6)] rfl (Nat.le_of_ble_eq_true rfl) fun X => ?_
  refine M.aload_nR dX12_refuses_0 rfl ?_
  refine M.iload_n dX12_refuses_1 rfl ?_
  refine M.iload_n dX12_refuses_2 rfl ?_
  refine M.callV [.int x, .int 6] dX12_refuses_3 mdX12_ends imX12_ends seX12_ends lk_X12_328 rfl rfl rfl rfl (m_ends hA x 6) ?_
  rintro _ I9 F9 ⟨rfl, e9, e8⟩
  have e9 := e9.symm; subst e9; have e8 := e8.symm; subst e8
  refine M.aload_nR dX12_refuses_6 rfl ?_
  refine M.ldcwS dX12_refuses_7 sr_X12_332 ?_
  refine M.callV [.ref (kSa Λ RX12 332)] dX12_refuses_10 mdX12_says imX12_says seX12_says lk_X12_334 rfl rfl rfl rfl (m_says hA (st_X12_332 hSt) sb_openError_b rfl (by decide)) ?_
  rintro _ I9 F9 ⟨rfl, e9, e8⟩
  have e9 := e9.symm; subst e9; have e8 := e8.symm; subst e8
  refine M.aload_nR dX12_refuses_13 rfl ?_
  refine M.iload_n dX12_refuses_14 rfl ?_
  refine M.callS [.int 6] dX12_refuses_15 mdX12_errorWord ssX12_errorWord lk_X12_338 rfl rfl rfl rfl (m_errorWord_6 hA) ?_
  rintro _ I9 F9 ⟨rfl, e9, e8⟩
  have e9 := e9.symm; subst e9; have e8 := e8.symm; subst e8
  refine M.callV [.ref (kSa Λ RX12 310)] dX12_refuses_18 mdX12_says imX12_says seX12_says lk_X12_334 rfl rfl rfl rfl (m_says hA (st_X12_310 hSt) sb_invalid_client_b (mo_4 rfl) (by decide)) ?_
  rintro _ I9 F9 ⟨rfl, e9, e8⟩
  have e9 := e9.symm; subst e9; have e8 := e8.symm; subst e8
  rw [mo_mo rfl, fo_fo rfl]
  refine M.aload_nR dX12_refuses_21 rfl ?_
  refine M.ldcwS dX12_refuses_22 sr_X12_341 ?_
  refine M.callV [.ref (kSa Λ RX12 341)] dX12_refuses_25 mdX12_says imX12_says seX12_says lk_X12_334 rfl rfl rfl rfl (m_says hA (st_X12_341 hSt) sb_close_b (mo_4 rfl) (by decide)) ?_
  rintro _ I9 F9 ⟨rfl, e9, e8⟩
  have e9 := e9.symm; subst e9; have e8 := e8.symm; subst e8
  rw [mo_mo rfl, fo_fo rfl]
  refine M.iload_n dX12_refuses_28 rfl ?_
  refine M.iret dX12_refuses_29 rfl ?_
  exact ⟨rfl, rfl, rfl⟩

theorem m_refuses_7 {Λ : kL} {m : Nat} {A : Nat → Nat} {I : Nat → Int32} {F : Nat → Nat → Int32} (hA : mInj A) (hSt : kSt Λ) (x : Int32) : mCt Λ mX12_refuses m A [.ref m, .int x, .int 7] I F (fun r I' F' => r = some (.int x) ∧ I' = mo (upd (upd (upd I 5 x) 6 7) 4 0) 0 (sb_openError ++ sb_invalid_grant ++ sb_close) ∧ F' = fo F 0 (sb_openError ++ sb_invalid_grant ++ sb_close)) := by
  refine mCt.of hA pn_X12 [some (.ref m), some (.int x), some (.int 7)] rfl (Nat.le_of_ble_eq_true rfl) fun X => ?_
  refine M.aload_nR dX12_refuses_0 rfl ?_
  refine M.iload_n dX12_refuses_1 rfl ?_
  refine M.iload_n dX12_refuses_2 rfl ?_
  refine M.callV [.int x, .int 7] dX12_refuses_3 mdX12_ends imX12_ends seX12_ends lk_X12_328 rfl rfl rfl rfl (m_ends hA x 7) ?_
  rintro _ I9 F9 ⟨rfl, e9, e8⟩
  have e9 := e9.symm; subst e9; have e8 := e8.symm; subst e8
  refine M.aload_nR dX12_refuses_6 rfl ?_
  refine M.ldcwS dX12_refuses_7 sr_X12_332 ?_
  refine M.callV [.ref (kSa Λ RX12 332)] dX12_refuses_10 mdX12_says imX12_says seX12_says lk_X12_334 rfl rfl rfl rfl (m_says hA (st_X12_332 hSt) sb_openError_b rfl (by decide)) ?_
  rintro _ I9 F9 ⟨rfl, e9, e8⟩
  have e9 := e9.symm; subst e9; have e8 := e8.symm; subst e8
  refine M.aload_nR dX12_refuses_13 rfl ?_
  refine M.iload_n dX12_refuses_14 rfl ?_
  refine M.callS [.int 7] dX12_refuses_15 mdX12_errorWord ssX12_errorWord lk_X12_338 rfl rfl rfl rfl (m_errorWord_7 hA) ?_
  rintro _ I9 F9 ⟨rfl, e9, e8⟩
  have e9 := e9.symm; subst e9; have e8 := e8.symm; subst e8
  refine M.callV [.ref (kSa Λ RX12 312)] dX12_refuses_18 mdX12_says imX12_says seX12_says lk_X12_334 rfl rfl rfl rfl (m_says hA (st_X12_312 hSt) sb_invalid_grant_b (mo_4 rfl) (by decide)) ?_
  rintro _ I9 F9 ⟨rfl, e9, e8⟩
  have e9 := e9.symm; subst e9; have e8 := e8.symm; subst e8
  rw [mo_mo rfl, fo_fo rfl]
  refine M.aload_nR dX12_refuses_21 rfl ?_
  refine M.ldcwS dX12_refuses_22 sr_X12_341 ?_
  refine M.callV [.ref (kSa Λ RX12 341)] dX12_refuses_25 mdX12_says imX12_says seX12_says lk_X12_334 rfl rfl rfl rfl (m_says hA (st_X12_341 hSt) sb_close_b (mo_4 rfl) (by decide)) ?_
  rintro _ I9 F9 ⟨rfl, e9, e8⟩
  have e9 := e9.symm; subst e9; have e8 := e8.symm; subst e8
  rw [mo_mo rfl, fo_fo rfl]
  refine M.iload_n dX12_refuses_28 rfl ?_
  refine M.iret dX12_refuses_29 rfl ?_
  exact ⟨rfl, rfl, rfl⟩

theorem m_refuses_8 {Λ : kL} {m : Nat} {A : Nat → Nat} {I : Nat → Int32} {F : Nat → Nat → Int32} (hA : mInj A) (hSt : kSt Λ) (x : Int32) : mCt Λ mX12_refuses m A [.ref m, .int x, .int 8] I F (fun r I' F' => r = some (.int x) ∧ I' = mo (upd (upd (upd I 5 x) 6 8) 4 0) 0 (sb_openError ++ sb_unsupported_grant_type ++ sb_close) ∧ F' = fo F 0 (sb_openError ++ sb_unsupported_grant_type ++ sb_close)) := by
  refine mCt.of hA pn_X12 [some (.ref m), some (.int x), some (.int 8)] rfl (Nat.le_of_ble_eq_true rfl) fun X => ?_
  refine M.aload_nR dX12_refuses_0 rfl ?_
  refine M.iload_n dX12_refuses_1 rfl ?_
  refine M.iload_n dX12_refuses_2 rfl ?_
  refine M.callV [.int x, .int 8] dX12_refuses_3 mdX12_ends imX12_ends seX12_ends lk_X12_328 rfl rfl rfl rfl (m_ends hA x 8) ?_
  rintro _ I9 F9 ⟨rfl, e9, e8⟩
  have e9 := e9.symm; subst e9; have e8 := e8.symm; subst e8
  refine M.aload_nR dX12_refuses_6 rfl ?_
  refine M.ldcwS dX12_refuses_7 sr_X12_332 ?_
  refine M.callV [.ref (kSa Λ RX12 332)] dX12_refuses_10 mdX12_says imX12_says seX12_says lk_X12_334 rfl rfl rfl rfl (m_says hA (st_X12_332 hSt) sb_openError_b rfl (by decide)) ?_
  rintro _ I9 F9 ⟨rfl, e9, e8⟩
  have e9 := e9.symm; subst e9; have e8 := e8.symm; subst e8
  refine M.aload_nR dX12_refuses_13 rfl ?_
  refine M.iload_n dX12_refuses_14 rfl ?_
  refine M.callS [.int 8] dX12_refuses_15 mdX12_errorWord ssX12_errorWord lk_X12_338 rfl rfl rfl rfl (m_errorWord_8 hA) ?_
  rintro _ I9 F9 ⟨rfl, e9, e8⟩
  have e9 := e9.symm; subst e9; have e8 := e8.symm; subst e8
  refine M.callV [.ref (kSa Λ RX12 314)] dX12_refuses_18 mdX12_says imX12_says seX12_says lk_X12_334 rfl rfl rfl rfl (m_says hA (st_X12_314 hSt) sb_unsupported_grant_type_b (mo_4 rfl) (by decide)) ?_
  rintro _ I9 F9 ⟨rfl, e9, e8⟩
  have e9 := e9.symm; subst e9; have e8 := e8.symm; subst e8
  rw [mo_mo rfl, fo_fo rfl]
  refine M.aload_nR dX12_refuses_21 rfl ?_
  refine M.ldcwS dX12_refuses_22 sr_X12_341 ?_
  refine M.callV [.ref (kSa Λ RX12 341)] dX12_refuses_25 mdX12_says imX12_says seX12_says lk_X12_334 rfl rfl rfl rfl (m_says hA (st_X12_341 hSt) sb_close_b (mo_4 rfl) (by decide)) ?_
  rintro _ I9 F9 ⟨rfl, e9, e8⟩
  have e9 := e9.symm; subst e9; have e8 := e8.symm; subst e8
  rw [mo_mo rfl, fo_fo rfl]
  refine M.iload_n dX12_refuses_28 rfl ?_
  refine M.iret dX12_refuses_29 rfl ?_
  exact ⟨rfl, rfl, rfl⟩

theorem m_refuses_11 {Λ : kL} {m : Nat} {A : Nat → Nat} {I : Nat → Int32} {F : Nat → Nat → Int32} (hA : mInj A) (hSt : kSt Λ) (x : Int32) : mCt Λ mX12_refuses m A [.ref m, .int x, .int 11] I F (fun r I' F' => r = some (.int x) ∧ I' = mo (upd (upd (upd I 5 x) 6 11) 4 0) 0 (sb_openError ++ sb_temporarily_unavailable ++ sb_close) ∧ F' = fo F 0 (sb_openError ++ sb_temporarily_unavailable ++ sb_close)) := by
  refine mCt.of hA pn_X12 [some (.ref m), some (.int x), some (.int 11)] rfl (Nat.le_of_ble_eq_true rfl) fun X => ?_
  refine M.aload_nR dX12_refuses_0 rfl ?_
  refine M.iload_n dX12_refuses_1 rfl ?_
  refine M.iload_n dX12_refuses_2 rfl ?_
  refine M.callV [.int x, .int 11] dX12_refuses_3 mdX12_ends imX12_ends seX12_ends lk_X12_328 rfl rfl rfl rfl (m_ends hA x 11) ?_
  rintro _ I9 F9 ⟨rfl, e9, e8⟩
  have e9 := e9.symm; subst e9; have e8 := e8.symm; subst e8
  refine M.aload_nR dX12_refuses_6 rfl ?_
  refine M.ldcwS dX12_refuses_7 sr_X12_332 ?_
  refine M.callV [.ref (kSa Λ RX12 332)] dX12_refuses_10 mdX12_says imX12_says seX12_says lk_X12_334 rfl rfl rfl rfl (m_says hA (st_X12_332 hSt) sb_openError_b rfl (by decide)) ?_
  rintro _ I9 F9 ⟨rfl, e9, e8⟩
  have e9 := e9.symm; subst e9; have e8 := e8.symm; subst e8
  refine M.aload_nR dX12_refuses_13 rfl ?_
  refine M.iload_n dX12_refuses_14 rfl ?_
  refine M.callS [.int 11] dX12_refuses_15 mdX12_errorWord ssX12_errorWord lk_X12_338 rfl rfl rfl rfl (m_errorWord_11 hA) ?_
  rintro _ I9 F9 ⟨rfl, e9, e8⟩
  have e9 := e9.symm; subst e9; have e8 := e8.symm; subst e8
  refine M.callV [.ref (kSa Λ RX12 320)] dX12_refuses_18 mdX12_says imX12_says seX12_says lk_X12_334 rfl rfl rfl rfl (m_says hA (st_X12_320 hSt) sb_temporarily_unavailable_b (mo_4 rfl) (by decide)) ?_
  rintro _ I9 F9 ⟨rfl, e9, e8⟩
  have e9 := e9.symm; subst e9; have e8 := e8.symm; subst e8
  rw [mo_mo rfl, fo_fo rfl]
  refine M.aload_nR dX12_refuses_21 rfl ?_
  refine M.ldcwS dX12_refuses_22 sr_X12_341 ?_
  refine M.callV [.ref (kSa Λ RX12 341)] dX12_refuses_25 mdX12_says imX12_says seX12_says lk_X12_334 rfl rfl rfl rfl (m_says hA (st_X12_341 hSt) sb_close_b (mo_4 rfl) (by decide)) ?_
  rintro _ I9 F9 ⟨rfl, e9, e8⟩
  have e9 := e9.symm; subst e9; have e8 := e8.symm; subst e8
  rw [mo_mo rfl, fo_fo rfl]
  refine M.iload_n dX12_refuses_28 rfl ?_
  refine M.iret dX12_refuses_29 rfl ?_
  exact ⟨rfl, rfl, rfl⟩

theorem m_state0 {Λ : kL} {m : Nat} {A : Nat → Nat} {I : Nat → Int32} {F : Nat → Nat → Int32} (hA : mInj A) {k1 : Nat} {i9 x9 : Int32} (hx : ¬ 1 ≤ x9) : mCt Λ mX12_state m A [.ref m, .ref (A k1), .int i9, .int x9] I F (fun r I' F' => r = none ∧ I' = I ∧ F' = F) := by
  refine mCt.of hA pn_X12 [some (.ref m), some (.ref (A k1)), some (.int i9), some (.int x9), none, none] rfl (Nat.le_of_ble_eq_true rfl) fun X => ?_
  refine M.iload_n dX12_state_0 rfl ?_
  refine M.iconst (v := 1) dX12_state_1 (by decide) ?_
  refine M.icmp_ge (tgt := 6) dX12_state_2 (by decide) (fun c_2 => absurd c_2 hx) (fun c_2 => ?_)
  refine M.vret dX12_state_5 rfl ?_
  exact ⟨rfl, rfl, rfl⟩

theorem sb_andState_len : sb_andState.length = 7 := rfl
theorem m_state {Λ : kL} {m : Nat} {A : Nat → Nat} {I : Nat → Int32} {F : Nat → Nat → Int32} (hA : mInj A) (hSt : kSt Λ) {k1 : Nat} (r_k1 : mRef k1 = true) (t_k1 : mK k1 = 0) (hk3 : k1 ≠ 3) {i n : Nat} {v : List Int32} (hi : i + v.length ≤ mN k1) (hv9 : tl (F k1) i v.length = v) (hv1 : 1 ≤ v.length) (hv2 : v.length ≤ 2000) (h4 : I 4 = nI n) (hn : n ≤ 1000) : mCt Λ mX12_state m A [.ref m, .ref (A k1), .int (nI i), .int (nI v.length)] I F (fun r I' F' => r = none ∧ I' = mo I n (stS v) ∧ F' = fo F n (stS v)) := by
  refine mCt.of hA pn_X12 [some (.ref m), some (.ref (A k1)), some (.int (nI i)), some (.int (nI v.length)), none, none] rfl (Nat.le_of_ble_eq_true rfl) fun X => ?_
  have hm1 := mN_lt k1
  refine M.iload_n dX12_state_0 rfl ?_
  refine M.iconst (v := 1) dX12_state_1 (by decide) ?_
  refine M.icmp_ge (tgt := 6) dX12_state_2 (by decide) (fun c_2 => ?_) (fun c_2 => absurd (nI_leI (a := 1) (by omega) (by omega) |>.mpr hv1) c_2)
  refine M.aload_nR dX12_state_6 rfl ?_
  refine M.ldcwS dX12_state_7 sr_X12_343 ?_
  refine M.callV [.ref (kSa Λ RX12 343)] dX12_state_10 mdX12_says imX12_says seX12_says lk_X12_334 rfl rfl rfl rfl (m_says hA (st_X12_343 hSt) sb_andState_b h4 (by rw [sb_andState_len]; omega)) ?_
  rintro _ I9 F9 ⟨rfl, e9, e8⟩
  have e9 := e9.symm; subst e9; have e8 := e8.symm; subst e8
  refine M.iconst (v := 0) dX12_state_13 (by decide) ?_
  refine M.istore (L' := [some (.ref m), some (.ref (A k1)), some (.int (nI i)), some (.int (nI v.length)), some (.int 0), none]) dX12_state_14 (by decide) rfl rfl ?_
  have cut_16 : ∀ (k_16 : Nat) (x : Nat), (x ≤ v.length) → (v.length + 1 ≤ x + k_16) → M Λ X mX12_state m A (fun r I' F' => r = none ∧ I' = mo I n (stS v) ∧ F' = fo F n (stS v)) (mo I n (sb_andState ++ (v.take x).flatMap escb)) (fo F n (sb_andState ++ (v.take x).flatMap escb)) 16 [some (.ref m), some (.ref (A k1)), some (.int (nI i)), some (.int (nI v.length)), some (.int (nI x)), none] [] := by
    intro k_16
    induction k_16 with
    | zero => intro x h1 h2; exact absurd h2 (by omega)
    | succ k_16 ih_16 =>
      intro x h1 h2
      have hel := esc_le v x h1
      refine M.iload dX12_state_16 rfl ?_
      refine M.iload_n dX12_state_18 rfl ?_
      refine M.icmp_ge (tgt := 160) dX12_state_19 (by decide) (fun c_19 => ?_) (fun c_19 => ?_)
      · skip
        refine M.vret dX12_state_160 rfl ?_
        have e1 := nI_gen c_19 h1 (by omega); subst e1
        refine ⟨rfl, ?_, ?_⟩
        all_goals (rw [stS, if_neg (by omega), List.take_length])
      · skip
        have lt_x : x < v.length := nI_ltn c_19 (by omega) (by omega)
        refine M.aload_nR dX12_state_22 rfl ?_
        refine M.iload_n dX12_state_23 rfl ?_
        refine M.iload dX12_state_24 rfl ?_
        refine M.iadd dX12_state_26 ?_
        rw [show (nI i) + (nI x) = nI (i + x) from nI_add i x]
        refine M.baldv (k9 := k1) (j := i + x) (g := F k1) (v := v.getD x 0) dX12_state_27 r_k1 t_k1 (setF_n _ _ hk3) rfl (by omega) (tl_bs.mp hv9 x lt_x) ?_
        refine M.sipush (v := 255) dX12_state_28 (by decide) ?_
        refine M.iand dX12_state_31 ?_
        refine M.istore (L' := [some (.ref m), some (.ref (A k1)), some (.int (nI i)), some (.int (nI v.length)), some (.int (nI x)), some (.int ((v.getD x 0) &&& 255))]) dX12_state_32 (by decide) rfl rfl ?_
        refine M.iload dX12_state_34 rfl ?_
        refine M.callJ (v := .int (bI (aldg ((v.getD x 0) &&& 255)))) [.int ((v.getD x 0) &&& 255)] dX12_state_36 mdX12_isLetterOrDigit ssX12_isLetterOrDigit lk_X12_345 rfl rfl rfl rfl (fun σ9 => m_isLetterOrDigit ((v.getD x 0) &&& 255)) ?_
        refine M.if_ne (tgt := 70) dX12_state_39 (by decide) (fun c_39 => ?_) (fun c_39 => ?_)
        · skip
          have hu : unres (v.getD x 0 &&& 255) = true := by
            rw [unres]
            first | (rw [bt1 c_39]; simp) | (rw [decide_eq_true (p := v.getD x 0 &&& 255 = 45) c_46]; simp) | (rw [decide_eq_true (p := v.getD x 0 &&& 255 = 46) c_53]; simp) | (rw [decide_eq_true (p := v.getD x 0 &&& 255 = 95) c_60]; simp) | (rw [decide_eq_true (p := v.getD x 0 &&& 255 = 126) c_67]; simp)
          refine M.aload_nR dX12_state_70 rfl ?_
          refine M.iload dX12_state_71 rfl ?_
          refine M.callV [.int ((v.getD x 0) &&& 255)] dX12_state_73 mdX12_puts imX12_puts seX12_puts lk_X12_299 rfl rfl rfl rfl (m_puts hA ((v.getD x 0) &&& 255) (mo_4 rfl) (by simp only [List.length_append, List.length_cons, List.length_nil, sb_andState_len]; omega)) ?_
          rintro _ I9 F9 ⟨rfl, e9, e8⟩
          have e9 := e9.symm; subst e9; have e8 := e8.symm; subst e8
          rw [mo_mo rfl, fo_fo rfl]
          refine M.goto (tgt := 154) dX12_state_76 (by decide) ?_
          refine M.iinc (v := nI (x + 1)) (L' := [some (.ref m), some (.ref (A k1)), some (.int (nI i)), some (.int (nI v.length)), some (.int (nI (x + 1))), some (.int ((v.getD x 0) &&& 255))]) dX12_state_154 rfl (nI_1 x) (by decide) rfl rfl ?_
          refine M.goto (tgt := 16) dX12_state_157 (by decide) ?_
          refine M.drop (i := 5) (L' := [some (.ref m), some (.ref (A k1)), some (.int (nI i)), some (.int (nI v.length)), some (.int (nI (x + 1))), none]) rfl ?_
          have t9 := ih_16 (x + 1) (by omega) (by omega)
          rw [fm_take lt_x, escb_t hu, ← List.append_assoc] at t9
          exact t9
        · skip
          refine M.iload dX12_state_42 rfl ?_
          refine M.bipush (v := 45) dX12_state_44 (by decide) ?_
          refine M.icmp_eq (tgt := 70) dX12_state_46 (by decide) (fun c_46 => ?_) (fun c_46 => ?_)
          · skip
            have hu : unres (v.getD x 0 &&& 255) = true := by
              rw [unres]
              first | (rw [bt1 c_39]; simp) | (rw [decide_eq_true (p := v.getD x 0 &&& 255 = 45) c_46]; simp) | (rw [decide_eq_true (p := v.getD x 0 &&& 255 = 46) c_53]; simp) | (rw [decide_eq_true (p := v.getD x 0 &&& 255 = 95) c_60]; simp) | (rw [decide_eq_true (p := v.getD x 0 &&& 255 = 126) c_67]; simp)
            refine M.aload_nR dX12_state_70 rfl ?_
            refine M.iload dX12_state_71 rfl ?_
            refine M.callV [.int ((v.getD x 0) &&& 255)] dX12_state_73 mdX12_puts imX12_puts seX12_puts lk_X12_299 rfl rfl rfl rfl (m_puts hA ((v.getD x 0) &&& 255) (mo_4 rfl) (by simp only [List.length_append, List.length_cons, List.length_nil, sb_andState_len]; omega)) ?_
            rintro _ I9 F9 ⟨rfl, e9, e8⟩
            have e9 := e9.symm; subst e9; have e8 := e8.symm; subst e8
            rw [mo_mo rfl, fo_fo rfl]
            refine M.goto (tgt := 154) dX12_state_76 (by decide) ?_
            refine M.iinc (v := nI (x + 1)) (L' := [some (.ref m), some (.ref (A k1)), some (.int (nI i)), some (.int (nI v.length)), some (.int (nI (x + 1))), some (.int ((v.getD x 0) &&& 255))]) dX12_state_154 rfl (nI_1 x) (by decide) rfl rfl ?_
            refine M.goto (tgt := 16) dX12_state_157 (by decide) ?_
            refine M.drop (i := 5) (L' := [some (.ref m), some (.ref (A k1)), some (.int (nI i)), some (.int (nI v.length)), some (.int (nI (x + 1))), none]) rfl ?_
            have t9 := ih_16 (x + 1) (by omega) (by omega)
            rw [fm_take lt_x, escb_t hu, ← List.append_assoc] at t9
            exact t9
          · skip
            refine M.iload dX12_state_49 rfl ?_
            refine M.bipush (v := 46) dX12_state_51 (by decide) ?_
            refine M.icmp_eq (tgt := 70) dX12_state_53 (by decide) (fun c_53 => ?_) (fun c_53 => ?_)
            · skip
              have hu : unres (v.getD x 0 &&& 255) = true := by
                rw [unres]
                first | (rw [bt1 c_39]; simp) | (rw [decide_eq_true (p := v.getD x 0 &&& 255 = 45) c_46]; simp) | (rw [decide_eq_true (p := v.getD x 0 &&& 255 = 46) c_53]; simp) | (rw [decide_eq_true (p := v.getD x 0 &&& 255 = 95) c_60]; simp) | (rw [decide_eq_true (p := v.getD x 0 &&& 255 = 126) c_67]; simp)
              refine M.aload_nR dX12_state_70 rfl ?_
              refine M.iload dX12_state_71 rfl ?_
              refine M.callV [.int ((v.getD x 0) &&& 255)] dX12_state_73 mdX12_puts imX12_puts seX12_puts lk_X12_299 rfl rfl rfl rfl (m_puts hA ((v.getD x 0) &&& 255) (mo_4 rfl) (by simp only [List.length_append, List.length_cons, List.length_nil, sb_andState_len]; omega)) ?_
              rintro _ I9 F9 ⟨rfl, e9, e8⟩
              have e9 := e9.symm; subst e9; have e8 := e8.symm; subst e8
              rw [mo_mo rfl, fo_fo rfl]
              refine M.goto (tgt := 154) dX12_state_76 (by decide) ?_
              refine M.iinc (v := nI (x + 1)) (L' := [some (.ref m), some (.ref (A k1)), some (.int (nI i)), some (.int (nI v.length)), some (.int (nI (x + 1))), some (.int ((v.getD x 0) &&& 255))]) dX12_state_154 rfl (nI_1 x) (by decide) rfl rfl ?_
              refine M.goto (tgt := 16) dX12_state_157 (by decide) ?_
              refine M.drop (i := 5) (L' := [some (.ref m), some (.ref (A k1)), some (.int (nI i)), some (.int (nI v.length)), some (.int (nI (x + 1))), none]) rfl ?_
              have t9 := ih_16 (x + 1) (by omega) (by omega)
              rw [fm_take lt_x, escb_t hu, ← List.append_assoc] at t9
              exact t9
            · skip
              refine M.iload dX12_state_56 rfl ?_
              refine M.bipush (v := 95) dX12_state_58 (by decide) ?_
              refine M.icmp_eq (tgt := 70) dX12_state_60 (by decide) (fun c_60 => ?_) (fun c_60 => ?_)
              · skip
                have hu : unres (v.getD x 0 &&& 255) = true := by
                  rw [unres]
                  first | (rw [bt1 c_39]; simp) | (rw [decide_eq_true (p := v.getD x 0 &&& 255 = 45) c_46]; simp) | (rw [decide_eq_true (p := v.getD x 0 &&& 255 = 46) c_53]; simp) | (rw [decide_eq_true (p := v.getD x 0 &&& 255 = 95) c_60]; simp) | (rw [decide_eq_true (p := v.getD x 0 &&& 255 = 126) c_67]; simp)
                refine M.aload_nR dX12_state_70 rfl ?_
                refine M.iload dX12_state_71 rfl ?_
                refine M.callV [.int ((v.getD x 0) &&& 255)] dX12_state_73 mdX12_puts imX12_puts seX12_puts lk_X12_299 rfl rfl rfl rfl (m_puts hA ((v.getD x 0) &&& 255) (mo_4 rfl) (by simp only [List.length_append, List.length_cons, List.length_nil, sb_andState_len]; omega)) ?_
                rintro _ I9 F9 ⟨rfl, e9, e8⟩
                have e9 := e9.symm; subst e9; have e8 := e8.symm; subst e8
                rw [mo_mo rfl, fo_fo rfl]
                refine M.goto (tgt := 154) dX12_state_76 (by decide) ?_
                refine M.iinc (v := nI (x + 1)) (L' := [some (.ref m), some (.ref (A k1)), some (.int (nI i)), some (.int (nI v.length)), some (.int (nI (x + 1))), some (.int ((v.getD x 0) &&& 255))]) dX12_state_154 rfl (nI_1 x) (by decide) rfl rfl ?_
                refine M.goto (tgt := 16) dX12_state_157 (by decide) ?_
                refine M.drop (i := 5) (L' := [some (.ref m), some (.ref (A k1)), some (.int (nI i)), some (.int (nI v.length)), some (.int (nI (x + 1))), none]) rfl ?_
                have t9 := ih_16 (x + 1) (by omega) (by omega)
                rw [fm_take lt_x, escb_t hu, ← List.append_assoc] at t9
                exact t9
              · skip
                refine M.iload dX12_state_63 rfl ?_
                refine M.bipush (v := 126) dX12_state_65 (by decide) ?_
                refine M.icmp_ne (tgt := 79) dX12_state_67 (by decide) (fun c_67 => ?_) (fun c_67 => ?_)
                · skip
                  have hu : unres (v.getD x 0 &&& 255) = false := by rw [unres, (bI_eq0 _).mp c_39, decide_eq_false c_46, decide_eq_false c_53, decide_eq_false c_60, decide_eq_false c_67]; rfl
                  refine M.aload_nR dX12_state_79 rfl ?_
                  refine M.bipush (v := 37) dX12_state_80 (by decide) ?_
                  refine M.callV [.int 37] dX12_state_82 mdX12_puts imX12_puts seX12_puts lk_X12_299 rfl rfl rfl rfl (m_puts hA 37 (mo_4 rfl) (by simp only [List.length_append, List.length_cons, List.length_nil, sb_andState_len]; omega)) ?_
                  rintro _ I9 F9 ⟨rfl, e9, e8⟩
                  have e9 := e9.symm; subst e9; have e8 := e8.symm; subst e8
                  rw [mo_mo rfl, fo_fo rfl]
                  refine M.aload_nR dX12_state_85 rfl ?_
                  refine M.iload dX12_state_86 rfl ?_
                  refine M.iconst (v := 4) dX12_state_88 (by decide) ?_
                  refine M.ishr dX12_state_89 ?_
                  refine M.bipush (v := 10) dX12_state_90 (by decide) ?_
                  refine M.icmp_ge (tgt := 105) dX12_state_92 (by decide) (fun c_92 => ?_) (fun c_92 => ?_)
                  · skip
                    refine M.bipush (v := 65) dX12_state_105 (by decide) ?_
                    refine M.iload dX12_state_107 rfl ?_
                    refine M.iconst (v := 4) dX12_state_109 (by decide) ?_
                    refine M.ishr dX12_state_110 ?_
                    refine M.iadd dX12_state_111 ?_
                    refine M.bipush (v := 10) dX12_state_112 (by decide) ?_
                    refine M.isub dX12_state_114 ?_
                    rw [show (65 + (((v.getD x 0) &&& 255) >>> ((4 : Int32) &&& 31))) - 10 = hxc ((v.getD x 0 &&& 255) >>> ((4 : Int32) &&& 31)) from by rw [hxc, if_neg (Int32.not_lt.mpr c_92)]]
                    refine M.callV [.int (hxc ((v.getD x 0 &&& 255) >>> ((4 : Int32) &&& 31)))] dX12_state_115 mdX12_puts imX12_puts seX12_puts lk_X12_299 rfl rfl rfl rfl (m_puts hA (hxc ((v.getD x 0 &&& 255) >>> ((4 : Int32) &&& 31))) (mo_4 rfl) (by simp only [List.length_append, List.length_cons, List.length_nil, sb_andState_len]; omega)) ?_
                    rintro _ I9 F9 ⟨rfl, e9, e8⟩
                    have e9 := e9.symm; subst e9; have e8 := e8.symm; subst e8
                    rw [mo_mo rfl, fo_fo rfl]
                    refine M.aload_nR dX12_state_118 rfl ?_
                    refine M.iload dX12_state_119 rfl ?_
                    refine M.bipush (v := 15) dX12_state_121 (by decide) ?_
                    refine M.iand dX12_state_123 ?_
                    refine M.bipush (v := 10) dX12_state_124 (by decide) ?_
                    refine M.icmp_ge (tgt := 140) dX12_state_126 (by decide) (fun c_126 => ?_) (fun c_126 => ?_)
                    · skip
                      refine M.bipush (v := 65) dX12_state_140 (by decide) ?_
                      refine M.iload dX12_state_142 rfl ?_
                      refine M.bipush (v := 15) dX12_state_144 (by decide) ?_
                      refine M.iand dX12_state_146 ?_
                      refine M.iadd dX12_state_147 ?_
                      refine M.bipush (v := 10) dX12_state_148 (by decide) ?_
                      refine M.isub dX12_state_150 ?_
                      rw [show (65 + (((v.getD x 0) &&& 255) &&& 15)) - 10 = hxc ((v.getD x 0 &&& 255) &&& 15) from by rw [hxc, if_neg (Int32.not_lt.mpr c_126)]]
                      refine M.callV [.int (hxc ((v.getD x 0 &&& 255) &&& 15))] dX12_state_151 mdX12_puts imX12_puts seX12_puts lk_X12_299 rfl rfl rfl rfl (m_puts hA (hxc ((v.getD x 0 &&& 255) &&& 15)) (mo_4 rfl) (by simp only [List.length_append, List.length_cons, List.length_nil, sb_andState_len]; omega)) ?_
                      rintro _ I9 F9 ⟨rfl, e9, e8⟩
                      have e9 := e9.symm; subst e9; have e8 := e8.symm; subst e8
                      rw [mo_mo rfl, fo_fo rfl]
                      refine M.iinc (v := nI (x + 1)) (L' := [some (.ref m), some (.ref (A k1)), some (.int (nI i)), some (.int (nI v.length)), some (.int (nI (x + 1))), some (.int ((v.getD x 0) &&& 255))]) dX12_state_154 rfl (nI_1 x) (by decide) rfl rfl ?_
                      refine M.goto (tgt := 16) dX12_state_157 (by decide) ?_
                      refine M.drop (i := 5) (L' := [some (.ref m), some (.ref (A k1)), some (.int (nI i)), some (.int (nI v.length)), some (.int (nI (x + 1))), none]) rfl ?_
                      have t9 := ih_16 (x + 1) (by omega) (by omega)
                      rw [fm_take lt_x, escb_f hu, ← app4] at t9
                      exact t9
                    · skip
                      refine M.bipush (v := 48) dX12_state_129 (by decide) ?_
                      refine M.iload dX12_state_131 rfl ?_
                      refine M.bipush (v := 15) dX12_state_133 (by decide) ?_
                      refine M.iand dX12_state_135 ?_
                      refine M.iadd dX12_state_136 ?_
                      refine M.goto (tgt := 151) dX12_state_137 (by decide) ?_
                      rw [show 48 + (((v.getD x 0) &&& 255) &&& 15) = hxc ((v.getD x 0 &&& 255) &&& 15) from by rw [hxc, if_pos (Int32.not_le.mp c_126)]]
                      refine M.callV [.int (hxc ((v.getD x 0 &&& 255) &&& 15))] dX12_state_151 mdX12_puts imX12_puts seX12_puts lk_X12_299 rfl rfl rfl rfl (m_puts hA (hxc ((v.getD x 0 &&& 255) &&& 15)) (mo_4 rfl) (by simp only [List.length_append, List.length_cons, List.length_nil, sb_andState_len]; omega)) ?_
                      rintro _ I9 F9 ⟨rfl, e9, e8⟩
                      have e9 := e9.symm; subst e9; have e8 := e8.symm; subst e8
                      rw [mo_mo rfl, fo_fo rfl]
                      refine M.iinc (v := nI (x + 1)) (L' := [some (.ref m), some (.ref (A k1)), some (.int (nI i)), some (.int (nI v.length)), some (.int (nI (x + 1))), some (.int ((v.getD x 0) &&& 255))]) dX12_state_154 rfl (nI_1 x) (by decide) rfl rfl ?_
                      refine M.goto (tgt := 16) dX12_state_157 (by decide) ?_
                      refine M.drop (i := 5) (L' := [some (.ref m), some (.ref (A k1)), some (.int (nI i)), some (.int (nI v.length)), some (.int (nI (x + 1))), none]) rfl ?_
                      have t9 := ih_16 (x + 1) (by omega) (by omega)
                      rw [fm_take lt_x, escb_f hu, ← app4] at t9
                      exact t9
                  · skip
                    refine M.bipush (v := 48) dX12_state_95 (by decide) ?_
                    refine M.iload dX12_state_97 rfl ?_
                    refine M.iconst (v := 4) dX12_state_99 (by decide) ?_
                    refine M.ishr dX12_state_100 ?_
                    refine M.iadd dX12_state_101 ?_
                    refine M.goto (tgt := 115) dX12_state_102 (by decide) ?_
                    rw [show 48 + (((v.getD x 0) &&& 255) >>> ((4 : Int32) &&& 31)) = hxc ((v.getD x 0 &&& 255) >>> ((4 : Int32) &&& 31)) from by rw [hxc, if_pos (Int32.not_le.mp c_92)]]
                    refine M.callV [.int (hxc ((v.getD x 0 &&& 255) >>> ((4 : Int32) &&& 31)))] dX12_state_115 mdX12_puts imX12_puts seX12_puts lk_X12_299 rfl rfl rfl rfl (m_puts hA (hxc ((v.getD x 0 &&& 255) >>> ((4 : Int32) &&& 31))) (mo_4 rfl) (by simp only [List.length_append, List.length_cons, List.length_nil, sb_andState_len]; omega)) ?_
                    rintro _ I9 F9 ⟨rfl, e9, e8⟩
                    have e9 := e9.symm; subst e9; have e8 := e8.symm; subst e8
                    rw [mo_mo rfl, fo_fo rfl]
                    refine M.aload_nR dX12_state_118 rfl ?_
                    refine M.iload dX12_state_119 rfl ?_
                    refine M.bipush (v := 15) dX12_state_121 (by decide) ?_
                    refine M.iand dX12_state_123 ?_
                    refine M.bipush (v := 10) dX12_state_124 (by decide) ?_
                    refine M.icmp_ge (tgt := 140) dX12_state_126 (by decide) (fun c_126 => ?_) (fun c_126 => ?_)
                    · skip
                      refine M.bipush (v := 65) dX12_state_140 (by decide) ?_
                      refine M.iload dX12_state_142 rfl ?_
                      refine M.bipush (v := 15) dX12_state_144 (by decide) ?_
                      refine M.iand dX12_state_146 ?_
                      refine M.iadd dX12_state_147 ?_
                      refine M.bipush (v := 10) dX12_state_148 (by decide) ?_
                      refine M.isub dX12_state_150 ?_
                      rw [show (65 + (((v.getD x 0) &&& 255) &&& 15)) - 10 = hxc ((v.getD x 0 &&& 255) &&& 15) from by rw [hxc, if_neg (Int32.not_lt.mpr c_126)]]
                      refine M.callV [.int (hxc ((v.getD x 0 &&& 255) &&& 15))] dX12_state_151 mdX12_puts imX12_puts seX12_puts lk_X12_299 rfl rfl rfl rfl (m_puts hA (hxc ((v.getD x 0 &&& 255) &&& 15)) (mo_4 rfl) (by simp only [List.length_append, List.length_cons, List.length_nil, sb_andState_len]; omega)) ?_
                      rintro _ I9 F9 ⟨rfl, e9, e8⟩
                      have e9 := e9.symm; subst e9; have e8 := e8.symm; subst e8
                      rw [mo_mo rfl, fo_fo rfl]
                      refine M.iinc (v := nI (x + 1)) (L' := [some (.ref m), some (.ref (A k1)), some (.int (nI i)), some (.int (nI v.length)), some (.int (nI (x + 1))), some (.int ((v.getD x 0) &&& 255))]) dX12_state_154 rfl (nI_1 x) (by decide) rfl rfl ?_
                      refine M.goto (tgt := 16) dX12_state_157 (by decide) ?_
                      refine M.drop (i := 5) (L' := [some (.ref m), some (.ref (A k1)), some (.int (nI i)), some (.int (nI v.length)), some (.int (nI (x + 1))), none]) rfl ?_
                      have t9 := ih_16 (x + 1) (by omega) (by omega)
                      rw [fm_take lt_x, escb_f hu, ← app4] at t9
                      exact t9
                    · skip
                      refine M.bipush (v := 48) dX12_state_129 (by decide) ?_
                      refine M.iload dX12_state_131 rfl ?_
                      refine M.bipush (v := 15) dX12_state_133 (by decide) ?_
                      refine M.iand dX12_state_135 ?_
                      refine M.iadd dX12_state_136 ?_
                      refine M.goto (tgt := 151) dX12_state_137 (by decide) ?_
                      rw [show 48 + (((v.getD x 0) &&& 255) &&& 15) = hxc ((v.getD x 0 &&& 255) &&& 15) from by rw [hxc, if_pos (Int32.not_le.mp c_126)]]
                      refine M.callV [.int (hxc ((v.getD x 0 &&& 255) &&& 15))] dX12_state_151 mdX12_puts imX12_puts seX12_puts lk_X12_299 rfl rfl rfl rfl (m_puts hA (hxc ((v.getD x 0 &&& 255) &&& 15)) (mo_4 rfl) (by simp only [List.length_append, List.length_cons, List.length_nil, sb_andState_len]; omega)) ?_
                      rintro _ I9 F9 ⟨rfl, e9, e8⟩
                      have e9 := e9.symm; subst e9; have e8 := e8.symm; subst e8
                      rw [mo_mo rfl, fo_fo rfl]
                      refine M.iinc (v := nI (x + 1)) (L' := [some (.ref m), some (.ref (A k1)), some (.int (nI i)), some (.int (nI v.length)), some (.int (nI (x + 1))), some (.int ((v.getD x 0) &&& 255))]) dX12_state_154 rfl (nI_1 x) (by decide) rfl rfl ?_
                      refine M.goto (tgt := 16) dX12_state_157 (by decide) ?_
                      refine M.drop (i := 5) (L' := [some (.ref m), some (.ref (A k1)), some (.int (nI i)), some (.int (nI v.length)), some (.int (nI (x + 1))), none]) rfl ?_
                      have t9 := ih_16 (x + 1) (by omega) (by omega)
                      rw [fm_take lt_x, escb_f hu, ← app4] at t9
                      exact t9
                · skip
                  have hu : unres (v.getD x 0 &&& 255) = true := by
                    rw [unres]
                    first | (rw [bt1 c_39]; simp) | (rw [decide_eq_true (p := v.getD x 0 &&& 255 = 45) c_46]; simp) | (rw [decide_eq_true (p := v.getD x 0 &&& 255 = 46) c_53]; simp) | (rw [decide_eq_true (p := v.getD x 0 &&& 255 = 95) c_60]; simp) | (rw [decide_eq_true (p := v.getD x 0 &&& 255 = 126) c_67]; simp)
                  refine M.aload_nR dX12_state_70 rfl ?_
                  refine M.iload dX12_state_71 rfl ?_
                  refine M.callV [.int ((v.getD x 0) &&& 255)] dX12_state_73 mdX12_puts imX12_puts seX12_puts lk_X12_299 rfl rfl rfl rfl (m_puts hA ((v.getD x 0) &&& 255) (mo_4 rfl) (by simp only [List.length_append, List.length_cons, List.length_nil, sb_andState_len]; omega)) ?_
                  rintro _ I9 F9 ⟨rfl, e9, e8⟩
                  have e9 := e9.symm; subst e9; have e8 := e8.symm; subst e8
                  rw [mo_mo rfl, fo_fo rfl]
                  refine M.goto (tgt := 154) dX12_state_76 (by decide) ?_
                  refine M.iinc (v := nI (x + 1)) (L' := [some (.ref m), some (.ref (A k1)), some (.int (nI i)), some (.int (nI v.length)), some (.int (nI (x + 1))), some (.int ((v.getD x 0) &&& 255))]) dX12_state_154 rfl (nI_1 x) (by decide) rfl rfl ?_
                  refine M.goto (tgt := 16) dX12_state_157 (by decide) ?_
                  refine M.drop (i := 5) (L' := [some (.ref m), some (.ref (A k1)), some (.int (nI i)), some (.int (nI v.length)), some (.int (nI (x + 1))), none]) rfl ?_
                  have t9 := ih_16 (x + 1) (by omega) (by omega)
                  rw [fm_take lt_x, escb_t hu, ← List.append_assoc] at t9
                  exact t9
  have t9 := cut_16 (v.length + 1) 0 (by omega) (by omega)
  rw [List.take_zero, List.flatMap_nil, List.append_nil] at t9
  exact t9
