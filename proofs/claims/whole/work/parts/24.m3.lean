/-! the reference: pieces and forms -/
section DR
variable {Λ : kL} {X : kX} {μ : kMi} {mc ms : Nat} {Z : State → Prop} {bc bs : Nat} {σ : kh} {pc : Nat} {L L' : List (Option Value)} {st : List Value} {i : Nat}
theorem set_none_at {L : List (Option Value)} {i j : Nat} {v : Value} (h : (L.set i none)[j]? = some (some v)) : L[j]? = some (some v) := by
  by_cases e : i = j
  · subst e
    rw [List.getElem?_set] at h
    by_cases hl : i < L.length
    · simp [hl] at h
    · simp [hl] at h
  · rwa [List.getElem?_set_ne e] at h
theorem K.drop (hL : L.set i none = L') (k : K Λ X μ mc ms Z bc bs σ pc L' st) : K Λ X μ mc ms Z bc bs σ pc L st := by
  subst hL
  exact fun F H locs k1 n1 ls h1 h2 h3 h4 h5 h6 => k F H locs k1 n1 ls h1 h2 h3 h4 h5 ⟨h6.1, h6.2.1, fun j v hj => h6.2.2 j v (set_none_at hj)⟩
theorem J.drop (hL : L.set i none = L') (k : J Λ X μ mc ms Z bc bs σ pc L' st) : J Λ X μ mc ms Z bc bs σ pc L st := fun ρ hρ => K.drop hL (k ρ hρ)
end DR
theorem M.drop {Λ : kL} {X : kX} {μ : kMi} {m : Nat} {A : Nat → Nat} {Q : Option Value → (Nat → Int32) → (Nat → Nat → Int32) → Prop} {I : Nat → Int32} {F : Nat → Nat → Int32} {pc : Nat} {L L' : List (Option Value)} {st : List Value} {i : Nat} (hL : L.set i none = L') (k : M Λ X μ m A Q I F pc L' st) : M Λ X μ m A Q I F pc L st := fun hA σ0 σ h1 h2 => J.drop hL (k hA σ0 σ h1 h2)
theorem byt_tl {f : Nat → Int32} {i : Nat} {l : List Int32} (h : tl f i l.length = l) (hb : ∀ x ∈ l, b8 x = x) : byt f i l.length := by
  intro j hj
  have h2 := tl_bs.mp h j hj
  rw [h2]
  rw [List.getD_eq_getElem?_getD, List.getElem?_eq_getElem hj]
  exact hb _ (List.getElem_mem hj)
theorem m_knownN {Λ : kL} {m : Nat} {A : Nat → Nat} {I : Nat → Int32} {F : Nat → Nat → Int32} (hA : mInj A) (hSt : kSt Λ) {k1 : Nat} (r_k1 : mRef k1 = true) (t_k1 : mK k1 = 0) {nm : List Int32} (hn : nm.length ≤ mN k1) (hk : tl (F k1) 0 nm.length = nm) (hb : ∀ x ∈ nm, b8 x = x) : mCt Λ mX12_known m A [.ref (A k1), .int (nI nm.length)] I F (fun r I' F' => r = some (.int (if knw nm = 13 then -1 else nI (knw nm))) ∧ I' = I ∧ F' = F) := by
  have h := m_known (Λ := Λ) (m := m) (I := I) hA hSt r_k1 t_k1 hn (byt_tl hk hb)
  rw [hk] at h
  exact h
theorem knw_le (l : List Int32) : knw l ≤ 13 := by
  have := (fsti_ge (p := fun k => decide (l = nmL.getD k [])) (k := 13) (i := 0)).2
  rw [knw]
  omega
theorem nI_subl (a b : Nat) : nI (a + b) - nI a = nI b := by
  rw [← nI_add, Int32.add_comm, Int32.add_sub_cancel]
theorem map_app {o : Option (List Int32)} {f : Option (List Int32)} {acc : List Int32} {x : Int32} (h : f = o.map (fun z => x :: z)) : f.map (fun z => acc ++ z) = o.map (fun z => (acc ++ [x]) ++ z) := by
  subst h
  cases o with
  | none => rfl
  | some l => show some (acc ++ x :: l) = some ((acc ++ [x]) ++ l); rw [List.append_assoc]; rfl
/-- the values of a form as the reference keeps them -/
def vrl (F : Nat → Nat → Int32) (fl : Nat) (g : fvs) : Prop := ∀ k, k < 13 → (g k = none ∧ F 65 k = -1) ∨ ∃ (v : List Int32) (i : Nat), g k = some v ∧ F 64 k = nI i ∧ F 65 k = nI v.length ∧ i + v.length ≤ fl ∧ tl (F 63) i v.length = v ∧ ∀ x ∈ v, b8 x = x
theorem vrl.neg {F : Nat → Nat → Int32} {fl : Nat} {g : fvs} (h : vrl F fl g) (hf : fl ≤ 2000) {k : Nat} (hk : k < 13) : F 65 k < 0 ↔ g k = none := by
  rcases h k hk with ⟨h1, h2⟩ | ⟨v, i, h1, -, h3, h4, -⟩
  · rw [h1, h2]; exact ⟨fun _ => rfl, fun _ => by decide⟩
  · rw [h1, h3]
    exact ⟨fun q => absurd q (nI_pos (by omega)), fun q => by cases q⟩
theorem vrl.keep {F : Nat → Nat → Int32} {fl : Nat} {g : fvs} (h : vrl F fl g) {g66 g63 : Nat → Int32} (h63 : ∀ j, j < fl → g63 j = F 63 j) : vrl (setF (setF F 66 g66) 63 g63) fl g := by
  intro k hk
  rcases h k hk with h1 | ⟨v, i, h1, h2, h3, h4, h5, h6⟩
  · exact Or.inl h1
  · refine Or.inr ⟨v, i, h1, h2, h3, h4, ?_, h6⟩
    rw [← h5, setF_s, tl_len]
    exact tl_eq.mpr fun j hj => (h63 _ (by omega))
theorem vrl.new {F : Nat → Nat → Int32} {fl : Nat} {g : fvs} (h : vrl F fl g) {g66 : Nat → Int32} {k : Nat} {v : List Int32} (hb : ∀ x ∈ v, b8 x = x) : vrl (setF (setF (setF (setF F 66 g66) 63 (updl (F 63) fl v)) 64 (upd (F 64) k (nI fl))) 65 (upd (F 65) k (nI v.length))) (fl + v.length) (updO g k v) := by
  intro j hj
  by_cases e : j = k
  · subst e
    refine Or.inr ⟨v, fl, if_pos rfl, pk_us, pk_us, Nat.le_refl _, ?_, hb⟩
    exact tl_in
  · rcases h j hj with h1 | ⟨w, i, h1, h2, h3, h4, h5, h6⟩
    · exact Or.inl ⟨(if_neg e).trans h1.1, (pk_un e).trans h1.2⟩
    · refine Or.inr ⟨w, i, (if_neg e).trans h1, (pk_un e).trans h2, (pk_un e).trans h3, by omega, ?_, h6⟩
      have h7 : tl (updl (F 63) fl v) i w.length = tl (F 63) i w.length := tl_eq.mpr fun y hy => updl_out (Or.inl (by omega))
      exact h7.trans h5
theorem upd_lt (f : Nat → Int32) (i : Nat) (x : Int32) : upd (fun j => if j < i then x else f j) i x = fun j => if j < i + 1 then x else f j := by
  funext j
  by_cases e : j = i
  · rw [e, pk_us, if_pos (Nat.lt_succ_self i)]
  · rw [pk_un e]
    by_cases h : j < i
    · rw [if_pos h, if_pos (by omega)]
    · rw [if_neg h, if_neg (by omega)]
theorem set65_0 (F : Nat → Nat → Int32) (x : Int32) : setF F 65 (fun j => if j < 0 then x else F 65 j) = F := by
  rw [show (fun j => if j < 0 then x else F 65 j) = F 65 from funext fun j => if_neg (Nat.not_lt_zero j), setF_self]
theorem dcn_pos (f : Nat → Int32) (p : Nat) : 1 ≤ dcn f p := by
  rw [dcn]
  by_cases h : f p = 37
  · rw [if_pos h]; decide
  · rw [if_neg h]; decide
def vf0 : fvs := fun _ => none
theorem vrl_0 (F : Nat → Nat → Int32) : vrl (setF F 65 (fun j => if j < 13 then -1 else F 65 j)) 0 vf0 := fun k hk => Or.inl ⟨rfl, if_pos hk⟩

theorem m_piece {Λ : kL} {m : Nat} {A : Nat → Nat} {I : Nat → Int32} {F : Nat → Nat → Int32} (hA : mInj A) (hSt : kSt Λ) {p e fl : Nat} (hp : p < e) (he : e ≤ 2000) (hfl : fl ≤ p) (hf : ∀ j, b8 (F 1 j) = F 1 j) {g : fvs} (hg : ∀ k, k < 13 → (F 65 k < 0 ↔ g k = none)) : mCt Λ mX12_piece m A [.ref m, .int (nI p), .int (nI e), .int (nI fl)] I F (fun r I' F' => (∃ x9 : Int32, I' = upd I 67 x9) ∧ ((pieI (F 1) p e g = none ∧ r = some (.int (-1)) ∧ ∃ g66 g63 : Nat → Int32, F' = setF (setF F 66 g66) 63 g63) ∨ (pieI (F 1) p e g = some g ∧ r = some (.int (nI fl)) ∧ ∃ g66 g63 : Nat → Int32, (∀ j, j < fl → g63 j = F 63 j) ∧ F' = setF (setF F 66 g66) 63 g63) ∨ ∃ (k9 : Nat) (v9 : List Int32) (g66 : Nat → Int32), k9 < 13 ∧ pieI (F 1) p e g = some (updO g k9 v9) ∧ r = some (.int (nI (fl + v9.length))) ∧ fl + v9.length ≤ e ∧ (∀ x ∈ v9, b8 x = x) ∧ F' = setF (setF (setF (setF F 66 g66) 63 (updl (F 63) fl v9)) 64 (upd (F 64) k9 (nI fl))) 65 (upd (F 65) k9 (nI v9.length)))) := by
  refine mCt.of hA pn_X12 [some (.ref m), some (.int (nI p)), some (.int (nI e)), some (.int (nI fl)), none, none, none, none] rfl (Nat.le_of_ble_eq_true rfl) fun X => ?_
  have hq := atI_ge (F 1) 61 (p := p) (e := e) (by omega)
  generalize eq9 : atI (F 1) 61 p e = q at hq
  have cut_71 : ∀ (k_71 : Nat) (p3 : Nat) (nm acc : List Int32) (y : Int32), (decI (F 1) p q = some nm) → (∀ x ∈ nm, b8 x = x) → (q + 1 ≤ p3) → (p3 ≤ e + 1) → (e + 2 ≤ p3 + k_71) → (acc.length ≤ p3 - (q + 1)) → (decI (F 1) (q + 1) e = (decI (F 1) p3 e).map (fun z => acc ++ z)) → (∀ x ∈ acc, b8 x = x) → M Λ X mX12_piece m A (fun r I' F' => (∃ x9 : Int32, I' = upd I 67 x9) ∧ ((pieI (F 1) p e g = none ∧ r = some (.int (-1)) ∧ ∃ g66 g63 : Nat → Int32, F' = setF (setF F 66 g66) 63 g63) ∨ (pieI (F 1) p e g = some g ∧ r = some (.int (nI fl)) ∧ ∃ g66 g63 : Nat → Int32, (∀ j, j < fl → g63 j = F 63 j) ∧ F' = setF (setF F 66 g66) 63 g63) ∨ ∃ (k9 : Nat) (v9 : List Int32) (g66 : Nat → Int32), k9 < 13 ∧ pieI (F 1) p e g = some (updO g k9 v9) ∧ r = some (.int (nI (fl + v9.length))) ∧ fl + v9.length ≤ e ∧ (∀ x ∈ v9, b8 x = x) ∧ F' = setF (setF (setF (setF F 66 g66) 63 (updl (F 63) fl v9)) 64 (upd (F 64) k9 (nI fl))) 65 (upd (F 65) k9 (nI v9.length)))) (upd I 67 y) (setF (setF F 66 (updl (F 66) 0 nm)) 63 (updl (F 63) fl acc)) 71 [some (.ref m), some (.int (nI p)), some (.int (nI e)), some (.int (nI fl)), some (.int (nI p3)), some (.int (nI nm.length)), some (.int (nI (fl + acc.length))), none] [] := by
    intro k_71
    induction k_71 with
    | zero => intro p3 nm acc y hnm hnb h3 h3b h4 ha hdd hb; exact absurd h4 (by omega)
    | succ k_71 ih_71 =>
      intro p3 nm acc y hnm hnb h3 h3b h4 ha hdd hb
      have hnl := decI_len (f := F 1) (q - p) p q nm (Nat.le_refl _) hnm
      refine M.iload dX12_piece_71 rfl ?_
      refine M.iload_n dX12_piece_73 rfl ?_
      refine M.icmp_ge (tgt := 118) dX12_piece_74 (by decide) (fun c_74 => ?_) (fun c_74 => ?_)
      · skip
        have e1 : ¬ p3 < e := fun z => absurd c_74 (nI_ge z (by omega))
        have hv9 : decI (F 1) (q + 1) e = some acc := by rw [hdd, decI_end (by omega)]; exact congrArg some (List.append_nil acc)
        refine M.aload_nR dX12_piece_118 rfl ?_
        refine M.getr dX12_piece_119 fl_X12_164 rfl rfl ?_
        refine M.iload dX12_piece_122 rfl ?_
        refine M.callS [.ref (A 66), .int (nI nm.length)] dX12_piece_124 mdX12_known ssX12_known lk_X12_253 rfl rfl rfl rfl (m_knownN hA hSt (k1 := 66) (nm := nm) (I := upd I 67 y) (F := (setF (setF F 66 (updl (F 66) 0 nm)) 63 (updl (F 63) fl acc))) rfl rfl (show nm.length ≤ 2000 by omega) (show tl (updl (F 66) 0 nm) 0 nm.length = nm from tl_in) hnb) ?_
        rintro _ I9 F9 ⟨rfl, e9, e8⟩
        have e9 := e9.symm; subst e9; have e8 := e8.symm; subst e8
        by_cases hk9 : knw nm = 13
        · rw [if_pos hk9]
          refine M.istore (L' := [some (.ref m), some (.int (nI p)), some (.int (nI e)), some (.int (nI fl)), some (.int (nI p3)), some (.int (nI nm.length)), some (.int (nI (fl + acc.length))), some (.int (-1))]) dX12_piece_127 (by decide) rfl rfl ?_
          refine M.iload dX12_piece_129 rfl ?_
          refine M.if_ge (tgt := 136) dX12_piece_131 (by decide) (fun c_131 => absurd c_131 (by decide)) (fun c_131 => ?_)
          refine M.iload_n dX12_piece_134 rfl ?_
          refine M.iret dX12_piece_135 rfl ?_
          refine ⟨⟨_, rfl⟩, Or.inr (Or.inl ⟨?_, rfl, _, _, fun j hj => updl_out (Or.inl hj), rfl⟩)⟩
          rw [pieI, eq9, hnm, hv9]
          exact if_pos hk9
        have hk8 : knw nm < 13 := by have := knw_le nm; omega
        rw [if_neg hk9]
        refine M.istore (L' := [some (.ref m), some (.int (nI p)), some (.int (nI e)), some (.int (nI fl)), some (.int (nI p3)), some (.int (nI nm.length)), some (.int (nI (fl + acc.length))), some (.int (nI (knw nm)))]) dX12_piece_127 (by decide) rfl rfl ?_
        refine M.iload dX12_piece_129 rfl ?_
        refine M.if_ge (tgt := 136) dX12_piece_131 (by decide) (fun c_131 => ?_) (fun c_131 => absurd (nI_pos' (by omega)) c_131)
        refine M.aload_nR dX12_piece_136 rfl ?_
        refine M.getr dX12_piece_137 fl_X12_161 rfl rfl ?_
        refine M.iload dX12_piece_140 rfl ?_
        refine M.iald (k9 := 65) (j := knw nm) (g := F 65) dX12_piece_142 rfl rfl rfl rfl (show knw nm < 13 by omega) ?_
        refine M.if_lt (tgt := 148) dX12_piece_143 (by decide) (fun c_143 => ?_) (fun c_143 => ?_)
        · skip
          refine M.aload_nR dX12_piece_148 rfl ?_
          refine M.getr dX12_piece_149 fl_X12_158 rfl rfl ?_
          refine M.iload dX12_piece_152 rfl ?_
          refine M.iload_n dX12_piece_154 rfl ?_
          refine M.iast (k9 := 64) (j := knw nm) dX12_piece_155 rfl rfl rfl (show knw nm < 13 by omega) ?_
          refine M.aload_nR dX12_piece_156 rfl ?_
          refine M.getr dX12_piece_157 fl_X12_161 rfl rfl ?_
          refine M.iload dX12_piece_160 rfl ?_
          refine M.iload dX12_piece_162 rfl ?_
          refine M.iload_n dX12_piece_164 rfl ?_
          refine M.isub dX12_piece_165 ?_
          rw [show (nI (fl + acc.length)) - (nI fl) = nI acc.length from nI_subl fl acc.length]
          refine M.iast (k9 := 65) (j := knw nm) dX12_piece_166 rfl rfl rfl (show knw nm < 13 by omega) ?_
          refine M.iload dX12_piece_167 rfl ?_
          refine M.iret dX12_piece_169 rfl ?_
          refine ⟨⟨_, rfl⟩, Or.inr (Or.inr ⟨knw nm, acc, _, hk8, ?_, rfl, by omega, hb, rfl⟩)⟩
          have h7 : ¬ (g (knw nm)).isSome = true := by rw [(hg _ hk8).mp c_143]; decide
          rw [pieI, eq9, hnm, hv9]
          exact (if_neg hk9).trans (if_neg h7)
        · skip
          refine M.iconst (v := (-1)) dX12_piece_146 (by decide) ?_
          refine M.iret dX12_piece_147 rfl ?_
          refine ⟨⟨_, rfl⟩, Or.inl ⟨?_, rfl, _, _, rfl⟩⟩
          have h7 : (g (knw nm)).isSome = true := by
            cases h8 : g (knw nm) with
            | none => exact absurd ((hg _ hk8).mpr h8) c_143
            | some z => rfl
          rw [pieI, eq9, hnm, hv9]
          exact (if_neg hk9).trans (if_pos h7)
      · skip
        have e1 : p3 < e := nI_ltn c_74 (by omega) (by omega)
        have hst9 := dec_step hf (p := p3) (q := e) (e := e) e1 (Nat.le_refl e) (Or.inl rfl)
        refine M.aload_nR dX12_piece_77 rfl ?_
        refine M.iload dX12_piece_78 rfl ?_
        refine M.iload_n dX12_piece_80 rfl ?_
        refine M.callV [.int (nI p3), .int (nI e)] dX12_piece_81 mdX12_decode imX12_decode seX12_decode lk_X12_249 rfl rfl rfl rfl (show mCt Λ mX12_decode m A [.ref m, .int (nI p3), .int (nI e)] (upd I 67 y) (setF (setF F 66 (updl (F 66) 0 nm)) 63 (updl (F 63) fl acc)) (fun r I' F' => r = some (.int (dcv (F 1) p3 e)) ∧ I' = upd (upd I 67 y) 67 (nI (dcn (F 1) p3)) ∧ F' = (setF (setF F 66 (updl (F 66) 0 nm)) 63 (updl (F 63) fl acc))) from m_decode hA (show p3 < e by omega) he) ?_
        rintro _ I9 F9 ⟨rfl, e9, e8⟩
        have e9 := e9.symm; subst e9; have e8 := e8.symm; subst e8
        rw [upd_upd]
        refine M.istore (L' := [some (.ref m), some (.int (nI p)), some (.int (nI e)), some (.int (nI fl)), some (.int (nI p3)), some (.int (nI nm.length)), some (.int (nI (fl + acc.length))), some (.int (dcv (F 1) p3 e))]) dX12_piece_84 (by decide) rfl rfl ?_
        refine M.iload dX12_piece_86 rfl ?_
        refine M.if_ge (tgt := 93) dX12_piece_88 (by decide) (fun c_88 => ?_) (fun c_88 => ?_)
        · skip
          have hs9 := hst9.2 (Int32.not_lt.mpr c_88)
          have hdp := dcn_pos (F 1) p3
          refine M.aload_nR dX12_piece_93 rfl ?_
          refine M.getr dX12_piece_94 fl_X12_155 rfl rfl ?_
          refine M.iload dX12_piece_97 rfl ?_
          refine M.iload dX12_piece_99 rfl ?_
          refine M.i2b8 dX12_piece_101 ?_
          refine M.bast1 (k9 := 63) (j := fl + acc.length) dX12_piece_102 rfl rfl rfl (show fl + acc.length < 2000 by omega) (b8_b8 _) ?_
          rw [updF_set, updl_snoc]
          refine M.iinc (v := nI (fl + (acc ++ [b8 (dcv (F 1) p3 e)]).length)) (L' := [some (.ref m), some (.int (nI p)), some (.int (nI e)), some (.int (nI fl)), some (.int (nI p3)), some (.int (nI nm.length)), some (.int (nI (fl + (acc ++ [b8 (dcv (F 1) p3 e)]).length))), some (.int (dcv (F 1) p3 e))]) dX12_piece_103 rfl (by rw [List.length_append, ← Nat.add_assoc]; exact nI_1 (fl + acc.length)) (by decide) rfl rfl ?_
          refine M.iload dX12_piece_106 rfl ?_
          refine M.aload_nR dX12_piece_108 rfl ?_
          refine M.geti (v := nI (dcn (F 1) p3)) dX12_piece_109 fl_X12_239 rfl rfl rfl ?_
          refine M.iadd dX12_piece_112 ?_
          rw [show (nI p3) + (nI (dcn (F 1) p3)) = nI (p3 + dcn (F 1) p3) from nI_add _ _]
          refine M.istore (L' := [some (.ref m), some (.int (nI p)), some (.int (nI e)), some (.int (nI fl)), some (.int (nI (p3 + dcn (F 1) p3))), some (.int (nI nm.length)), some (.int (nI (fl + (acc ++ [b8 (dcv (F 1) p3 e)]).length))), some (.int (dcv (F 1) p3 e))]) dX12_piece_113 (by decide) rfl rfl ?_
          refine M.goto (tgt := 71) dX12_piece_115 (by decide) ?_
          refine M.drop (i := 7) (L' := [some (.ref m), some (.int (nI p)), some (.int (nI e)), some (.int (nI fl)), some (.int (nI (p3 + dcn (F 1) p3))), some (.int (nI nm.length)), some (.int (nI (fl + (acc ++ [b8 (dcv (F 1) p3 e)]).length))), none]) rfl ?_
          exact ih_71 (p3 + dcn (F 1) p3) nm (acc ++ [b8 (dcv (F 1) p3 e)]) _ hnm hnb (by omega) (by omega) (by omega) (by rw [List.length_append]; show acc.length + 1 ≤ _; omega) (hdd.trans (map_app hs9.2)) (fun x hx => (List.mem_append.mp hx).elim (hb x) (fun h9 => by rw [List.mem_singleton.mp h9, b8_b8]))
        · skip
          have hs8 := hst9.1 (Int32.not_le.mp c_88)
          refine M.iconst (v := (-1)) dX12_piece_91 (by decide) ?_
          refine M.iret dX12_piece_92 rfl ?_
          refine ⟨⟨_, rfl⟩, Or.inl ⟨?_, rfl, _, _, rfl⟩⟩
          rw [pieI, eq9, hnm, hdd, hs8]
          rfl
  refine M.iload_n dX12_piece_0 rfl ?_
  refine M.istore (L' := [some (.ref m), some (.int (nI p)), some (.int (nI e)), some (.int (nI fl)), some (.int (nI p)), none, none, none]) dX12_piece_1 (by decide) rfl rfl ?_
  refine M.iconst (v := 0) dX12_piece_3 (by decide) ?_
  refine M.istore (L' := [some (.ref m), some (.int (nI p)), some (.int (nI e)), some (.int (nI fl)), some (.int (nI p)), some (.int 0), none, none]) dX12_piece_4 (by decide) rfl rfl ?_
  have cut_6 : ∀ (k_6 : Nat) (p2 : Nat) (acc : List Int32) (y : Int32), (p ≤ p2) → (p2 ≤ q) → (q + 1 ≤ p2 + k_6) → (acc.length ≤ p2 - p) → (decI (F 1) p q = (decI (F 1) p2 q).map (fun z => acc ++ z)) → (∀ x ∈ acc, b8 x = x) → M Λ X mX12_piece m A (fun r I' F' => (∃ x9 : Int32, I' = upd I 67 x9) ∧ ((pieI (F 1) p e g = none ∧ r = some (.int (-1)) ∧ ∃ g66 g63 : Nat → Int32, F' = setF (setF F 66 g66) 63 g63) ∨ (pieI (F 1) p e g = some g ∧ r = some (.int (nI fl)) ∧ ∃ g66 g63 : Nat → Int32, (∀ j, j < fl → g63 j = F 63 j) ∧ F' = setF (setF F 66 g66) 63 g63) ∨ ∃ (k9 : Nat) (v9 : List Int32) (g66 : Nat → Int32), k9 < 13 ∧ pieI (F 1) p e g = some (updO g k9 v9) ∧ r = some (.int (nI (fl + v9.length))) ∧ fl + v9.length ≤ e ∧ (∀ x ∈ v9, b8 x = x) ∧ F' = setF (setF (setF (setF F 66 g66) 63 (updl (F 63) fl v9)) 64 (upd (F 64) k9 (nI fl))) 65 (upd (F 65) k9 (nI v9.length)))) (upd I 67 y) (setF F 66 (updl (F 66) 0 acc)) 6 [some (.ref m), some (.int (nI p)), some (.int (nI e)), some (.int (nI fl)), some (.int (nI p2)), some (.int (nI acc.length)), none, none] [] := by
    intro k_6
    induction k_6 with
    | zero => intro p2 acc y h1 h1b h2 ha hdd hb; exact absurd h2 (by omega)
    | succ k_6 ih_6 =>
      intro p2 acc y h1 h1b h2 ha hdd hb
      refine M.iload dX12_piece_6 rfl ?_
      refine M.iload_n dX12_piece_8 rfl ?_
      refine M.icmp_ge (tgt := 65) dX12_piece_9 (by decide) (fun c_9 => ?_) (fun c_9 => ?_)
      · skip
        have e1 : ¬ p2 < e := fun z => absurd c_9 (nI_ge z (by omega))
        have e2 : p2 = q := by omega
        refine M.iload_n dX12_piece_65 rfl ?_
        refine M.istore (L' := [some (.ref m), some (.int (nI p)), some (.int (nI e)), some (.int (nI fl)), some (.int (nI p2)), some (.int (nI acc.length)), some (.int (nI fl)), none]) dX12_piece_66 (by decide) rfl rfl ?_
        refine M.iinc (v := nI (q + 1)) (L' := [some (.ref m), some (.int (nI p)), some (.int (nI e)), some (.int (nI fl)), some (.int (nI (q + 1))), some (.int (nI acc.length)), some (.int (nI fl)), none]) dX12_piece_68 rfl (by rw [e2]; exact nI_1 q) (by decide) rfl rfl ?_
        have t9 := cut_71 (e + 2) (q + 1) acc [] y (by rw [hdd, e2, decI_end (Nat.le_refl q)]; exact congrArg some (List.append_nil acc)) hb (by omega) (by omega) (by omega) (Nat.zero_le _) (by cases decI (F 1) (q + 1) e <;> rfl) (fun x hx => by cases hx)
        rw [updl_nil, show setF (setF F 66 (updl (F 66) 0 acc)) 63 (F 63) = setF F 66 (updl (F 66) 0 acc) from setF_self (setF F 66 (updl (F 66) 0 acc)) 63] at t9
        exact t9
      · skip
        have e1 : p2 < e := nI_ltn c_9 (by omega) (by omega)
        refine M.aload_nR dX12_piece_12 rfl ?_
        refine M.getr dX12_piece_13 fl_X12_9 rfl rfl ?_
        refine M.iload dX12_piece_16 rfl ?_
        refine M.bald (k9 := 1) (j := p2) (g := F 1) dX12_piece_18 rfl rfl rfl rfl (show p2 < 2000 by omega) ?_
        refine M.bipush (v := 61) dX12_piece_19 (by decide) ?_
        refine M.icmp_eq (tgt := 65) dX12_piece_21 (by decide) (fun c_21 => ?_) (fun c_21 => ?_)
        · skip
          have e2 : p2 = q := by
            rcases Nat.lt_or_eq_of_le h1b with h9 | h9
            · exact absurd c_21 (atI_lt (e := e) h1 (by rw [eq9]; exact h9))
            · exact h9
          refine M.iload_n dX12_piece_65 rfl ?_
          refine M.istore (L' := [some (.ref m), some (.int (nI p)), some (.int (nI e)), some (.int (nI fl)), some (.int (nI p2)), some (.int (nI acc.length)), some (.int (nI fl)), none]) dX12_piece_66 (by decide) rfl rfl ?_
          refine M.iinc (v := nI (q + 1)) (L' := [some (.ref m), some (.int (nI p)), some (.int (nI e)), some (.int (nI fl)), some (.int (nI (q + 1))), some (.int (nI acc.length)), some (.int (nI fl)), none]) dX12_piece_68 rfl (by rw [e2]; exact nI_1 q) (by decide) rfl rfl ?_
          have t9 := cut_71 (e + 2) (q + 1) acc [] y (by rw [hdd, e2, decI_end (Nat.le_refl q)]; exact congrArg some (List.append_nil acc)) hb (by omega) (by omega) (by omega) (Nat.zero_le _) (by cases decI (F 1) (q + 1) e <;> rfl) (fun x hx => by cases hx)
          rw [updl_nil, show setF (setF F 66 (updl (F 66) 0 acc)) 63 (F 63) = setF F 66 (updl (F 66) 0 acc) from setF_self (setF F 66 (updl (F 66) 0 acc)) 63] at t9
          exact t9
        · skip
          have e3 : p2 < q := by
            rcases Nat.lt_or_eq_of_le h1b with h9 | h9
            · exact h9
            · exact absurd (by rw [h9, ← eq9]; exact atI_at (by omega) (by rw [eq9]; omega)) c_21
          have hst9 := dec_step hf (p := p2) (q := q) (e := e) e3 hq.2 (by
            rcases Nat.lt_or_eq_of_le hq.2 with h9 | h9
            · right; rw [← eq9]; exact atI_at (by omega) (by rw [eq9]; omega)
            · left; exact h9)
          refine M.aload_nR dX12_piece_24 rfl ?_
          refine M.iload dX12_piece_25 rfl ?_
          refine M.iload_n dX12_piece_27 rfl ?_
          refine M.callV [.int (nI p2), .int (nI e)] dX12_piece_28 mdX12_decode imX12_decode seX12_decode lk_X12_249 rfl rfl rfl rfl (show mCt Λ mX12_decode m A [.ref m, .int (nI p2), .int (nI e)] (upd I 67 y) (setF F 66 (updl (F 66) 0 acc)) (fun r I' F' => r = some (.int (dcv (F 1) p2 e)) ∧ I' = upd (upd I 67 y) 67 (nI (dcn (F 1) p2)) ∧ F' = (setF F 66 (updl (F 66) 0 acc))) from m_decode hA (show p2 < e by omega) he) ?_
          rintro _ I9 F9 ⟨rfl, e9, e8⟩
          have e9 := e9.symm; subst e9; have e8 := e8.symm; subst e8
          rw [upd_upd]
          refine M.istore (L' := [some (.ref m), some (.int (nI p)), some (.int (nI e)), some (.int (nI fl)), some (.int (nI p2)), some (.int (nI acc.length)), some (.int (dcv (F 1) p2 e)), none]) dX12_piece_31 (by decide) rfl rfl ?_
          refine M.iload dX12_piece_33 rfl ?_
          refine M.if_ge (tgt := 40) dX12_piece_35 (by decide) (fun c_35 => ?_) (fun c_35 => ?_)
          · skip
            have hs9 := hst9.2 (Int32.not_lt.mpr c_35)
            have hdp := dcn_pos (F 1) p2
            refine M.aload_nR dX12_piece_40 rfl ?_
            refine M.getr dX12_piece_41 fl_X12_164 rfl rfl ?_
            refine M.iload dX12_piece_44 rfl ?_
            refine M.iload dX12_piece_46 rfl ?_
            refine M.i2b8 dX12_piece_48 ?_
            refine M.bast1 (k9 := 66) (j := 0 + acc.length) dX12_piece_49 rfl rfl (by rw [Nat.zero_add]) (show 0 + acc.length < 2000 by omega) (b8_b8 _) ?_
            rw [updF_set, updl_snoc]
            refine M.iinc (v := nI (acc ++ [b8 (dcv (F 1) p2 e)]).length) (L' := [some (.ref m), some (.int (nI p)), some (.int (nI e)), some (.int (nI fl)), some (.int (nI p2)), some (.int (nI (acc ++ [b8 (dcv (F 1) p2 e)]).length)), some (.int (dcv (F 1) p2 e)), none]) dX12_piece_50 rfl (by rw [List.length_append]; exact nI_1 acc.length) (by decide) rfl rfl ?_
            refine M.iload dX12_piece_53 rfl ?_
            refine M.aload_nR dX12_piece_55 rfl ?_
            refine M.geti (v := nI (dcn (F 1) p2)) dX12_piece_56 fl_X12_239 rfl rfl rfl ?_
            refine M.iadd dX12_piece_59 ?_
            rw [show (nI p2) + (nI (dcn (F 1) p2)) = nI (p2 + dcn (F 1) p2) from nI_add _ _]
            refine M.istore (L' := [some (.ref m), some (.int (nI p)), some (.int (nI e)), some (.int (nI fl)), some (.int (nI (p2 + dcn (F 1) p2))), some (.int (nI (acc ++ [b8 (dcv (F 1) p2 e)]).length)), some (.int (dcv (F 1) p2 e)), none]) dX12_piece_60 (by decide) rfl rfl ?_
            refine M.goto (tgt := 6) dX12_piece_62 (by decide) ?_
            refine M.drop (i := 6) (L' := [some (.ref m), some (.int (nI p)), some (.int (nI e)), some (.int (nI fl)), some (.int (nI (p2 + dcn (F 1) p2))), some (.int (nI (acc ++ [b8 (dcv (F 1) p2 e)]).length)), none, none]) rfl ?_
            exact ih_6 (p2 + dcn (F 1) p2) (acc ++ [b8 (dcv (F 1) p2 e)]) _ (by omega) (by omega) (by omega) (by rw [List.length_append]; show acc.length + 1 ≤ _; omega) (hdd.trans (map_app hs9.2)) (fun x hx => (List.mem_append.mp hx).elim (hb x) (fun h9 => by rw [List.mem_singleton.mp h9, b8_b8]))
          · skip
            have hs8 := hst9.1 (Int32.not_le.mp c_35)
            refine M.iconst (v := (-1)) dX12_piece_38 (by decide) ?_
            refine M.iret dX12_piece_39 rfl ?_
            refine ⟨⟨_, rfl⟩, Or.inl ⟨?_, rfl, updl (F 66) 0 acc, F 63, (setF_self (setF F 66 (updl (F 66) 0 acc)) 63).symm⟩⟩
            rw [pieI, eq9, hdd, hs8]
            rfl
  have t9 := cut_6 (q + 1) p [] (I 67) (by omega) (by omega) (by omega) (Nat.zero_le _) (by cases decI (F 1) p q <;> rfl) (fun x hx => by cases hx)
  rw [upd_id, updl_nil, setF_self] at t9
  exact t9

theorem m_isForm {Λ : kL} {m : Nat} {A : Nat → Nat} {I : Nat → Int32} {F : Nat → Nat → Int32} (hA : mInj A) (hSt : kSt Λ) {n : Nat} (hn : n ≤ 2000) (hf : ∀ j, b8 (F 1 j) = F 1 j) : mCt Λ mX12_isForm m A [.ref m, .int (nI n)] I F (fun r I' F' => (∃ x9 : Int32, I' = upd I 67 x9) ∧ (∀ k, k ≠ 63 → k ≠ 64 → k ≠ 65 → k ≠ 66 → F' k = F k) ∧ ((frmI (F 1) n 0 0 vf0 = none ∧ r = some (.int 0)) ∨ ∃ g : fvs, frmI (F 1) n 0 0 vf0 = some g ∧ r = some (.int 1) ∧ vrl F' 2000 g)) := by
  refine mCt.of hA pn_X12 [some (.ref m), some (.int (nI n)), none, none, none, none] rfl (Nat.le_of_ble_eq_true rfl) fun X => ?_
  refine M.iconst (v := 0) dX12_isForm_0 (by decide) ?_
  refine M.istore_n (L' := [some (.ref m), some (.int (nI n)), some (.int 0), none, none, none]) dX12_isForm_1 (by decide) rfl rfl ?_
  have cut_2 : ∀ (k_2 : Nat) (i : Nat), (i ≤ 13) → (14 ≤ i + k_2) → M Λ X mX12_isForm m A (fun r I' F' => (∃ x9 : Int32, I' = upd I 67 x9) ∧ (∀ k, k ≠ 63 → k ≠ 64 → k ≠ 65 → k ≠ 66 → F' k = F k) ∧ ((frmI (F 1) n 0 0 vf0 = none ∧ r = some (.int 0)) ∨ ∃ g : fvs, frmI (F 1) n 0 0 vf0 = some g ∧ r = some (.int 1) ∧ vrl F' 2000 g)) I (setF F 65 (fun j => if j < i then -1 else F 65 j)) 2 [some (.ref m), some (.int (nI n)), some (.int (nI i)), none, none, none] [] := by
    intro k_2
    induction k_2 with
    | zero => intro i h1 h2; exact absurd h2 (by omega)
    | succ k_2 ih_2 =>
      intro i h1 h2
      refine M.iload_n dX12_isForm_2 rfl ?_
      refine M.bipush (v := 13) dX12_isForm_3 (by decide) ?_
      refine M.icmp_ge (tgt := 21) dX12_isForm_5 (by decide) (fun c_5 => ?_) (fun c_5 => ?_)
      · skip
        have e1 : i = 13 := nI_gen (n := 13) c_5 h1 (by omega)
        subst e1
        refine M.iconst (v := 0) dX12_isForm_21 (by decide) ?_
        refine M.istore_n (L' := [some (.ref m), some (.int (nI n)), some (.int 0), none, none, none]) dX12_isForm_22 (by decide) rfl rfl ?_
        refine M.iconst (v := 0) dX12_isForm_23 (by decide) ?_
        refine M.istore_n (L' := [some (.ref m), some (.int (nI n)), some (.int 0), some (.int 0), none, none]) dX12_isForm_24 (by decide) rfl rfl ?_
        refine M.iconst (v := 0) dX12_isForm_25 (by decide) ?_
        refine M.istore (L' := [some (.ref m), some (.int (nI n)), some (.int 0), some (.int 0), some (.int 0), none]) dX12_isForm_26 (by decide) rfl rfl ?_
        have cut_28 : ∀ (k_28 : Nat) (fl c p : Nat) (y : Int32) (g : fvs) (F9 : Nat → Nat → Int32), (∀ k, k ≠ 63 → k ≠ 64 → k ≠ 65 → k ≠ 66 → F9 k = F k) → (vrl F9 fl g) → (fl ≤ p) → (fl ≤ n) → (p ≤ n + 1) → (c ≤ 20) → (n + 2 ≤ p + k_28) → (frmI (F 1) n 0 0 vf0 = frmI (F 1) n p c g) → M Λ X mX12_isForm m A (fun r I' F' => (∃ x9 : Int32, I' = upd I 67 x9) ∧ (∀ k, k ≠ 63 → k ≠ 64 → k ≠ 65 → k ≠ 66 → F' k = F k) ∧ ((frmI (F 1) n 0 0 vf0 = none ∧ r = some (.int 0)) ∨ ∃ g : fvs, frmI (F 1) n 0 0 vf0 = some g ∧ r = some (.int 1) ∧ vrl F' 2000 g)) (upd I 67 y) F9 28 [some (.ref m), some (.int (nI n)), some (.int (nI fl)), some (.int (nI c)), some (.int (nI p)), none] [] := by
          intro k_28
          induction k_28 with
          | zero => intro fl c p y g F9 hfr hv hfl hfn hp hc h2 hfm; exact absurd h2 (by omega)
          | succ k_28 ih_28 =>
            intro fl c p y g F9 hfr hv hfl hfn hp hc h2 hfm
            have hF1 : F9 1 = F 1 := hfr 1 (by decide) (by decide) (by decide) (by decide)
            refine M.iload dX12_isForm_28 rfl ?_
            refine M.iload_n dX12_isForm_30 rfl ?_
            refine M.icmp_ge (tgt := 105) dX12_isForm_31 (by decide) (fun c_31 => ?_) (fun c_31 => ?_)
            · skip
              have e1 : n ≤ p := (nI_leI (by omega) (by omega)).mp c_31
              refine M.iconst (v := 1) dX12_isForm_105 (by decide) ?_
              refine M.zret dX12_isForm_106 rfl rfl ?_
              refine ⟨⟨_, rfl⟩, hfr, Or.inr ⟨g, by rw [hfm, frmI_end e1], rfl, ?_⟩⟩
              intro k hk
              rcases hv k hk with h9 | ⟨v, i, a1, a2, a3, a4, a5⟩
              · exact Or.inl h9
              · exact Or.inr ⟨v, i, a1, a2, a3, by omega, a5⟩
            · skip
              have e1 : p < n := nI_ltn c_31 (by omega) (by omega)
              have hq := atI_ge (F 1) 38 (p := p) (e := n) (by omega)
              generalize eq9 : atI (F 1) 38 p n = q at hq
              refine M.iload dX12_isForm_34 rfl ?_
              refine M.istore (L' := [some (.ref m), some (.int (nI n)), some (.int (nI fl)), some (.int (nI c)), some (.int (nI p)), some (.int (nI p))]) dX12_isForm_36 (by decide) rfl rfl ?_
              have cut_38 : ∀ (k_38 : Nat) (x : Nat), (p ≤ x) → (x ≤ q) → (q + 1 ≤ x + k_38) → M Λ X mX12_isForm m A (fun r I' F' => (∃ x9 : Int32, I' = upd I 67 x9) ∧ (∀ k, k ≠ 63 → k ≠ 64 → k ≠ 65 → k ≠ 66 → F' k = F k) ∧ ((frmI (F 1) n 0 0 vf0 = none ∧ r = some (.int 0)) ∨ ∃ g : fvs, frmI (F 1) n 0 0 vf0 = some g ∧ r = some (.int 1) ∧ vrl F' 2000 g)) (upd I 67 y) F9 38 [some (.ref m), some (.int (nI n)), some (.int (nI fl)), some (.int (nI c)), some (.int (nI p)), some (.int (nI x))] [] := by
                intro k_38
                induction k_38 with
                | zero => intro x h3 h4 h5; exact absurd h5 (by omega)
                | succ k_38 ih_38 =>
                  intro x h3 h4 h5
                  refine M.iload dX12_isForm_38 rfl ?_
                  refine M.iload_n dX12_isForm_40 rfl ?_
                  refine M.icmp_ge (tgt := 62) dX12_isForm_41 (by decide) (fun c_41 => ?_) (fun c_41 => ?_)
                  · skip
                    have e2 : n ≤ x := (nI_leI (by omega) (by omega)).mp c_41
                    have e3 : x = q := by omega
                    have e3 := e3.symm; subst e3
                    refine M.iload dX12_isForm_62 rfl ?_
                    refine M.iload dX12_isForm_64 rfl ?_
                    refine M.icmp_le (tgt := 96) dX12_isForm_66 (by decide) (fun c_66 => ?_) (fun c_66 => ?_)
                    · skip
                      have e4 : q ≤ p := (nI_leI (by omega) (by omega)).mp c_66
                      refine M.iload dX12_isForm_96 rfl ?_
                      refine M.iconst (v := 1) dX12_isForm_98 (by decide) ?_
                      refine M.iadd dX12_isForm_99 ?_
                      rw [show (nI q) + 1 = nI (q + 1) from nI_1 q]
                      refine M.istore (L' := [some (.ref m), some (.int (nI n)), some (.int (nI fl)), some (.int (nI c)), some (.int (nI (q + 1))), some (.int (nI q))]) dX12_isForm_100 (by decide) rfl rfl ?_
                      refine M.goto (tgt := 28) dX12_isForm_102 (by decide) ?_
                      refine M.drop (i := 5) (L' := [some (.ref m), some (.int (nI n)), some (.int (nI fl)), some (.int (nI c)), some (.int (nI (q + 1))), none]) rfl ?_
                      exact ih_28 fl c (q + 1) y g F9 hfr hv (by omega) hfn (by omega) hc (by omega) (by rw [hfm, frmI_skip (by omega) (by rw [eq9]; omega), show p + 1 = q + 1 by omega])
                    · skip
                      have e4 : p < q := nI_ltn (fun z => c_66 z) (by omega) (by omega)
                      refine M.iinc (v := nI (c + 1)) (L' := [some (.ref m), some (.int (nI n)), some (.int (nI fl)), some (.int (nI (c + 1))), some (.int (nI p)), some (.int (nI q))]) dX12_isForm_69 rfl (nI_1 c) (by decide) rfl rfl ?_
                      refine M.iload_n dX12_isForm_72 rfl ?_
                      refine M.bipush (v := 20) dX12_isForm_73 (by decide) ?_
                      refine M.icmp_le (tgt := 80) dX12_isForm_75 (by decide) (fun c_75 => ?_) (fun c_75 => ?_)
                      · skip
                        have e5 : c + 1 ≤ 20 := (nI_leI (b := 20) (by omega) (by omega)).mp c_75
                        refine M.aload_nR dX12_isForm_80 rfl ?_
                        refine M.iload dX12_isForm_81 rfl ?_
                        refine M.iload dX12_isForm_83 rfl ?_
                        refine M.iload_n dX12_isForm_85 rfl ?_
                        have hpc := m_piece (Λ := Λ) (m := m) (I := upd I 67 y) hA hSt (F := F9) (p := p) (e := q) (fl := fl) (g := g) (by omega) (by omega) hfl (by rw [hF1]; exact hf) (fun k hk => hv.neg (by omega) hk)
                        rw [hF1] at hpc
                        refine M.callV [.int (nI p), .int (nI q), .int (nI fl)] dX12_isForm_86 mdX12_piece imX12_piece seX12_piece lk_X12_245 rfl rfl rfl rfl hpc ?_
                        rintro _ _ _ ⟨⟨y', rfl⟩, (⟨hP, rfl, g66, g63, rfl⟩ | ⟨hP, rfl, g66, g63, h63, rfl⟩ | ⟨k9, v9, g66, hk9, hP, rfl, hle, hb9, rfl⟩)⟩
                        · rw [upd_upd]
                          refine M.istore_n (L' := [some (.ref m), some (.int (nI n)), some (.int (-1)), some (.int (nI (c + 1))), some (.int (nI p)), some (.int (nI q))]) dX12_isForm_89 (by decide) rfl rfl ?_
                          refine M.iload_n dX12_isForm_90 rfl ?_
                          refine M.if_ge (tgt := 96) dX12_isForm_91 (by decide) (fun c_91 => absurd c_91 (by decide)) (fun c_91 => ?_)
                          refine M.iconst (v := 0) dX12_isForm_94 (by decide) ?_
                          refine M.zret dX12_isForm_95 rfl rfl ?_
                          exact ⟨⟨_, rfl⟩, fun k a b c d => (setF_n _ _ a).trans ((setF_n _ _ d).trans (hfr k a b c d)), Or.inl ⟨by rw [hfm, frmI_bad (by omega) (by rw [eq9]; omega) (by rw [eq9]; exact hP)], rfl⟩⟩
                        · rw [upd_upd]
                          refine M.istore_n (L' := [some (.ref m), some (.int (nI n)), some (.int (nI fl)), some (.int (nI (c + 1))), some (.int (nI p)), some (.int (nI q))]) dX12_isForm_89 (by decide) rfl rfl ?_
                          refine M.iload_n dX12_isForm_90 rfl ?_
                          refine M.if_ge (tgt := 96) dX12_isForm_91 (by decide) (fun c_91 => ?_) (fun c_91 => absurd (nI_pos' (by omega)) c_91)
                          refine M.iload dX12_isForm_96 rfl ?_
                          refine M.iconst (v := 1) dX12_isForm_98 (by decide) ?_
                          refine M.iadd dX12_isForm_99 ?_
                          rw [show (nI q) + 1 = nI (q + 1) from nI_1 q]
                          refine M.istore (L' := [some (.ref m), some (.int (nI n)), some (.int (nI fl)), some (.int (nI (c + 1))), some (.int (nI (q + 1))), some (.int (nI q))]) dX12_isForm_100 (by decide) rfl rfl ?_
                          refine M.goto (tgt := 28) dX12_isForm_102 (by decide) ?_
                          refine M.drop (i := 5) (L' := [some (.ref m), some (.int (nI n)), some (.int (nI fl)), some (.int (nI (c + 1))), some (.int (nI (q + 1))), none]) rfl ?_
                          exact ih_28 fl (c + 1) (q + 1) y' g _ (fun k a b c d => (setF_n _ _ a).trans ((setF_n _ _ d).trans (hfr k a b c d))) (hv.keep h63) (by omega) hfn (by omega) (by omega) (by omega) (by rw [hfm, frmI_go (by omega) (by rw [eq9]; omega) (by omega) (by rw [eq9]; exact hP), eq9])
                        · rw [upd_upd]
                          refine M.istore_n (L' := [some (.ref m), some (.int (nI n)), some (.int (nI (fl + v9.length))), some (.int (nI (c + 1))), some (.int (nI p)), some (.int (nI q))]) dX12_isForm_89 (by decide) rfl rfl ?_
                          refine M.iload_n dX12_isForm_90 rfl ?_
                          refine M.if_ge (tgt := 96) dX12_isForm_91 (by decide) (fun c_91 => ?_) (fun c_91 => absurd (nI_pos' (by omega)) c_91)
                          refine M.iload dX12_isForm_96 rfl ?_
                          refine M.iconst (v := 1) dX12_isForm_98 (by decide) ?_
                          refine M.iadd dX12_isForm_99 ?_
                          rw [show (nI q) + 1 = nI (q + 1) from nI_1 q]
                          refine M.istore (L' := [some (.ref m), some (.int (nI n)), some (.int (nI (fl + v9.length))), some (.int (nI (c + 1))), some (.int (nI (q + 1))), some (.int (nI q))]) dX12_isForm_100 (by decide) rfl rfl ?_
                          refine M.goto (tgt := 28) dX12_isForm_102 (by decide) ?_
                          refine M.drop (i := 5) (L' := [some (.ref m), some (.int (nI n)), some (.int (nI (fl + v9.length))), some (.int (nI (c + 1))), some (.int (nI (q + 1))), none]) rfl ?_
                          exact ih_28 (fl + v9.length) (c + 1) (q + 1) y' (updO g k9 v9) _ (fun k a b c d => (setF_n _ _ c).trans ((setF_n _ _ b).trans ((setF_n _ _ a).trans ((setF_n _ _ d).trans (hfr k a b c d))))) (hv.new hb9) (by omega) (by omega) (by omega) (by omega) (by omega) (by rw [hfm, frmI_go (by omega) (by rw [eq9]; omega) (by omega) (by rw [eq9]; exact hP), eq9])
                      · skip
                        have e5 : 20 < c + 1 := nI_ltn (i := 20) (fun z => c_75 z) (by omega) (by omega)
                        refine M.iconst (v := 0) dX12_isForm_78 (by decide) ?_
                        refine M.zret dX12_isForm_79 rfl rfl ?_
                        exact ⟨⟨_, rfl⟩, hfr, Or.inl ⟨by rw [hfm, frmI_many (by omega) (by rw [eq9]; omega) (by omega)], rfl⟩⟩
                  · skip
                    have e2 : x < n := nI_ltn c_41 (by omega) (by omega)
                    refine M.aload_nR dX12_isForm_44 rfl ?_
                    refine M.getr dX12_isForm_45 fl_X12_9 rfl rfl ?_
                    refine M.iload dX12_isForm_48 rfl ?_
                    refine M.bald (k9 := 1) (j := x) (g := F 1) dX12_isForm_50 rfl rfl hF1 rfl (show x < 2000 by omega) ?_
                    refine M.bipush (v := 38) dX12_isForm_51 (by decide) ?_
                    refine M.icmp_eq (tgt := 62) dX12_isForm_53 (by decide) (fun c_53 => ?_) (fun c_53 => ?_)
                    · skip
                      have e3 : x = q := by
                        rcases Nat.lt_or_eq_of_le h4 with h9 | h9
                        · exact absurd c_53 (atI_lt (e := n) h3 (by rw [eq9]; exact h9))
                        · exact h9
                      have e3 := e3.symm; subst e3
                      refine M.iload dX12_isForm_62 rfl ?_
                      refine M.iload dX12_isForm_64 rfl ?_
                      refine M.icmp_le (tgt := 96) dX12_isForm_66 (by decide) (fun c_66 => ?_) (fun c_66 => ?_)
                      · skip
                        have e4 : q ≤ p := (nI_leI (by omega) (by omega)).mp c_66
                        refine M.iload dX12_isForm_96 rfl ?_
                        refine M.iconst (v := 1) dX12_isForm_98 (by decide) ?_
                        refine M.iadd dX12_isForm_99 ?_
                        rw [show (nI q) + 1 = nI (q + 1) from nI_1 q]
                        refine M.istore (L' := [some (.ref m), some (.int (nI n)), some (.int (nI fl)), some (.int (nI c)), some (.int (nI (q + 1))), some (.int (nI q))]) dX12_isForm_100 (by decide) rfl rfl ?_
                        refine M.goto (tgt := 28) dX12_isForm_102 (by decide) ?_
                        refine M.drop (i := 5) (L' := [some (.ref m), some (.int (nI n)), some (.int (nI fl)), some (.int (nI c)), some (.int (nI (q + 1))), none]) rfl ?_
                        exact ih_28 fl c (q + 1) y g F9 hfr hv (by omega) hfn (by omega) hc (by omega) (by rw [hfm, frmI_skip (by omega) (by rw [eq9]; omega), show p + 1 = q + 1 by omega])
                      · skip
                        have e4 : p < q := nI_ltn (fun z => c_66 z) (by omega) (by omega)
                        refine M.iinc (v := nI (c + 1)) (L' := [some (.ref m), some (.int (nI n)), some (.int (nI fl)), some (.int (nI (c + 1))), some (.int (nI p)), some (.int (nI q))]) dX12_isForm_69 rfl (nI_1 c) (by decide) rfl rfl ?_
                        refine M.iload_n dX12_isForm_72 rfl ?_
                        refine M.bipush (v := 20) dX12_isForm_73 (by decide) ?_
                        refine M.icmp_le (tgt := 80) dX12_isForm_75 (by decide) (fun c_75 => ?_) (fun c_75 => ?_)
                        · skip
                          have e5 : c + 1 ≤ 20 := (nI_leI (b := 20) (by omega) (by omega)).mp c_75
                          refine M.aload_nR dX12_isForm_80 rfl ?_
                          refine M.iload dX12_isForm_81 rfl ?_
                          refine M.iload dX12_isForm_83 rfl ?_
                          refine M.iload_n dX12_isForm_85 rfl ?_
                          have hpc := m_piece (Λ := Λ) (m := m) (I := upd I 67 y) hA hSt (F := F9) (p := p) (e := q) (fl := fl) (g := g) (by omega) (by omega) hfl (by rw [hF1]; exact hf) (fun k hk => hv.neg (by omega) hk)
                          rw [hF1] at hpc
                          refine M.callV [.int (nI p), .int (nI q), .int (nI fl)] dX12_isForm_86 mdX12_piece imX12_piece seX12_piece lk_X12_245 rfl rfl rfl rfl hpc ?_
                          rintro _ _ _ ⟨⟨y', rfl⟩, (⟨hP, rfl, g66, g63, rfl⟩ | ⟨hP, rfl, g66, g63, h63, rfl⟩ | ⟨k9, v9, g66, hk9, hP, rfl, hle, hb9, rfl⟩)⟩
                          · rw [upd_upd]
                            refine M.istore_n (L' := [some (.ref m), some (.int (nI n)), some (.int (-1)), some (.int (nI (c + 1))), some (.int (nI p)), some (.int (nI q))]) dX12_isForm_89 (by decide) rfl rfl ?_
                            refine M.iload_n dX12_isForm_90 rfl ?_
                            refine M.if_ge (tgt := 96) dX12_isForm_91 (by decide) (fun c_91 => absurd c_91 (by decide)) (fun c_91 => ?_)
                            refine M.iconst (v := 0) dX12_isForm_94 (by decide) ?_
                            refine M.zret dX12_isForm_95 rfl rfl ?_
                            exact ⟨⟨_, rfl⟩, fun k a b c d => (setF_n _ _ a).trans ((setF_n _ _ d).trans (hfr k a b c d)), Or.inl ⟨by rw [hfm, frmI_bad (by omega) (by rw [eq9]; omega) (by rw [eq9]; exact hP)], rfl⟩⟩
                          · rw [upd_upd]
                            refine M.istore_n (L' := [some (.ref m), some (.int (nI n)), some (.int (nI fl)), some (.int (nI (c + 1))), some (.int (nI p)), some (.int (nI q))]) dX12_isForm_89 (by decide) rfl rfl ?_
                            refine M.iload_n dX12_isForm_90 rfl ?_
                            refine M.if_ge (tgt := 96) dX12_isForm_91 (by decide) (fun c_91 => ?_) (fun c_91 => absurd (nI_pos' (by omega)) c_91)
                            refine M.iload dX12_isForm_96 rfl ?_
                            refine M.iconst (v := 1) dX12_isForm_98 (by decide) ?_
                            refine M.iadd dX12_isForm_99 ?_
                            rw [show (nI q) + 1 = nI (q + 1) from nI_1 q]
                            refine M.istore (L' := [some (.ref m), some (.int (nI n)), some (.int (nI fl)), some (.int (nI (c + 1))), some (.int (nI (q + 1))), some (.int (nI q))]) dX12_isForm_100 (by decide) rfl rfl ?_
                            refine M.goto (tgt := 28) dX12_isForm_102 (by decide) ?_
                            refine M.drop (i := 5) (L' := [some (.ref m), some (.int (nI n)), some (.int (nI fl)), some (.int (nI (c + 1))), some (.int (nI (q + 1))), none]) rfl ?_
                            exact ih_28 fl (c + 1) (q + 1) y' g _ (fun k a b c d => (setF_n _ _ a).trans ((setF_n _ _ d).trans (hfr k a b c d))) (hv.keep h63) (by omega) hfn (by omega) (by omega) (by omega) (by rw [hfm, frmI_go (by omega) (by rw [eq9]; omega) (by omega) (by rw [eq9]; exact hP), eq9])
                          · rw [upd_upd]
                            refine M.istore_n (L' := [some (.ref m), some (.int (nI n)), some (.int (nI (fl + v9.length))), some (.int (nI (c + 1))), some (.int (nI p)), some (.int (nI q))]) dX12_isForm_89 (by decide) rfl rfl ?_
                            refine M.iload_n dX12_isForm_90 rfl ?_
                            refine M.if_ge (tgt := 96) dX12_isForm_91 (by decide) (fun c_91 => ?_) (fun c_91 => absurd (nI_pos' (by omega)) c_91)
                            refine M.iload dX12_isForm_96 rfl ?_
                            refine M.iconst (v := 1) dX12_isForm_98 (by decide) ?_
                            refine M.iadd dX12_isForm_99 ?_
                            rw [show (nI q) + 1 = nI (q + 1) from nI_1 q]
                            refine M.istore (L' := [some (.ref m), some (.int (nI n)), some (.int (nI (fl + v9.length))), some (.int (nI (c + 1))), some (.int (nI (q + 1))), some (.int (nI q))]) dX12_isForm_100 (by decide) rfl rfl ?_
                            refine M.goto (tgt := 28) dX12_isForm_102 (by decide) ?_
                            refine M.drop (i := 5) (L' := [some (.ref m), some (.int (nI n)), some (.int (nI (fl + v9.length))), some (.int (nI (c + 1))), some (.int (nI (q + 1))), none]) rfl ?_
                            exact ih_28 (fl + v9.length) (c + 1) (q + 1) y' (updO g k9 v9) _ (fun k a b c d => (setF_n _ _ c).trans ((setF_n _ _ b).trans ((setF_n _ _ a).trans ((setF_n _ _ d).trans (hfr k a b c d))))) (hv.new hb9) (by omega) (by omega) (by omega) (by omega) (by omega) (by rw [hfm, frmI_go (by omega) (by rw [eq9]; omega) (by omega) (by rw [eq9]; exact hP), eq9])
                        · skip
                          have e5 : 20 < c + 1 := nI_ltn (i := 20) (fun z => c_75 z) (by omega) (by omega)
                          refine M.iconst (v := 0) dX12_isForm_78 (by decide) ?_
                          refine M.zret dX12_isForm_79 rfl rfl ?_
                          exact ⟨⟨_, rfl⟩, hfr, Or.inl ⟨by rw [hfm, frmI_many (by omega) (by rw [eq9]; omega) (by omega)], rfl⟩⟩
                    · skip
                      have e3 : x < q := by
                        rcases Nat.lt_or_eq_of_le h4 with h9 | h9
                        · exact h9
                        · exact absurd (by rw [h9, ← eq9]; exact atI_at (by omega) (by rw [eq9]; omega)) c_53
                      refine M.iinc (v := nI (x + 1)) (L' := [some (.ref m), some (.int (nI n)), some (.int (nI fl)), some (.int (nI c)), some (.int (nI p)), some (.int (nI (x + 1)))]) dX12_isForm_56 rfl (nI_1 x) (by decide) rfl rfl ?_
                      refine M.goto (tgt := 38) dX12_isForm_59 (by decide) ?_
                      exact ih_38 (x + 1) (by omega) (by omega) (by omega)
              exact cut_38 (q + 1) p (by omega) (by omega) (by omega)
        have t9 := cut_28 (n + 2) 0 0 0 (I 67) vf0 (setF F 65 (fun j => if j < 13 then -1 else F 65 j)) (fun k a b c d => setF_n _ _ c) (vrl_0 F) (by omega) (by omega) (by omega) (by omega) (by omega) rfl
        rw [upd_id] at t9
        exact t9
      · skip
        have e1 : i < 13 := nI_ltn (n := 13) c_5 (by omega) (by omega)
        refine M.aload_nR dX12_isForm_8 rfl ?_
        refine M.getr dX12_isForm_9 fl_X12_161 rfl rfl ?_
        refine M.iload_n dX12_isForm_12 rfl ?_
        refine M.iconst (v := (-1)) dX12_isForm_13 (by decide) ?_
        refine M.iast (k9 := 65) (j := i) dX12_isForm_14 rfl rfl rfl (show i < 13 by omega) ?_
        rw [updF_set, upd_lt]
        refine M.iinc (v := nI (i + 1)) (L' := [some (.ref m), some (.int (nI n)), some (.int (nI (i + 1))), none, none, none]) dX12_isForm_15 rfl (nI_1 i) (by decide) rfl rfl ?_
        refine M.goto (tgt := 2) dX12_isForm_18 (by decide) ?_
        exact ih_2 (i + 1) (by omega) (by omega)
  have t9 := cut_2 14 0 (by omega) (by omega)
  rw [set65_0] at t9
  exact t9
