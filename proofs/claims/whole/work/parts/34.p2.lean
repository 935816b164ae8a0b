/-! the reference: scope, client, redirect -/
theorem nonB_fnd (W : List (List Int32)) (v : List Int32) : nonB W v W.length = decide (fnd W v = W.length) := by
  cases h : nonB W v W.length with
  | true =>
    refine (decide_eq_true ?_).symm
    have hg := fsti_ge (p := fun k => decide (v = W.getD k [])) (k := W.length) (i := 0)
    rw [fnd]
    refine Classical.byContradiction fun q => ?_
    have hy := fsti_yes (p := fun k => decide (v = W.getD k [])) (k := W.length) (i := 0) (by omega)
    have h2 := alln_iff.mp h _ (show fsti (fun k => decide (v = W.getD k [])) W.length 0 < W.length by omega)
    rw [hy] at h2
    cases h2
  | false =>
    refine (decide_eq_false fun q => ?_).symm
    have : nonB W v W.length = true := alln_iff.mpr fun k hk => by
      have h3 := fsti_no (p := fun k => decide (v = W.getD k [])) (k := W.length) (i := 0) (by rw [fnd] at q; omega) k (Nat.zero_le _) (by omega)
      rw [h3]; rfl
    rw [this] at h
    cases h
theorem tl_drop {f : Nat → Int32} {v : List Int32} {a : Nat} (h : tl f 0 v.length = v) (ha : a ≤ v.length) : tl f a (v.length - a) = v.drop a := by
  have e : (v.drop a).length = v.length - a := List.length_drop ..
  rw [← e]
  refine tl_bs.mpr fun i hi => ?_
  rw [e] at hi
  rw [tl_at0 h (by omega), List.getD_eq_getElem?_getD, List.getD_eq_getElem?_getD, List.getElem?_drop]
theorem tl_tk {f : Nat → Int32} {v : List Int32} {n : Nat} (h : tl f 0 v.length = v) (hn : n ≤ v.length) : tl f 0 n = v.take n := by
  have h9 := tl_take h hn
  rwa [List.length_take, Nat.min_eq_left hn] at h9
section VS
variable {Λ : kL} {m : Nat} {A : Nat → Nat} {I : Nat → Int32} {F : Nat → Nat → Int32}
theorem m_visL (hA : mInj A) {v : List Int32} (h : tl (F 1) 0 v.length = v) (hv : v.length ≤ 2000) : mCt Λ mX12_isVisible m A [.ref (A 1), .int 0, .int (nI v.length)] I F (fun r I' F' => r = some (.int (bI (v.all visb))) ∧ I' = I ∧ F' = F) := by
  have h9 := m_isVisible (Λ := Λ) (m := m) (I := I) (F := F) hA (k1 := 1) rfl rfl (i := 0) (n := v.length) (show 0 + v.length ≤ 2000 by omega)
  rw [h] at h9
  exact h9
theorem m_visI (hA : mInj A) {i n : Nat} {w : List Int32} (h : tl (F 1) i n = w) (hv : i + n ≤ 2000) : mCt Λ mX12_isVisible m A [.ref (A 1), .int (nI i), .int (nI n)] I F (fun r I' F' => r = some (.int (bI (w.all visb))) ∧ I' = I ∧ F' = F) := by
  have h9 := m_isVisible (Λ := Λ) (m := m) (I := I) (F := F) hA (k1 := 1) rfl rfl (i := i) (n := n) hv
  rw [h] at h9
  exact h9
theorem m_likeT (hA : mInj A) {kb j n : Nat} (r1 : mRef kb = true) (t1 : mK kb = 0) {v w : List Int32} (h : tl (F 1) 0 n = v) (hv : n ≤ 2000) (hj : j + w.length ≤ mN kb) (hw : tl (F kb) j w.length = w) : mCt Λ mX12_isLike m A [.ref (A 1), .int 0, .int (nI n), .ref (A kb), .int (nI j), .int (nI w.length)] I F (fun r I' F' => r = some (.int (bI (decide (v = w)))) ∧ I' = I ∧ F' = F) := by
  have h9 := m_isLike (Λ := Λ) (m := m) (I := I) hA (F := F) (k1 := 1) (k2 := kb) rfl rfl r1 t1 (i := 0) (n := n) (j := j) (p := w.length) (show 0 + n ≤ 2000 by omega) hj
  rw [h, hw] at h9
  exact h9
end VS
theorem nI_m1 {n m : Nat} (h : m < n) : nI n - nI m - 1 = nI (n - m - 1) := by
  rw [pk_sub (by omega)]
  have := pk_sub (a := n - m) (b := 1) (by omega)
  exact this
theorem nI_mm (n : Nat) : nI n - nI n - 1 = -1 := by rw [Int32.sub_self]; rfl
theorem mRd.keep {F F' : Nat → Nat → Int32} {c : Nat} {L : List (List Int32)} (h : mRd F c L) (h9 : F' 19 c = F 19 c) (h8 : ∀ r, r < 3 → F' 18 (3 * c + r) = F 18 (3 * c + r)) (h7 : ∀ j, 240 * c ≤ j → j < 240 * c + 240 → F' 17 j = F 17 j) : mRd F' c L := by
  obtain ⟨a, b, d⟩ := h
  refine ⟨h9.trans a, b, fun r hr => ?_⟩
  obtain ⟨x, y, z⟩ := d r hr
  refine ⟨(h8 r (by omega)).trans x, y, ?_⟩
  rw [← z, tl_len]
  exact tl_eq.mpr fun i hi => h7 _ (by omega) (by omega)
theorem mRr.add {F F' : Nat → Nat → Int32} {R : Nat → List (List Int32)} (h : mRr F R) {c : Nat} {v : List Int32} (hc : c < 8) (h3 : (R c).length < 3) (hv : v.length ≤ 80) (h9 : F' 19 = upd (F 19) c (nI ((R c).length + 1))) (h8 : F' 18 = upd (F 18) (3 * c + (R c).length) (nI v.length)) (h7 : F' 17 = updl (F 17) (80 * (3 * c + (R c).length)) v) : mRr F' (setT R c (R c ++ [v])) := by
  intro d hd
  have hd9 := h d hd
  by_cases e : d = c
  · subst e
    rw [show setT R d (R d ++ [v]) d = R d ++ [v] from if_pos rfl]
    obtain ⟨a, b, e1⟩ := hd9
    refine ⟨by rw [h9, pk_us, List.length_append, List.length_singleton], by rw [List.length_append, List.length_singleton]; omega, fun r hr => ?_⟩
    rw [List.length_append, List.length_singleton] at hr
    rw [h8, h7]
    by_cases q : r = (R d).length
    · rw [q, getD_appr, pk_us]
      exact ⟨rfl, hv, tl_in⟩
    · obtain ⟨x, y, z⟩ := e1 r (by omega)
      rw [getD_appl (by omega), pk_un (by omega)]
      refine ⟨x, y, ?_⟩
      have h6 : tl (updl (F 17) (80 * (3 * d + (R d).length)) v) (80 * (3 * d + r)) ((R d).getD r []).length = tl (F 17) (80 * (3 * d + r)) ((R d).getD r []).length := tl_eq.mpr fun i hi => updl_out (Or.inl (by omega))
      exact h6.trans z
  · rw [show setT R c (R c ++ [v]) d = R d from if_neg e]
    refine hd9.keep (by rw [h9, pk_un e]) (fun r hr => by rw [h8, pk_un (by omega)]) (fun j h1 h2 => ?_)
    rw [h7]
    exact updl_out (by omega)

theorem p_scope {Λ : kL} {m : Nat} {A : Nat → Nat} {I : Nat → Int32} {F : Nat → Nat → Int32} (hA : mInj A) {N : Nat → Int32} {B : Nat → List Int32} {T R : Nat → List (List Int32)} (hR : mR I F N B T R) (hW : wf N B T R) : mCt Λ mX12_scope m A [.ref m] I F (mP (opScope N B T R)) := by
  refine mCt.of hA pn_X12 [some (.ref m), none, none, none] rfl (Nat.le_of_ble_eq_true rfl) fun X => ?_
  obtain ⟨q_a, q_b, q_n, q_w, q_c, q_r, q_x, q_q, q_k, q_f, q_t⟩ := hR
  obtain ⟨w_a, w_n, w_w, w_c, w_r, w_x, w_q, w_k, w_f, w_t, w_m⟩ := hW
  have hl := w_a.1
  have hw8 := w_w.1
  have hw12 : ∀ k, k < (T 2).length → ((T 2).getD k []).length ≤ 12 := fun k hk => (w_w.2.2 k hk).2.1
  refine M.aload_nR dX12_scope_0 rfl ?_
  refine M.callV [] dX12_scope_1 mdX12_used imX12_used seX12_used lk_X12_351 rfl rfl rfl rfl (m_used hA) ?_
  rintro _ I9 F9 ⟨rfl, e9, e8⟩
  have e9 := e9.symm; subst e9; have e8 := e8.symm; subst e8
  rw [q_a.1]
  refine M.istore_n (L' := [some (.ref m), some (.int (nI (B 0).length)), none, none]) dX12_scope_4 (by decide) rfl rfl ?_
  have cut_130 : ∀ (b : Bool), (b = (gdW (B 0) && decide (fnd (T 2) (B 0) = (T 2).length))) → M Λ X mX12_scope m A (mP (opScope N B T R)) (upd (upd I 0 0) 2 0) F 130 [some (.ref m), some (.int (nI (B 0).length)), some (.int (bI b)), some (.int (nI (T 2).length))] [] := by
    intro b hb
    refine M.aload_nR dX12_scope_130 rfl ?_
    refine M.iload_n dX12_scope_131 rfl ?_
    refine M.if_ne (tgt := 139) dX12_scope_132 (by decide) (fun c_132 => ?_) (fun c_132 => ?_)
    · skip
      have hgd : (gdW (B 0) && decide (fnd (T 2) (B 0) = (T 2).length)) = true := by rw [← hb]; exact bt1 c_132
      have hgw : gdW (B 0) = true := (Bool.and_eq_true _ _ ▸ hgd).1
      have h12 : (B 0).length < 13 := by rw [gdW, Bool.and_eq_true, Bool.and_eq_true] at hgw; exact (of_decide_eq_true hgw.1.1).2
      refine M.iconst (v := 0) dX12_scope_139 (by decide) ?_
      refine M.iconst (v := 1) dX12_scope_140 (by decide) ?_
      refine M.callV [.int 0, .int 1] dX12_scope_141 mdX12_throwsIf imX12_throwsIf seX12_throwsIf lk_X12_357 rfl rfl rfl rfl (m_throwsIf hA false 1) ?_
      rintro _ I9 F9 ⟨rfl, e9, e8⟩
      have e9 := e9.symm; subst e9; have e8 := e8.symm; subst e8
      refine M.if_ne (tgt := 169) dX12_scope_144 (by decide) (fun c_144 => absurd c_144 (fun q => q rfl)) (fun c_144 => ?_)
      refine M.aload_nR dX12_scope_147 rfl ?_
      refine M.aload_nR dX12_scope_148 rfl ?_
      refine M.geti (v := nI (T 2).length) dX12_scope_149 fl_X12_268 rfl rfl q_w.1 ?_
      refine M.bipush (v := 8) dX12_scope_152 (by decide) ?_
      refine M.icmp_ne (tgt := 161) dX12_scope_154 (by decide) (fun c_154 => ?_) (fun c_154 => ?_)
      · skip
        have n8 : ¬ (T 2).length = 8 := fun q => c_154 ((nI_eq (b := 8) (by omega) (by omega)).mpr q)
        refine M.iconst (v := 0) dX12_scope_161 (by decide) ?_
        refine M.iconst (v := 2) dX12_scope_162 (by decide) ?_
        refine M.callV [.int 0, .int 2] dX12_scope_163 mdX12_throwsIf imX12_throwsIf seX12_throwsIf lk_X12_357 rfl rfl rfl rfl (m_throwsIf hA false 2) ?_
        rintro _ I9 F9 ⟨rfl, e9, e8⟩
        have e9 := e9.symm; subst e9; have e8 := e8.symm; subst e8
        refine M.if_eq (tgt := 171) dX12_scope_166 (by decide) (fun c_166 => ?_) (fun c_166 => absurd rfl c_166)
        refine M.iconst (v := 0) dX12_scope_171 (by decide) ?_
        refine M.istore_n (L' := [some (.ref m), some (.int (nI (B 0).length)), some (.int (bI b)), some (.int 0)]) dX12_scope_172 (by decide) rfl rfl ?_
        have cut_173 : ∀ (k_173 : Nat) (k : Nat), (k ≤ (B 0).length) → ((B 0).length + 1 ≤ k + k_173) → M Λ X mX12_scope m A (mP (opScope N B T R)) (upd (upd I 0 0) 2 0) (setF F 7 (updl (F 7) (12 * (T 2).length) ((B 0).take k))) 173 [some (.ref m), some (.int (nI (B 0).length)), some (.int (bI b)), some (.int (nI k))] [] := by
          intro k_173
          induction k_173 with
          | zero => intro k h1 h2; exact absurd h2 (by omega)
          | succ k_173 ih_173 =>
            intro k h1 h2
            refine M.iload_n dX12_scope_173 rfl ?_
            refine M.iload_n dX12_scope_174 rfl ?_
            refine M.icmp_ge (tgt := 204) dX12_scope_175 (by decide) (fun c_175 => ?_) (fun c_175 => ?_)
            · skip
              have e1 := nI_gen c_175 h1 (by omega); subst e1
              rw [List.take_length]
              refine M.aload_nR dX12_scope_204 rfl ?_
              refine M.getr dX12_scope_205 fl_X12_19 rfl rfl ?_
              refine M.aload_nR dX12_scope_208 rfl ?_
              refine M.geti (v := nI (T 2).length) dX12_scope_209 fl_X12_268 rfl rfl q_w.1 ?_
              refine M.iload_n dX12_scope_212 rfl ?_
              refine M.iast (k9 := 8) (j := (T 2).length) dX12_scope_213 rfl rfl rfl (show (T 2).length < 8 by omega) ?_
              refine M.aload_nR dX12_scope_214 rfl ?_
              refine M.dup dX12_scope_215 rfl ?_
              refine M.geti (v := nI (T 2).length) dX12_scope_216 fl_X12_268 rfl rfl q_w.1 ?_
              refine M.iconst (v := 1) dX12_scope_219 (by decide) ?_
              refine M.iadd dX12_scope_220 ?_
              rw [show (nI (T 2).length) + 1 = nI ((T 2).length + 1) from nI_1 _]
              refine M.puti dX12_scope_221 fp_X12_268 rfl rfl ?_
              refine M.aload_nR dX12_scope_224 rfl ?_
              refine M.geti (v := nI ((T 2).length + 1)) dX12_scope_225 fl_X12_268 rfl rfl rfl ?_
              refine M.iconst (v := 1) dX12_scope_228 (by decide) ?_
              refine M.isub dX12_scope_229 ?_
              rw [show (nI ((T 2).length + 1)) - 1 = nI (T 2).length from nI_pred _]
              refine M.iret dX12_scope_230 rfl ?_
              rw [opScope, if_neg (show ¬ (gdW (B 0) && decide (fnd (T 2) (B 0) = (T 2).length)) = false by rw [hgd]; decide), if_neg n8]
              refine ⟨rfl, rfl, ⟨rfl, rfl, q_a.2.2⟩, q_b, q_n, ⟨?_, q_w.2.app (by omega) rfl rfl⟩, q_c, q_r, q_x, q_q, q_k, q_f, q_t⟩
              show nI ((T 2).length + 1) = nI (T 2 ++ [B 0]).length
              rw [List.length_append, List.length_singleton]
            · skip
              have lt_k : k < (B 0).length := nI_ltn c_175 (by omega) (by omega)
              refine M.aload_nR dX12_scope_178 rfl ?_
              refine M.getr dX12_scope_179 fl_X12_16 rfl rfl ?_
              refine M.bipush (v := 12) dX12_scope_182 (by decide) ?_
              refine M.aload_nR dX12_scope_184 rfl ?_
              refine M.geti (v := nI (T 2).length) dX12_scope_185 fl_X12_268 rfl rfl q_w.1 ?_
              refine M.imul dX12_scope_188 ?_
              rw [show 12 * (nI (T 2).length) = nI (12 * (T 2).length) from nI_mulc 12 ((T 2).length)]
              refine M.iload_n dX12_scope_189 rfl ?_
              refine M.iadd dX12_scope_190 ?_
              rw [show (nI (12 * (T 2).length)) + (nI k) = nI (12 * (T 2).length + k) from nI_add (12 * (T 2).length) k]
              refine M.aload_nR dX12_scope_191 rfl ?_
              refine M.getr dX12_scope_192 fl_X12_9 rfl rfl ?_
              refine M.iload_n dX12_scope_195 rfl ?_
              refine M.baldv (k9 := 1) (j := k) (g := F 1) (v := gD (B 0) k) dX12_scope_196 rfl rfl rfl rfl (show k < 2000 by omega) (tl_at0 q_a.2.1 lt_k) ?_
              refine M.bast1 (k9 := 7) (j := 12 * (T 2).length + ((B 0).take k).length) dX12_scope_197 rfl rfl (by rw [List.length_take, Nat.min_eq_left h1]) (show 12 * (T 2).length + ((B 0).take k).length < 96 by rw [List.length_take, Nat.min_eq_left h1]; omega) (bts_at w_a.2.1 lt_k) ?_
              rw [updF_set, updl_snoc, show gD (B 0) k = (B 0).getD k 0 from rfl, ← take_at lt_k]
              refine M.iinc (v := nI (k + 1)) (L' := [some (.ref m), some (.int (nI (B 0).length)), some (.int (bI b)), some (.int (nI (k + 1)))]) dX12_scope_198 rfl (nI_1 k) (by decide) rfl rfl ?_
              refine M.goto (tgt := 173) dX12_scope_201 (by decide) ?_
              exact ih_173 (k + 1) (by omega) (by omega)
        have t9 := cut_173 ((B 0).length + 1) 0 (by omega) (by omega)
        rw [List.take_zero, updl_nil, setF_self] at t9
        exact t9
      · skip
        have et8 : (T 2).length = 8 := (nI_eq (b := 8) (by omega) (by omega)).mp c_154
        refine M.iconst (v := 1) dX12_scope_157 (by decide) ?_
        refine M.goto (tgt := 162) dX12_scope_158 (by decide) ?_
        refine M.iconst (v := 2) dX12_scope_162 (by decide) ?_
        refine M.callV [.int 1, .int 2] dX12_scope_163 mdX12_throwsIf imX12_throwsIf seX12_throwsIf lk_X12_357 rfl rfl rfl rfl (m_throwsIf hA true 2) ?_
        rintro _ I9 F9 ⟨rfl, e9, e8⟩
        have e9 := e9.symm; subst e9; have e8 := e8.symm; subst e8
        refine M.if_eq (tgt := 171) dX12_scope_166 (by decide) (fun c_166 => absurd c_166 (by decide)) (fun c_166 => ?_)
        refine M.iconst (v := 0) dX12_scope_169 (by decide) ?_
        refine M.iret dX12_scope_170 rfl ?_
        first
          | (rw [opScope, if_pos (show (gdW (B 0) && decide (fnd (T 2) (B 0) = (T 2).length)) = false by rw [← hb]; exact (bI_eq0 _).mp c_132)]; exact ⟨rfl, rfl, ⟨rfl, rfl, q_a.2.2⟩, q_b, q_n, q_w, q_c, q_r, q_x, q_q, q_k, q_f, q_t⟩)
          | (rw [opScope, if_neg (show ¬ (gdW (B 0) && decide (fnd (T 2) (B 0) = (T 2).length)) = false by rw [hgd]; decide), if_pos et8]; exact ⟨rfl, rfl, ⟨rfl, rfl, q_a.2.2⟩, q_b, q_n, q_w, q_c, q_r, q_x, q_q, q_k, q_f, q_t⟩)
    · skip
      refine M.iconst (v := 1) dX12_scope_135 (by decide) ?_
      refine M.goto (tgt := 140) dX12_scope_136 (by decide) ?_
      refine M.iconst (v := 1) dX12_scope_140 (by decide) ?_
      refine M.callV [.int 1, .int 1] dX12_scope_141 mdX12_throwsIf imX12_throwsIf seX12_throwsIf lk_X12_357 rfl rfl rfl rfl (m_throwsIf hA true 1) ?_
      rintro _ I9 F9 ⟨rfl, e9, e8⟩
      have e9 := e9.symm; subst e9; have e8 := e8.symm; subst e8
      refine M.if_ne (tgt := 169) dX12_scope_144 (by decide) (fun c_144 => ?_) (fun c_144 => absurd c_144 (by decide))
      refine M.iconst (v := 0) dX12_scope_169 (by decide) ?_
      refine M.iret dX12_scope_170 rfl ?_
      first
        | (rw [opScope, if_pos (show (gdW (B 0) && decide (fnd (T 2) (B 0) = (T 2).length)) = false by rw [← hb]; exact (bI_eq0 _).mp c_132)]; exact ⟨rfl, rfl, ⟨rfl, rfl, q_a.2.2⟩, q_b, q_n, q_w, q_c, q_r, q_x, q_q, q_k, q_f, q_t⟩)
        | (rw [opScope, if_neg (show ¬ (gdW (B 0) && decide (fnd (T 2) (B 0) = (T 2).length)) = false by rw [hgd]; decide), if_pos et8]; exact ⟨rfl, rfl, ⟨rfl, rfl, q_a.2.2⟩, q_b, q_n, q_w, q_c, q_r, q_x, q_q, q_k, q_f, q_t⟩)
  have cut_80 : ∀ (k_80 : Nat) (k : Nat) (b : Bool), (k ≤ (T 2).length) → ((T 2).length + 1 ≤ k + k_80) → (b = (gdW (B 0) && alln (fun y => !decide (B 0 = (T 2).getD y [])) k)) → M Λ X mX12_scope m A (mP (opScope N B T R)) (upd (upd I 0 0) 2 0) F 80 [some (.ref m), some (.int (nI (B 0).length)), some (.int (bI b)), some (.int (nI k))] [] := by
    intro k_80
    induction k_80 with
    | zero => intro k b h1 h2 hb; exact absurd h2 (by omega)
    | succ k_80 ih_80 =>
      intro k b h1 h2 hb
      refine M.iload_n dX12_scope_80 rfl ?_
      refine M.aload_nR dX12_scope_81 rfl ?_
      refine M.geti (v := nI (T 2).length) dX12_scope_82 fl_X12_268 rfl rfl q_w.1 ?_
      refine M.icmp_ge (tgt := 130) dX12_scope_85 (by decide) (fun c_85 => ?_) (fun c_85 => ?_)
      · skip
        have e1 := nI_gen c_85 h1 (by omega); subst e1
        skip
        exact cut_130 b (by rw [hb]; show (_ && nonB (T 2) (B 0) (T 2).length) = _; rw [nonB_fnd])
      · skip
        have lt_k : k < (T 2).length := nI_ltn c_85 (by omega) (by omega)
        have hx := q_w.2 k lt_k
        refine M.iload_n dX12_scope_88 rfl ?_
        refine M.if_eq (tgt := 122) dX12_scope_89 (by decide) (fun c_89 => ?_) (fun c_89 => ?_)
        · skip
          refine M.iconst (v := 0) dX12_scope_122 (by decide) ?_
          refine M.istore_n (L' := [some (.ref m), some (.int (nI (B 0).length)), some (.int 0), some (.int (nI k))]) dX12_scope_123 (by decide) rfl rfl ?_
          refine M.iinc (v := nI (k + 1)) (L' := [some (.ref m), some (.int (nI (B 0).length)), some (.int 0), some (.int (nI (k + 1)))]) dX12_scope_124 rfl (nI_1 k) (by decide) rfl rfl ?_
          refine M.goto (tgt := 80) dX12_scope_127 (by decide) ?_
          exact ih_80 (k + 1) false (by omega) (by omega) (by rw [← alln_b (p := fun y => !decide (B 0 = (T 2).getD y [])) hb]; first | rw [(bI_eq0 _).mp c_89, Bool.false_and] | rw [bt1 c_115, Bool.not_true, Bool.and_false])
        · skip
          refine M.aload_nR dX12_scope_92 rfl ?_
          refine M.getr dX12_scope_93 fl_X12_9 rfl rfl ?_
          refine M.iconst (v := 0) dX12_scope_96 (by decide) ?_
          refine M.iload_n dX12_scope_97 rfl ?_
          refine M.aload_nR dX12_scope_98 rfl ?_
          refine M.getr dX12_scope_99 fl_X12_16 rfl rfl ?_
          refine M.bipush (v := 12) dX12_scope_102 (by decide) ?_
          refine M.iload_n dX12_scope_104 rfl ?_
          refine M.imul dX12_scope_105 ?_
          rw [show 12 * (nI k) = nI (12 * k) from nI_mulc 12 k]
          refine M.aload_nR dX12_scope_106 rfl ?_
          refine M.getr dX12_scope_107 fl_X12_19 rfl rfl ?_
          refine M.iload_n dX12_scope_110 rfl ?_
          refine M.ialdv (k9 := 8) (j := k) (g := F 8) (v := nI ((T 2).getD k []).length) dX12_scope_111 rfl rfl rfl rfl (show k < 8 by omega) hx.1 ?_
          refine M.callS [.ref (A 1), .int 0, .int (nI (B 0).length), .ref (A 7), .int (nI (12 * k)), .int (nI ((T 2).getD k []).length)] dX12_scope_112 mdX12_isLike ssX12_isLike lk_X12_264 rfl rfl rfl rfl (m_likeT hA (kb := 7) rfl rfl (v := B 0) (w := (T 2).getD k []) q_a.2.1 hl (show 12 * k + ((T 2).getD k []).length ≤ 96 by omega) hx.2.2) ?_
          rintro _ I9 F9 ⟨rfl, e9, e8⟩
          have e9 := e9.symm; subst e9; have e8 := e8.symm; subst e8
          refine M.if_ne (tgt := 122) dX12_scope_115 (by decide) (fun c_115 => ?_) (fun c_115 => ?_)
          · skip
            refine M.iconst (v := 0) dX12_scope_122 (by decide) ?_
            refine M.istore_n (L' := [some (.ref m), some (.int (nI (B 0).length)), some (.int 0), some (.int (nI k))]) dX12_scope_123 (by decide) rfl rfl ?_
            refine M.iinc (v := nI (k + 1)) (L' := [some (.ref m), some (.int (nI (B 0).length)), some (.int 0), some (.int (nI (k + 1)))]) dX12_scope_124 rfl (nI_1 k) (by decide) rfl rfl ?_
            refine M.goto (tgt := 80) dX12_scope_127 (by decide) ?_
            exact ih_80 (k + 1) false (by omega) (by omega) (by rw [← alln_b (p := fun y => !decide (B 0 = (T 2).getD y [])) hb]; first | rw [(bI_eq0 _).mp c_89, Bool.false_and] | rw [bt1 c_115, Bool.not_true, Bool.and_false])
          · skip
            refine M.iconst (v := 1) dX12_scope_118 (by decide) ?_
            refine M.goto (tgt := 123) dX12_scope_119 (by decide) ?_
            refine M.istore_n (L' := [some (.ref m), some (.int (nI (B 0).length)), some (.int 1), some (.int (nI k))]) dX12_scope_123 (by decide) rfl rfl ?_
            refine M.iinc (v := nI (k + 1)) (L' := [some (.ref m), some (.int (nI (B 0).length)), some (.int 1), some (.int (nI (k + 1)))]) dX12_scope_124 rfl (nI_1 k) (by decide) rfl rfl ?_
            refine M.goto (tgt := 80) dX12_scope_127 (by decide) ?_
            exact ih_80 (k + 1) true (by omega) (by omega) (by rw [← alln_b (p := fun y => !decide (B 0 = (T 2).getD y [])) hb, bt1 c_89, (bI_eq0 _).mp c_115]; rfl)
  have cut_35 : ∀ (k_35 : Nat) (k : Nat) (b : Bool), (k ≤ (B 0).length) → ((B 0).length + 1 ≤ k + k_35) → (b = ((decide (0 < (B 0).length ∧ (B 0).length < 13) && (B 0).all visb) && alln (fun y => !decide (gD (B 0) y = 34) && !decide (gD (B 0) y = 92)) k)) → M Λ X mX12_scope m A (mP (opScope N B T R)) (upd (upd I 0 0) 2 0) F 35 [some (.ref m), some (.int (nI (B 0).length)), some (.int (bI b)), some (.int (nI k))] [] := by
    intro k_35
    induction k_35 with
    | zero => intro k b h1 h2 hb; exact absurd h2 (by omega)
    | succ k_35 ih_35 =>
      intro k b h1 h2 hb
      refine M.iload_n dX12_scope_35 rfl ?_
      refine M.iload_n dX12_scope_36 rfl ?_
      refine M.icmp_ge (tgt := 78) dX12_scope_37 (by decide) (fun c_37 => ?_) (fun c_37 => ?_)
      · skip
        have e35 := nI_gen c_37 h1 (by omega)
        refine M.iconst (v := 0) dX12_scope_78 (by decide) ?_
        refine M.istore_n (L' := [some (.ref m), some (.int (nI (B 0).length)), some (.int (bI b)), some (.int 0)]) dX12_scope_79 (by decide) rfl rfl ?_
        exact cut_80 ((T 2).length + 1) 0 b (by omega) (by omega) (by rw [hb, e35, gdW, allg (B 0) (fun x => !decide (x = 34) && !decide (x = 92))]; show _ = (_ && true); rw [Bool.and_true])
      · skip
        have lt_k : k < (B 0).length := nI_ltn c_37 (by omega) (by omega)
        refine M.iload_n dX12_scope_40 rfl ?_
        refine M.if_eq (tgt := 70) dX12_scope_41 (by decide) (fun c_41 => ?_) (fun c_41 => ?_)
        · skip
          refine M.iconst (v := 0) dX12_scope_70 (by decide) ?_
          refine M.istore_n (L' := [some (.ref m), some (.int (nI (B 0).length)), some (.int 0), some (.int (nI k))]) dX12_scope_71 (by decide) rfl rfl ?_
          refine M.iinc (v := nI (k + 1)) (L' := [some (.ref m), some (.int (nI (B 0).length)), some (.int 0), some (.int (nI (k + 1)))]) dX12_scope_72 rfl (nI_1 k) (by decide) rfl rfl ?_
          refine M.goto (tgt := 35) dX12_scope_75 (by decide) ?_
          exact ih_35 (k + 1) false (by omega) (by omega) (by rw [← alln_b hb]; first | rw [(bI_eq0 _).mp c_41, Bool.false_and] | rw [decide_eq_true c_52, Bool.not_true, Bool.false_and, Bool.and_false] | rw [decide_eq_true c_63, Bool.not_true, Bool.and_false, Bool.and_false])
        · skip
          refine M.aload_nR dX12_scope_44 rfl ?_
          refine M.getr dX12_scope_45 fl_X12_9 rfl rfl ?_
          refine M.iload_n dX12_scope_48 rfl ?_
          refine M.baldv (k9 := 1) (j := k) (g := F 1) (v := gD (B 0) k) dX12_scope_49 rfl rfl rfl rfl (show k < 2000 by omega) (tl_at0 q_a.2.1 lt_k) ?_
          refine M.bipush (v := 34) dX12_scope_50 (by decide) ?_
          refine M.icmp_eq (tgt := 70) dX12_scope_52 (by decide) (fun c_52 => ?_) (fun c_52 => ?_)
          · skip
            refine M.iconst (v := 0) dX12_scope_70 (by decide) ?_
            refine M.istore_n (L' := [some (.ref m), some (.int (nI (B 0).length)), some (.int 0), some (.int (nI k))]) dX12_scope_71 (by decide) rfl rfl ?_
            refine M.iinc (v := nI (k + 1)) (L' := [some (.ref m), some (.int (nI (B 0).length)), some (.int 0), some (.int (nI (k + 1)))]) dX12_scope_72 rfl (nI_1 k) (by decide) rfl rfl ?_
            refine M.goto (tgt := 35) dX12_scope_75 (by decide) ?_
            exact ih_35 (k + 1) false (by omega) (by omega) (by rw [← alln_b hb]; first | rw [(bI_eq0 _).mp c_41, Bool.false_and] | rw [decide_eq_true c_52, Bool.not_true, Bool.false_and, Bool.and_false] | rw [decide_eq_true c_63, Bool.not_true, Bool.and_false, Bool.and_false])
          · skip
            refine M.aload_nR dX12_scope_55 rfl ?_
            refine M.getr dX12_scope_56 fl_X12_9 rfl rfl ?_
            refine M.iload_n dX12_scope_59 rfl ?_
            refine M.baldv (k9 := 1) (j := k) (g := F 1) (v := gD (B 0) k) dX12_scope_60 rfl rfl rfl rfl (show k < 2000 by omega) (tl_at0 q_a.2.1 lt_k) ?_
            refine M.bipush (v := 92) dX12_scope_61 (by decide) ?_
            refine M.icmp_eq (tgt := 70) dX12_scope_63 (by decide) (fun c_63 => ?_) (fun c_63 => ?_)
            · skip
              refine M.iconst (v := 0) dX12_scope_70 (by decide) ?_
              refine M.istore_n (L' := [some (.ref m), some (.int (nI (B 0).length)), some (.int 0), some (.int (nI k))]) dX12_scope_71 (by decide) rfl rfl ?_
              refine M.iinc (v := nI (k + 1)) (L' := [some (.ref m), some (.int (nI (B 0).length)), some (.int 0), some (.int (nI (k + 1)))]) dX12_scope_72 rfl (nI_1 k) (by decide) rfl rfl ?_
              refine M.goto (tgt := 35) dX12_scope_75 (by decide) ?_
              exact ih_35 (k + 1) false (by omega) (by omega) (by rw [← alln_b hb]; first | rw [(bI_eq0 _).mp c_41, Bool.false_and] | rw [decide_eq_true c_52, Bool.not_true, Bool.false_and, Bool.and_false] | rw [decide_eq_true c_63, Bool.not_true, Bool.and_false, Bool.and_false])
            · skip
              refine M.iconst (v := 1) dX12_scope_66 (by decide) ?_
              refine M.goto (tgt := 71) dX12_scope_67 (by decide) ?_
              refine M.istore_n (L' := [some (.ref m), some (.int (nI (B 0).length)), some (.int 1), some (.int (nI k))]) dX12_scope_71 (by decide) rfl rfl ?_
              refine M.iinc (v := nI (k + 1)) (L' := [some (.ref m), some (.int (nI (B 0).length)), some (.int 1), some (.int (nI (k + 1)))]) dX12_scope_72 rfl (nI_1 k) (by decide) rfl rfl ?_
              refine M.goto (tgt := 35) dX12_scope_75 (by decide) ?_
              exact ih_35 (k + 1) true (by omega) (by omega) (by rw [← alln_b hb, bt1 c_41, decide_eq_false c_52, decide_eq_false c_63]; rfl)
  refine M.iload_n dX12_scope_5 rfl ?_
  refine M.if_le (tgt := 31) dX12_scope_6 (by decide) (fun c_6 => ?_) (fun c_6 => ?_)
  · skip
    refine M.iconst (v := 0) dX12_scope_31 (by decide) ?_
    refine M.istore_n (L' := [some (.ref m), some (.int (nI (B 0).length)), some (.int 0), none]) dX12_scope_32 (by decide) rfl rfl ?_
    refine M.iconst (v := 0) dX12_scope_33 (by decide) ?_
    refine M.istore_n (L' := [some (.ref m), some (.int (nI (B 0).length)), some (.int 0), some (.int 0)]) dX12_scope_34 (by decide) rfl rfl ?_
    exact cut_35 ((B 0).length + 1) 0 false (by omega) (by omega) (by first | rw [decide_eq_false (fun q => nI_nle q.1 (by omega) c_6), Bool.false_and, Bool.false_and] | rw [decide_eq_false (fun q => nI_ge (b := 13) q.2 (by omega) c_12), Bool.false_and, Bool.false_and] | rw [(bI_eq0 _).mp c_24, Bool.and_false, Bool.false_and])
  · skip
    refine M.iload_n dX12_scope_9 rfl ?_
    refine M.bipush (v := 13) dX12_scope_10 (by decide) ?_
    refine M.icmp_ge (tgt := 31) dX12_scope_12 (by decide) (fun c_12 => ?_) (fun c_12 => ?_)
    · skip
      refine M.iconst (v := 0) dX12_scope_31 (by decide) ?_
      refine M.istore_n (L' := [some (.ref m), some (.int (nI (B 0).length)), some (.int 0), none]) dX12_scope_32 (by decide) rfl rfl ?_
      refine M.iconst (v := 0) dX12_scope_33 (by decide) ?_
      refine M.istore_n (L' := [some (.ref m), some (.int (nI (B 0).length)), some (.int 0), some (.int 0)]) dX12_scope_34 (by decide) rfl rfl ?_
      exact cut_35 ((B 0).length + 1) 0 false (by omega) (by omega) (by first | rw [decide_eq_false (fun q => nI_nle q.1 (by omega) c_6), Bool.false_and, Bool.false_and] | rw [decide_eq_false (fun q => nI_ge (b := 13) q.2 (by omega) c_12), Bool.false_and, Bool.false_and] | rw [(bI_eq0 _).mp c_24, Bool.and_false, Bool.false_and])
    · skip
      refine M.aload_nR dX12_scope_15 rfl ?_
      refine M.getr dX12_scope_16 fl_X12_9 rfl rfl ?_
      refine M.iconst (v := 0) dX12_scope_19 (by decide) ?_
      refine M.iload_n dX12_scope_20 rfl ?_
      refine M.callS [.ref (A 1), .int 0, .int (nI (B 0).length)] dX12_scope_21 mdX12_isVisible ssX12_isVisible lk_X12_353 rfl rfl rfl rfl (m_visL hA q_a.2.1 hl) ?_
      rintro _ I9 F9 ⟨rfl, e9, e8⟩
      have e9 := e9.symm; subst e9; have e8 := e8.symm; subst e8
      refine M.if_eq (tgt := 31) dX12_scope_24 (by decide) (fun c_24 => ?_) (fun c_24 => ?_)
      · skip
        refine M.iconst (v := 0) dX12_scope_31 (by decide) ?_
        refine M.istore_n (L' := [some (.ref m), some (.int (nI (B 0).length)), some (.int 0), none]) dX12_scope_32 (by decide) rfl rfl ?_
        refine M.iconst (v := 0) dX12_scope_33 (by decide) ?_
        refine M.istore_n (L' := [some (.ref m), some (.int (nI (B 0).length)), some (.int 0), some (.int 0)]) dX12_scope_34 (by decide) rfl rfl ?_
        exact cut_35 ((B 0).length + 1) 0 false (by omega) (by omega) (by first | rw [decide_eq_false (fun q => nI_nle q.1 (by omega) c_6), Bool.false_and, Bool.false_and] | rw [decide_eq_false (fun q => nI_ge (b := 13) q.2 (by omega) c_12), Bool.false_and, Bool.false_and] | rw [(bI_eq0 _).mp c_24, Bool.and_false, Bool.false_and])
      · skip
        refine M.iconst (v := 1) dX12_scope_27 (by decide) ?_
        refine M.goto (tgt := 32) dX12_scope_28 (by decide) ?_
        refine M.istore_n (L' := [some (.ref m), some (.int (nI (B 0).length)), some (.int 1), none]) dX12_scope_32 (by decide) rfl rfl ?_
        refine M.iconst (v := 0) dX12_scope_33 (by decide) ?_
        refine M.istore_n (L' := [some (.ref m), some (.int (nI (B 0).length)), some (.int 1), some (.int 0)]) dX12_scope_34 (by decide) rfl rfl ?_
        exact cut_35 ((B 0).length + 1) 0 true (by omega) (by omega) (by rw [decide_eq_true ⟨Nat.pos_of_ne_zero (fun q => c_6 (by rw [q]; decide)), nI_ltn (n := 13) c_12 (by omega) (by omega)⟩, bt1 c_24]; rfl)

theorem p_redirect {Λ : kL} {m : Nat} {A : Nat → Nat} {I : Nat → Int32} {F : Nat → Nat → Int32} (hA : mInj A) {N : Nat → Int32} {B : Nat → List Int32} {T R : Nat → List (List Int32)} (hR : mR I F N B T R) (hW : wf N B T R) (x : Int32) : mCt Λ mX12_redirect m A [.ref m, .int x] I F (mP (opRedirect N B T R x)) := by
  refine mCt.of hA pn_X12 [some (.ref m), some (.int x), none, none, none, none] rfl (Nat.le_of_ble_eq_true rfl) fun X => ?_
  obtain ⟨q_a, q_b, q_n, q_w, q_c, q_r, q_x, q_q, q_k, q_f, q_t⟩ := hR
  obtain ⟨w_a, w_n, w_w, w_c, w_r, w_x, w_q, w_k, w_f, w_t, w_m⟩ := hW
  have hl := w_a.1
  have hc8 := w_c.1
  have hr3 : ∀ c, (R c).length ≤ 3 := fun c => (w_r c).1
  refine M.aload_nR dX12_redirect_0 rfl ?_
  refine M.callV [] dX12_redirect_1 mdX12_used imX12_used seX12_used lk_X12_351 rfl rfl rfl rfl (m_used hA) ?_
  rintro _ I9 F9 ⟨rfl, e9, e8⟩
  have e9 := e9.symm; subst e9; have e8 := e8.symm; subst e8
  rw [q_a.1]
  refine M.istore_n (L' := [some (.ref m), some (.int x), some (.int (nI (B 0).length)), none, none, none]) dX12_redirect_4 (by decide) rfl rfl ?_
  refine M.aload_nR dX12_redirect_5 rfl ?_
  refine M.iload_n dX12_redirect_6 rfl ?_
  refine M.if_lt (tgt := 18) dX12_redirect_7 (by decide) (fun c_7 => ?_) (fun c_7 => ?_)
  · skip
    refine M.iconst (v := 1) dX12_redirect_18 (by decide) ?_
    refine M.goto (tgt := 23) dX12_redirect_19 (by decide) ?_
    refine M.iconst (v := 1) dX12_redirect_23 (by decide) ?_
    refine M.callV [.int 1, .int 1] dX12_redirect_24 mdX12_throwsIf imX12_throwsIf seX12_throwsIf lk_X12_357 rfl rfl rfl rfl (m_throwsIf hA true 1) ?_
    rintro _ I9 F9 ⟨rfl, e9, e8⟩
    have e9 := e9.symm; subst e9; have e8 := e8.symm; subst e8
    refine M.if_eq (tgt := 32) dX12_redirect_27 (by decide) (fun c_27 => absurd c_27 (by decide)) (fun c_27 => ?_)
    refine M.iconst (v := 0) dX12_redirect_30 (by decide) ?_
    refine M.iret dX12_redirect_31 rfl ?_
    rw [opRedirect, if_pos (by first | exact Or.inl c_7 | exact Or.inr hge)]
    exact ⟨rfl, rfl, ⟨rfl, rfl, q_a.2.2⟩, q_b, q_n, q_w, q_c, q_r, q_x, q_q, q_k, q_f, q_t⟩
  · skip
    obtain ⟨c, hc31, ec⟩ := nI_of c_7; subst ec
    have hcl : (nI c).toNatClampNeg = c := nI_clamp hc31
    refine M.iload_n dX12_redirect_10 rfl ?_
    refine M.aload_nR dX12_redirect_11 rfl ?_
    refine M.geti (v := nI (T 3).length) dX12_redirect_12 fl_X12_257 rfl rfl q_c.1 ?_
    refine M.icmp_lt (tgt := 22) dX12_redirect_15 (by decide) (fun c_15 => ?_) (fun c_15 => ?_)
    · skip
      have ltc : c < (T 3).length := (nI_ltI hc31 (by omega)).mp c_15
      have hrd := q_r c (by omega)
      have hr3c := hr3 c
      refine M.iconst (v := 0) dX12_redirect_22 (by decide) ?_
      refine M.iconst (v := 1) dX12_redirect_23 (by decide) ?_
      refine M.callV [.int 0, .int 1] dX12_redirect_24 mdX12_throwsIf imX12_throwsIf seX12_throwsIf lk_X12_357 rfl rfl rfl rfl (m_throwsIf hA false 1) ?_
      rintro _ I9 F9 ⟨rfl, e9, e8⟩
      have e9 := e9.symm; subst e9; have e8 := e8.symm; subst e8
      refine M.if_eq (tgt := 32) dX12_redirect_27 (by decide) (fun c_27 => ?_) (fun c_27 => absurd rfl c_27)
      have cut_97 : ∀ (b : Bool), (b = gdR (B 0)) → M Λ X mX12_redirect m A (mP (opRedirect N B T R (nI c))) (upd (upd I 0 0) 2 0) F 97 [some (.ref m), some (.int (nI c)), some (.int (nI (B 0).length)), some (.int (bI b)), none, none] [] := by
        intro b hb
        refine M.aload_nR dX12_redirect_97 rfl ?_
        refine M.iload_n dX12_redirect_98 rfl ?_
        refine M.if_ne (tgt := 106) dX12_redirect_99 (by decide) (fun c_99 => ?_) (fun c_99 => ?_)
        · skip
          have hgd : gdR (B 0) = true := by rw [← hb]; exact bt1 c_99
          have h80 : (B 0).length < 81 := by have hgw := hgd; rw [gdR, Bool.and_eq_true, Bool.and_eq_true] at hgw; exact (of_decide_eq_true hgw.1.1).2
          refine M.iconst (v := 0) dX12_redirect_106 (by decide) ?_
          refine M.iconst (v := 2) dX12_redirect_107 (by decide) ?_
          refine M.callV [.int 0, .int 2] dX12_redirect_108 mdX12_throwsIf imX12_throwsIf seX12_throwsIf lk_X12_357 rfl rfl rfl rfl (m_throwsIf hA false 2) ?_
          rintro _ I9 F9 ⟨rfl, e9, e8⟩
          have e9 := e9.symm; subst e9; have e8 := e8.symm; subst e8
          refine M.if_ne (tgt := 137) dX12_redirect_111 (by decide) (fun c_111 => absurd c_111 (fun q => q rfl)) (fun c_111 => ?_)
          refine M.aload_nR dX12_redirect_114 rfl ?_
          refine M.aload_nR dX12_redirect_115 rfl ?_
          refine M.getr dX12_redirect_116 fl_X12_51 rfl rfl ?_
          refine M.iload_n dX12_redirect_119 rfl ?_
          refine M.ialdv (k9 := 19) (j := c) (g := F 19) (v := nI (R c).length) dX12_redirect_120 rfl rfl rfl rfl (show c < 8 by omega) hrd.1 ?_
          refine M.iconst (v := 3) dX12_redirect_121 (by decide) ?_
          refine M.icmp_ne (tgt := 129) dX12_redirect_122 (by decide) (fun c_122 => ?_) (fun c_122 => ?_)
          · skip
            have n3 : ¬ (R c).length = 3 := fun q => c_122 ((nI_eq (b := 3) (by omega) (by omega)).mpr q)
            have h3 : (R c).length < 3 := by have := hr3 c; omega
            refine M.iconst (v := 0) dX12_redirect_129 (by decide) ?_
            refine M.iconst (v := 3) dX12_redirect_130 (by decide) ?_
            refine M.callV [.int 0, .int 3] dX12_redirect_131 mdX12_throwsIf imX12_throwsIf seX12_throwsIf lk_X12_357 rfl rfl rfl rfl (m_throwsIf hA false 3) ?_
            rintro _ I9 F9 ⟨rfl, e9, e8⟩
            have e9 := e9.symm; subst e9; have e8 := e8.symm; subst e8
            refine M.if_eq (tgt := 139) dX12_redirect_134 (by decide) (fun c_134 => ?_) (fun c_134 => absurd rfl c_134)
            refine M.iconst (v := 3) dX12_redirect_139 (by decide) ?_
            refine M.iload_n dX12_redirect_140 rfl ?_
            refine M.imul dX12_redirect_141 ?_
            rw [show 3 * (nI c) = nI (3 * c) from nI_mulc 3 c]
            refine M.aload_nR dX12_redirect_142 rfl ?_
            refine M.getr dX12_redirect_143 fl_X12_51 rfl rfl ?_
            refine M.iload_n dX12_redirect_146 rfl ?_
            refine M.ialdv (k9 := 19) (j := c) (g := F 19) (v := nI (R c).length) dX12_redirect_147 rfl rfl rfl rfl (show c < 8 by omega) hrd.1 ?_
            refine M.iadd dX12_redirect_148 ?_
            rw [show (nI (3 * c)) + (nI (R c).length) = nI (3 * c + (R c).length) from nI_add (3 * c) ((R c).length)]
            refine M.istore (L' := [some (.ref m), some (.int (nI c)), some (.int (nI (B 0).length)), some (.int (bI b)), some (.int (nI (3 * c + (R c).length))), none]) dX12_redirect_149 (by decide) rfl rfl ?_
            refine M.iconst (v := 0) dX12_redirect_151 (by decide) ?_
            refine M.istore (L' := [some (.ref m), some (.int (nI c)), some (.int (nI (B 0).length)), some (.int (bI b)), some (.int (nI (3 * c + (R c).length))), some (.int 0)]) dX12_redirect_152 (by decide) rfl rfl ?_
            have cut_154 : ∀ (k_154 : Nat) (k : Nat), (k ≤ (B 0).length) → ((B 0).length + 1 ≤ k + k_154) → M Λ X mX12_redirect m A (mP (opRedirect N B T R (nI c))) (upd (upd I 0 0) 2 0) (setF F 17 (updl (F 17) (80 * (3 * c + (R c).length)) ((B 0).take k))) 154 [some (.ref m), some (.int (nI c)), some (.int (nI (B 0).length)), some (.int (bI b)), some (.int (nI (3 * c + (R c).length))), some (.int (nI k))] [] := by
              intro k_154
              induction k_154 with
              | zero => intro k h1 h2; exact absurd h2 (by omega)
              | succ k_154 ih_154 =>
                intro k h1 h2
                refine M.iload dX12_redirect_154 rfl ?_
                refine M.iload_n dX12_redirect_156 rfl ?_
                refine M.icmp_ge (tgt := 186) dX12_redirect_157 (by decide) (fun c_157 => ?_) (fun c_157 => ?_)
                · skip
                  have e1 := nI_gen c_157 h1 (by omega); subst e1
                  rw [List.take_length]
                  refine M.aload_nR dX12_redirect_186 rfl ?_
                  refine M.getr dX12_redirect_187 fl_X12_48 rfl rfl ?_
                  refine M.iload dX12_redirect_190 rfl ?_
                  refine M.iload_n dX12_redirect_192 rfl ?_
                  refine M.iast (k9 := 18) (j := (3 * c + (R c).length)) dX12_redirect_193 rfl rfl rfl (show (3 * c + (R c).length) < 24 by omega) ?_
                  refine M.aload_nR dX12_redirect_194 rfl ?_
                  refine M.getr dX12_redirect_195 fl_X12_51 rfl rfl ?_
                  refine M.iload_n dX12_redirect_198 rfl ?_
                  refine M.dup2 dX12_redirect_199 rfl rfl ?_
                  refine M.ialdv (k9 := 19) (j := c) (g := F 19) (v := nI (R c).length) dX12_redirect_200 rfl rfl rfl rfl (show c < 8 by omega) hrd.1 ?_
                  refine M.iconst (v := 1) dX12_redirect_201 (by decide) ?_
                  refine M.iadd dX12_redirect_202 ?_
                  rw [show (nI (R c).length) + 1 = nI ((R c).length + 1) from nI_1 _]
                  refine M.iast (k9 := 19) (j := c) dX12_redirect_203 rfl rfl rfl (show c < 8 by omega) ?_
                  refine M.aload_nR dX12_redirect_204 rfl ?_
                  refine M.getr dX12_redirect_205 fl_X12_51 rfl rfl ?_
                  refine M.iload_n dX12_redirect_208 rfl ?_
                  refine M.ialdv (k9 := 19) (j := c) (g := upd (F 19) c (nI ((R c).length + 1))) (v := nI ((R c).length + 1)) dX12_redirect_209 rfl rfl rfl rfl (show c < 8 by omega) pk_us ?_
                  refine M.iret dX12_redirect_210 rfl ?_
                  rw [opRedirect, if_neg (fun q => q.elim c_7 (fun z => absurd (nI_lt ltc (by omega)) (Int32.not_lt.mpr z))), if_neg (show ¬ gdR (B 0) = false by rw [hgd]; decide), hcl, if_neg n3]
                  exact ⟨rfl, rfl, ⟨rfl, rfl, q_a.2.2⟩, q_b, q_n, q_w, q_c, q_r.add (by omega) h3 (by omega) rfl rfl rfl, q_x, q_q, q_k, q_f, q_t⟩
                · skip
                  have lt_k : k < (B 0).length := nI_ltn c_157 (by omega) (by omega)
                  refine M.aload_nR dX12_redirect_160 rfl ?_
                  refine M.getr dX12_redirect_161 fl_X12_45 rfl rfl ?_
                  refine M.bipush (v := 80) dX12_redirect_164 (by decide) ?_
                  refine M.iload dX12_redirect_166 rfl ?_
                  refine M.imul dX12_redirect_168 ?_
                  rw [show 80 * (nI (3 * c + (R c).length)) = nI (80 * (3 * c + (R c).length)) from nI_mulc 80 (3 * c + (R c).length)]
                  refine M.iload dX12_redirect_169 rfl ?_
                  refine M.iadd dX12_redirect_171 ?_
                  rw [show (nI (80 * (3 * c + (R c).length))) + (nI k) = nI (80 * (3 * c + (R c).length) + k) from nI_add (80 * (3 * c + (R c).length)) k]
                  refine M.aload_nR dX12_redirect_172 rfl ?_
                  refine M.getr dX12_redirect_173 fl_X12_9 rfl rfl ?_
                  refine M.iload dX12_redirect_176 rfl ?_
                  refine M.baldv (k9 := 1) (j := k) (g := F 1) (v := gD (B 0) k) dX12_redirect_178 rfl rfl rfl rfl (show k < 2000 by omega) (tl_at0 q_a.2.1 lt_k) ?_
                  refine M.bast1 (k9 := 17) (j := 80 * (3 * c + (R c).length) + ((B 0).take k).length) dX12_redirect_179 rfl rfl (by rw [List.length_take, Nat.min_eq_left h1]) (show 80 * (3 * c + (R c).length) + ((B 0).take k).length < 1920 by rw [List.length_take, Nat.min_eq_left h1]; omega) (bts_at w_a.2.1 lt_k) ?_
                  rw [updF_set, updl_snoc, show gD (B 0) k = (B 0).getD k 0 from rfl, ← take_at lt_k]
                  refine M.iinc (v := nI (k + 1)) (L' := [some (.ref m), some (.int (nI c)), some (.int (nI (B 0).length)), some (.int (bI b)), some (.int (nI (3 * c + (R c).length))), some (.int (nI (k + 1)))]) dX12_redirect_180 rfl (nI_1 k) (by decide) rfl rfl ?_
                  refine M.goto (tgt := 154) dX12_redirect_183 (by decide) ?_
                  exact ih_154 (k + 1) (by omega) (by omega)
            have t9 := cut_154 ((B 0).length + 1) 0 (by omega) (by omega)
            rw [List.take_zero, updl_nil, setF_self] at t9
            exact t9
          · skip
            have e3 : (R c).length = 3 := (nI_eq (b := 3) (by omega) (by omega)).mp c_122
            refine M.iconst (v := 1) dX12_redirect_125 (by decide) ?_
            refine M.goto (tgt := 130) dX12_redirect_126 (by decide) ?_
            refine M.iconst (v := 3) dX12_redirect_130 (by decide) ?_
            refine M.callV [.int 1, .int 3] dX12_redirect_131 mdX12_throwsIf imX12_throwsIf seX12_throwsIf lk_X12_357 rfl rfl rfl rfl (m_throwsIf hA true 3) ?_
            rintro _ I9 F9 ⟨rfl, e9, e8⟩
            have e9 := e9.symm; subst e9; have e8 := e8.symm; subst e8
            refine M.if_eq (tgt := 139) dX12_redirect_134 (by decide) (fun c_134 => absurd c_134 (by decide)) (fun c_134 => ?_)
            refine M.iconst (v := 0) dX12_redirect_137 (by decide) ?_
            refine M.iret dX12_redirect_138 rfl ?_
            first
              | (rw [opRedirect, if_neg (fun q => q.elim c_7 (fun z => absurd (nI_lt ltc (by omega)) (Int32.not_lt.mpr z))), if_pos (show gdR (B 0) = false by rw [← hb]; exact (bI_eq0 _).mp c_99)]; exact ⟨rfl, rfl, ⟨rfl, rfl, q_a.2.2⟩, q_b, q_n, q_w, q_c, q_r, q_x, q_q, q_k, q_f, q_t⟩)
              | (rw [opRedirect, if_neg (fun q => q.elim c_7 (fun z => absurd (nI_lt ltc (by omega)) (Int32.not_lt.mpr z))), if_neg (show ¬ gdR (B 0) = false by rw [hgd]; decide), hcl, if_pos e3]; exact ⟨rfl, rfl, ⟨rfl, rfl, q_a.2.2⟩, q_b, q_n, q_w, q_c, q_r, q_x, q_q, q_k, q_f, q_t⟩)
        · skip
          refine M.iconst (v := 1) dX12_redirect_102 (by decide) ?_
          refine M.goto (tgt := 107) dX12_redirect_103 (by decide) ?_
          refine M.iconst (v := 2) dX12_redirect_107 (by decide) ?_
          refine M.callV [.int 1, .int 2] dX12_redirect_108 mdX12_throwsIf imX12_throwsIf seX12_throwsIf lk_X12_357 rfl rfl rfl rfl (m_throwsIf hA true 2) ?_
          rintro _ I9 F9 ⟨rfl, e9, e8⟩
          have e9 := e9.symm; subst e9; have e8 := e8.symm; subst e8
          refine M.if_ne (tgt := 137) dX12_redirect_111 (by decide) (fun c_111 => ?_) (fun c_111 => absurd c_111 (by decide))
          refine M.iconst (v := 0) dX12_redirect_137 (by decide) ?_
          refine M.iret dX12_redirect_138 rfl ?_
          first
            | (rw [opRedirect, if_neg (fun q => q.elim c_7 (fun z => absurd (nI_lt ltc (by omega)) (Int32.not_lt.mpr z))), if_pos (show gdR (B 0) = false by rw [← hb]; exact (bI_eq0 _).mp c_99)]; exact ⟨rfl, rfl, ⟨rfl, rfl, q_a.2.2⟩, q_b, q_n, q_w, q_c, q_r, q_x, q_q, q_k, q_f, q_t⟩)
            | (rw [opRedirect, if_neg (fun q => q.elim c_7 (fun z => absurd (nI_lt ltc (by omega)) (Int32.not_lt.mpr z))), if_neg (show ¬ gdR (B 0) = false by rw [hgd]; decide), hcl, if_pos e3]; exact ⟨rfl, rfl, ⟨rfl, rfl, q_a.2.2⟩, q_b, q_n, q_w, q_c, q_r, q_x, q_q, q_k, q_f, q_t⟩)
      have cut_63 : ∀ (k_63 : Nat) (k : Nat) (b : Bool), (k ≤ (B 0).length) → ((B 0).length + 1 ≤ k + k_63) → (b = ((decide (0 < (B 0).length ∧ (B 0).length < 81) && (B 0).all visb) && alln (fun y => !decide (gD (B 0) y = 35)) k)) → M Λ X mX12_redirect m A (mP (opRedirect N B T R (nI c))) (upd (upd I 0 0) 2 0) F 63 [some (.ref m), some (.int (nI c)), some (.int (nI (B 0).length)), some (.int (bI b)), some (.int (nI k)), none] [] := by
        intro k_63
        induction k_63 with
        | zero => intro k b h1 h2 hb; exact absurd h2 (by omega)
        | succ k_63 ih_63 =>
          intro k b h1 h2 hb
          refine M.iload dX12_redirect_63 rfl ?_
          refine M.iload_n dX12_redirect_65 rfl ?_
          refine M.icmp_ge (tgt := 97) dX12_redirect_66 (by decide) (fun c_66 => ?_) (fun c_66 => ?_)
          · skip
            have e63 := nI_gen c_66 h1 (by omega)
            refine M.drop (i := 4) (L' := [some (.ref m), some (.int (nI c)), some (.int (nI (B 0).length)), some (.int (bI b)), none, none]) rfl ?_
            exact cut_97 b (by rw [hb, e63, gdR, allg (B 0) (fun x => !decide (x = 35))])
          · skip
            have lt_k : k < (B 0).length := nI_ltn c_66 (by omega) (by omega)
            refine M.iload_n dX12_redirect_69 rfl ?_
            refine M.if_eq (tgt := 89) dX12_redirect_70 (by decide) (fun c_70 => ?_) (fun c_70 => ?_)
            · skip
              refine M.iconst (v := 0) dX12_redirect_89 (by decide) ?_
              refine M.istore_n (L' := [some (.ref m), some (.int (nI c)), some (.int (nI (B 0).length)), some (.int 0), some (.int (nI k)), none]) dX12_redirect_90 (by decide) rfl rfl ?_
              refine M.iinc (v := nI (k + 1)) (L' := [some (.ref m), some (.int (nI c)), some (.int (nI (B 0).length)), some (.int 0), some (.int (nI (k + 1))), none]) dX12_redirect_91 rfl (nI_1 k) (by decide) rfl rfl ?_
              refine M.goto (tgt := 63) dX12_redirect_94 (by decide) ?_
              exact ih_63 (k + 1) false (by omega) (by omega) (by rw [← alln_b hb]; first | rw [(bI_eq0 _).mp c_70, Bool.false_and] | rw [decide_eq_true c_82, Bool.not_true, Bool.and_false])
            · skip
              refine M.aload_nR dX12_redirect_73 rfl ?_
              refine M.getr dX12_redirect_74 fl_X12_9 rfl rfl ?_
              refine M.iload dX12_redirect_77 rfl ?_
              refine M.baldv (k9 := 1) (j := k) (g := F 1) (v := gD (B 0) k) dX12_redirect_79 rfl rfl rfl rfl (show k < 2000 by omega) (tl_at0 q_a.2.1 lt_k) ?_
              refine M.bipush (v := 35) dX12_redirect_80 (by decide) ?_
              refine M.icmp_eq (tgt := 89) dX12_redirect_82 (by decide) (fun c_82 => ?_) (fun c_82 => ?_)
              · skip
                refine M.iconst (v := 0) dX12_redirect_89 (by decide) ?_
                refine M.istore_n (L' := [some (.ref m), some (.int (nI c)), some (.int (nI (B 0).length)), some (.int 0), some (.int (nI k)), none]) dX12_redirect_90 (by decide) rfl rfl ?_
                refine M.iinc (v := nI (k + 1)) (L' := [some (.ref m), some (.int (nI c)), some (.int (nI (B 0).length)), some (.int 0), some (.int (nI (k + 1))), none]) dX12_redirect_91 rfl (nI_1 k) (by decide) rfl rfl ?_
                refine M.goto (tgt := 63) dX12_redirect_94 (by decide) ?_
                exact ih_63 (k + 1) false (by omega) (by omega) (by rw [← alln_b hb]; first | rw [(bI_eq0 _).mp c_70, Bool.false_and] | rw [decide_eq_true c_82, Bool.not_true, Bool.and_false])
              · skip
                refine M.iconst (v := 1) dX12_redirect_85 (by decide) ?_
                refine M.goto (tgt := 90) dX12_redirect_86 (by decide) ?_
                refine M.istore_n (L' := [some (.ref m), some (.int (nI c)), some (.int (nI (B 0).length)), some (.int 1), some (.int (nI k)), none]) dX12_redirect_90 (by decide) rfl rfl ?_
                refine M.iinc (v := nI (k + 1)) (L' := [some (.ref m), some (.int (nI c)), some (.int (nI (B 0).length)), some (.int 1), some (.int (nI (k + 1))), none]) dX12_redirect_91 rfl (nI_1 k) (by decide) rfl rfl ?_
                refine M.goto (tgt := 63) dX12_redirect_94 (by decide) ?_
                exact ih_63 (k + 1) true (by omega) (by omega) (by rw [← alln_b hb, bt1 c_70, decide_eq_false c_82]; rfl)
      refine M.iload_n dX12_redirect_32 rfl ?_
      refine M.if_le (tgt := 58) dX12_redirect_33 (by decide) (fun c_33 => ?_) (fun c_33 => ?_)
      · skip
        refine M.iconst (v := 0) dX12_redirect_58 (by decide) ?_
        refine M.istore_n (L' := [some (.ref m), some (.int (nI c)), some (.int (nI (B 0).length)), some (.int 0), none, none]) dX12_redirect_59 (by decide) rfl rfl ?_
        refine M.iconst (v := 0) dX12_redirect_60 (by decide) ?_
        refine M.istore (L' := [some (.ref m), some (.int (nI c)), some (.int (nI (B 0).length)), some (.int 0), some (.int 0), none]) dX12_redirect_61 (by decide) rfl rfl ?_
        exact cut_63 ((B 0).length + 1) 0 false (by omega) (by omega) (by first | rw [decide_eq_false (fun q => nI_nle q.1 (by omega) c_33), Bool.false_and, Bool.false_and] | rw [decide_eq_false (fun q => nI_ge (b := 81) q.2 (by omega) c_39), Bool.false_and, Bool.false_and] | rw [(bI_eq0 _).mp c_51, Bool.and_false, Bool.false_and])
      · skip
        refine M.iload_n dX12_redirect_36 rfl ?_
        refine M.bipush (v := 81) dX12_redirect_37 (by decide) ?_
        refine M.icmp_ge (tgt := 58) dX12_redirect_39 (by decide) (fun c_39 => ?_) (fun c_39 => ?_)
        · skip
          refine M.iconst (v := 0) dX12_redirect_58 (by decide) ?_
          refine M.istore_n (L' := [some (.ref m), some (.int (nI c)), some (.int (nI (B 0).length)), some (.int 0), none, none]) dX12_redirect_59 (by decide) rfl rfl ?_
          refine M.iconst (v := 0) dX12_redirect_60 (by decide) ?_
          refine M.istore (L' := [some (.ref m), some (.int (nI c)), some (.int (nI (B 0).length)), some (.int 0), some (.int 0), none]) dX12_redirect_61 (by decide) rfl rfl ?_
          exact cut_63 ((B 0).length + 1) 0 false (by omega) (by omega) (by first | rw [decide_eq_false (fun q => nI_nle q.1 (by omega) c_33), Bool.false_and, Bool.false_and] | rw [decide_eq_false (fun q => nI_ge (b := 81) q.2 (by omega) c_39), Bool.false_and, Bool.false_and] | rw [(bI_eq0 _).mp c_51, Bool.and_false, Bool.false_and])
        · skip
          refine M.aload_nR dX12_redirect_42 rfl ?_
          refine M.getr dX12_redirect_43 fl_X12_9 rfl rfl ?_
          refine M.iconst (v := 0) dX12_redirect_46 (by decide) ?_
          refine M.iload_n dX12_redirect_47 rfl ?_
          refine M.callS [.ref (A 1), .int 0, .int (nI (B 0).length)] dX12_redirect_48 mdX12_isVisible ssX12_isVisible lk_X12_353 rfl rfl rfl rfl (m_visL hA q_a.2.1 hl) ?_
          rintro _ I9 F9 ⟨rfl, e9, e8⟩
          have e9 := e9.symm; subst e9; have e8 := e8.symm; subst e8
          refine M.if_eq (tgt := 58) dX12_redirect_51 (by decide) (fun c_51 => ?_) (fun c_51 => ?_)
          · skip
            refine M.iconst (v := 0) dX12_redirect_58 (by decide) ?_
            refine M.istore_n (L' := [some (.ref m), some (.int (nI c)), some (.int (nI (B 0).length)), some (.int 0), none, none]) dX12_redirect_59 (by decide) rfl rfl ?_
            refine M.iconst (v := 0) dX12_redirect_60 (by decide) ?_
            refine M.istore (L' := [some (.ref m), some (.int (nI c)), some (.int (nI (B 0).length)), some (.int 0), some (.int 0), none]) dX12_redirect_61 (by decide) rfl rfl ?_
            exact cut_63 ((B 0).length + 1) 0 false (by omega) (by omega) (by first | rw [decide_eq_false (fun q => nI_nle q.1 (by omega) c_33), Bool.false_and, Bool.false_and] | rw [decide_eq_false (fun q => nI_ge (b := 81) q.2 (by omega) c_39), Bool.false_and, Bool.false_and] | rw [(bI_eq0 _).mp c_51, Bool.and_false, Bool.false_and])
          · skip
            refine M.iconst (v := 1) dX12_redirect_54 (by decide) ?_
            refine M.goto (tgt := 59) dX12_redirect_55 (by decide) ?_
            refine M.istore_n (L' := [some (.ref m), some (.int (nI c)), some (.int (nI (B 0).length)), some (.int 1), none, none]) dX12_redirect_59 (by decide) rfl rfl ?_
            refine M.iconst (v := 0) dX12_redirect_60 (by decide) ?_
            refine M.istore (L' := [some (.ref m), some (.int (nI c)), some (.int (nI (B 0).length)), some (.int 1), some (.int 0), none]) dX12_redirect_61 (by decide) rfl rfl ?_
            exact cut_63 ((B 0).length + 1) 0 true (by omega) (by omega) (by rw [decide_eq_true ⟨Nat.pos_of_ne_zero (fun q => c_33 (by rw [q]; decide)), nI_ltn (n := 81) c_39 (by omega) (by omega)⟩, bt1 c_51]; rfl)
    · skip
      have hge : nI (T 3).length ≤ nI c := Int32.not_lt.mp c_15
      refine M.iconst (v := 1) dX12_redirect_18 (by decide) ?_
      refine M.goto (tgt := 23) dX12_redirect_19 (by decide) ?_
      refine M.iconst (v := 1) dX12_redirect_23 (by decide) ?_
      refine M.callV [.int 1, .int 1] dX12_redirect_24 mdX12_throwsIf imX12_throwsIf seX12_throwsIf lk_X12_357 rfl rfl rfl rfl (m_throwsIf hA true 1) ?_
      rintro _ I9 F9 ⟨rfl, e9, e8⟩
      have e9 := e9.symm; subst e9; have e8 := e8.symm; subst e8
      refine M.if_eq (tgt := 32) dX12_redirect_27 (by decide) (fun c_27 => absurd c_27 (by decide)) (fun c_27 => ?_)
      refine M.iconst (v := 0) dX12_redirect_30 (by decide) ?_
      refine M.iret dX12_redirect_31 rfl ?_
      rw [opRedirect, if_pos (by first | exact Or.inl c_7 | exact Or.inr hge)]
      exact ⟨rfl, rfl, ⟨rfl, rfl, q_a.2.2⟩, q_b, q_n, q_w, q_c, q_r, q_x, q_q, q_k, q_f, q_t⟩

theorem p_client_0 {Λ : kL} {m : Nat} {A : Nat → Nat} {I : Nat → Int32} {F : Nat → Nat → Int32} (hA : mInj A) {N : Nat → Int32} {B : Nat → List Int32} {T R : Nat → List (List Int32)} (hR : mR I F N B T R) (hW : wf N B T R) (x : Int32) (rf : Bool) : mCt Λ mX12_client m A [.ref m, .int 0, .int x, .int (bI rf)] I F (mP (opClient N B T R false x rf)) := by
  refine mCt.of hA pn_X12 [some (.ref m), some (.int 0), some (.int x), some (.int (bI rf)), none, none, none, none, none] rfl (Nat.le_of_ble_eq_true rfl) fun X => ?_
  obtain ⟨q_a, q_b, q_n, q_w, q_c, q_r, q_x, q_q, q_k, q_f, q_t⟩ := hR
  obtain ⟨w_a, w_n, w_w, w_c, w_r, w_x, w_q, w_k, w_f, w_t, w_m⟩ := hW
  have hl := w_a.1
  have hc8 := w_c.1
  have hmle : (idL (B 0)) ≤ (B 0).length := (atI_ge (gD (B 0)) 0 (Nat.zero_le _)).2
  have hc20 : ∀ k, k < (T 3).length → ((T 3).getD k []).length ≤ 20 := fun k hk => (w_c.2.2.2.2.1 k hk).2.1
  refine M.aload_nR dX12_client_0 rfl ?_
  refine M.callV [] dX12_client_1 mdX12_used imX12_used seX12_used lk_X12_351 rfl rfl rfl rfl (m_used hA) ?_
  rintro _ I9 F9 ⟨rfl, e9, e8⟩
  have e9 := e9.symm; subst e9; have e8 := e8.symm; subst e8
  rw [q_a.1]
  refine M.istore (L' := [some (.ref m), some (.int 0), some (.int x), some (.int (bI rf)), some (.int (nI (B 0).length)), none, none, none, none]) dX12_client_4 (by decide) rfl rfl ?_
  have cut_32 : M Λ X mX12_client m A (mP (opClient N B T R false x rf)) (upd (upd I 0 0) 2 0) F 32 [some (.ref m), some (.int 0), some (.int x), some (.int (bI rf)), some (.int (nI (B 0).length)), some (.int (nI (idL (B 0)))), none, none, none] [] := by
    refine M.iload dX12_client_32 rfl ?_
    refine M.iload dX12_client_34 rfl ?_
    refine M.isub dX12_client_36 ?_
    refine M.iconst (v := 1) dX12_client_37 (by decide) ?_
    refine M.isub dX12_client_38 ?_
    by_cases hmn : (idL (B 0)) < (B 0).length
    · skip
      rw [nI_m1 hmn]
      refine M.istore (L' := [some (.ref m), some (.int 0), some (.int x), some (.int (bI rf)), some (.int (nI (B 0).length)), some (.int (nI (idL (B 0)))), some (.int (nI ((B 0).length - (idL (B 0)) - 1))), none, none]) dX12_client_39 (by decide) rfl rfl ?_
      have cut_200 : ∀ (b : Bool), (b = ((gdC (B 0) false && decide (0 ≤ x ∧ x < 1 <<< (nI (T 2).length &&& 31))) && decide (fnd (T 3) ((B 0).take (idL (B 0))) = (T 3).length))) → M Λ X mX12_client m A (mP (opClient N B T R false x rf)) (upd (upd I 0 0) 2 0) F 200 [some (.ref m), some (.int 0), some (.int x), some (.int (bI rf)), some (.int (nI (B 0).length)), some (.int (nI (idL (B 0)))), some (.int (nI ((B 0).length - (idL (B 0)) - 1))), some (.int (bI b)), some (.int (nI (T 3).length))] [] := by
        intro b hb
        refine M.aload_nR dX12_client_200 rfl ?_
        refine M.iload dX12_client_201 rfl ?_
        refine M.if_ne (tgt := 210) dX12_client_203 (by decide) (fun c_203 => ?_) (fun c_203 => ?_)
        · skip
          have hgd : ((gdC (B 0) false && decide (0 ≤ x ∧ x < 1 <<< (nI (T 2).length &&& 31))) && decide (fnd (T 3) ((B 0).take (idL (B 0))) = (T 3).length)) = true := by rw [← hb]; exact bt1 c_203
          have hgc : gdC (B 0) false = true := by have h9 := hgd; rw [Bool.and_eq_true, Bool.and_eq_true] at h9; exact h9.1.1
          have hg9 := hgc
          rw [gdC, Bool.and_eq_true, Bool.and_eq_true] at hg9
          have h21 := (of_decide_eq_true hg9.1.1).2
          refine M.iconst (v := 0) dX12_client_210 (by decide) ?_
          refine M.iconst (v := 1) dX12_client_211 (by decide) ?_
          refine M.callV [.int 0, .int 1] dX12_client_212 mdX12_throwsIf imX12_throwsIf seX12_throwsIf lk_X12_357 rfl rfl rfl rfl (m_throwsIf hA false 1) ?_
          rintro _ I9 F9 ⟨rfl, e9, e8⟩
          have e9 := e9.symm; subst e9; have e8 := e8.symm; subst e8
          refine M.if_ne (tgt := 240) dX12_client_215 (by decide) (fun c_215 => absurd c_215 (fun q => q rfl)) (fun c_215 => ?_)
          refine M.aload_nR dX12_client_218 rfl ?_
          refine M.aload_nR dX12_client_219 rfl ?_
          refine M.geti (v := nI (T 3).length) dX12_client_220 fl_X12_257 rfl rfl q_c.1 ?_
          refine M.bipush (v := 8) dX12_client_223 (by decide) ?_
          refine M.icmp_ne (tgt := 232) dX12_client_225 (by decide) (fun c_225 => ?_) (fun c_225 => ?_)
          · skip
            have n8 : ¬ (T 3).length = 8 := fun q => c_225 ((nI_eq (b := 8) (by omega) (by omega)).mpr q)
            refine M.iconst (v := 0) dX12_client_232 (by decide) ?_
            refine M.iconst (v := 2) dX12_client_233 (by decide) ?_
            refine M.callV [.int 0, .int 2] dX12_client_234 mdX12_throwsIf imX12_throwsIf seX12_throwsIf lk_X12_357 rfl rfl rfl rfl (m_throwsIf hA false 2) ?_
            rintro _ I9 F9 ⟨rfl, e9, e8⟩
            have e9 := e9.symm; subst e9; have e8 := e8.symm; subst e8
            refine M.if_eq (tgt := 242) dX12_client_237 (by decide) (fun c_237 => ?_) (fun c_237 => absurd rfl c_237)
            have h8 := hg9.2
            rw [if_neg (by decide)] at h8
            exact absurd (of_decide_eq_true h8) (by omega)
          · skip
            have et8 : (T 3).length = 8 := (nI_eq (b := 8) (by omega) (by omega)).mp c_225
            refine M.iconst (v := 1) dX12_client_228 (by decide) ?_
            refine M.goto (tgt := 233) dX12_client_229 (by decide) ?_
            refine M.iconst (v := 2) dX12_client_233 (by decide) ?_
            refine M.callV [.int 1, .int 2] dX12_client_234 mdX12_throwsIf imX12_throwsIf seX12_throwsIf lk_X12_357 rfl rfl rfl rfl (m_throwsIf hA true 2) ?_
            rintro _ I9 F9 ⟨rfl, e9, e8⟩
            have e9 := e9.symm; subst e9; have e8 := e8.symm; subst e8
            refine M.if_eq (tgt := 242) dX12_client_237 (by decide) (fun c_237 => absurd c_237 (by decide)) (fun c_237 => ?_)
            refine M.iconst (v := 0) dX12_client_240 (by decide) ?_
            refine M.iret dX12_client_241 rfl ?_
            first
              | (rw [opClient, if_pos (show ((gdC (B 0) false && decide (0 ≤ x ∧ x < 1 <<< (nI (T 2).length &&& 31))) && decide (fnd (T 3) ((B 0).take (idL (B 0))) = (T 3).length)) = false by rw [← hb]; exact (bI_eq0 _).mp c_203)]; exact ⟨rfl, rfl, ⟨rfl, rfl, q_a.2.2⟩, q_b, q_n, q_w, q_c, q_r, q_x, q_q, q_k, q_f, q_t⟩)
              | (rw [opClient, if_neg (show ¬ ((gdC (B 0) false && decide (0 ≤ x ∧ x < 1 <<< (nI (T 2).length &&& 31))) && decide (fnd (T 3) ((B 0).take (idL (B 0))) = (T 3).length)) = false by rw [hgd]; decide), if_pos et8]; exact ⟨rfl, rfl, ⟨rfl, rfl, q_a.2.2⟩, q_b, q_n, q_w, q_c, q_r, q_x, q_q, q_k, q_f, q_t⟩)
        · skip
          refine M.iconst (v := 1) dX12_client_206 (by decide) ?_
          refine M.goto (tgt := 211) dX12_client_207 (by decide) ?_
          refine M.iconst (v := 1) dX12_client_211 (by decide) ?_
          refine M.callV [.int 1, .int 1] dX12_client_212 mdX12_throwsIf imX12_throwsIf seX12_throwsIf lk_X12_357 rfl rfl rfl rfl (m_throwsIf hA true 1) ?_
          rintro _ I9 F9 ⟨rfl, e9, e8⟩
          have e9 := e9.symm; subst e9; have e8 := e8.symm; subst e8
          refine M.if_ne (tgt := 240) dX12_client_215 (by decide) (fun c_215 => ?_) (fun c_215 => absurd c_215 (by decide))
          refine M.iconst (v := 0) dX12_client_240 (by decide) ?_
          refine M.iret dX12_client_241 rfl ?_
          first
            | (rw [opClient, if_pos (show ((gdC (B 0) false && decide (0 ≤ x ∧ x < 1 <<< (nI (T 2).length &&& 31))) && decide (fnd (T 3) ((B 0).take (idL (B 0))) = (T 3).length)) = false by rw [← hb]; exact (bI_eq0 _).mp c_203)]; exact ⟨rfl, rfl, ⟨rfl, rfl, q_a.2.2⟩, q_b, q_n, q_w, q_c, q_r, q_x, q_q, q_k, q_f, q_t⟩)
            | (rw [opClient, if_neg (show ¬ ((gdC (B 0) false && decide (0 ≤ x ∧ x < 1 <<< (nI (T 2).length &&& 31))) && decide (fnd (T 3) ((B 0).take (idL (B 0))) = (T 3).length)) = false by rw [hgd]; decide), if_pos et8]; exact ⟨rfl, rfl, ⟨rfl, rfl, q_a.2.2⟩, q_b, q_n, q_w, q_c, q_r, q_x, q_q, q_k, q_f, q_t⟩)
      have cut_144 : ∀ (k_144 : Nat) (k : Nat) (b : Bool), (k ≤ (T 3).length) → ((T 3).length + 1 ≤ k + k_144) → (b = ((gdC (B 0) false && decide (0 ≤ x ∧ x < 1 <<< (nI (T 2).length &&& 31))) && alln (fun y => !decide (((B 0).take (idL (B 0))) = (T 3).getD y [])) k)) → M Λ X mX12_client m A (mP (opClient N B T R false x rf)) (upd (upd I 0 0) 2 0) F 144 [some (.ref m), some (.int 0), some (.int x), some (.int (bI rf)), some (.int (nI (B 0).length)), some (.int (nI (idL (B 0)))), some (.int (nI ((B 0).length - (idL (B 0)) - 1))), some (.int (bI b)), some (.int (nI k))] [] := by
        intro k_144
        induction k_144 with
        | zero => intro k b h1 h2 hb; exact absurd h2 (by omega)
        | succ k_144 ih_144 =>
          intro k b h1 h2 hb
          refine M.iload dX12_client_144 rfl ?_
          refine M.aload_nR dX12_client_146 rfl ?_
          refine M.geti (v := nI (T 3).length) dX12_client_147 fl_X12_257 rfl rfl q_c.1 ?_
          refine M.icmp_ge (tgt := 200) dX12_client_150 (by decide) (fun c_150 => ?_) (fun c_150 => ?_)
          · skip
            have e1 := nI_gen c_150 h1 (by omega); subst e1
            skip
            exact cut_200 b (by rw [hb]; show (_ && nonB (T 3) ((B 0).take (idL (B 0))) (T 3).length) = _; rw [nonB_fnd])
          · skip
            have lt_k : k < (T 3).length := nI_ltn c_150 (by omega) (by omega)
            have hx := q_c.2.1 k lt_k
            refine M.iload dX12_client_153 rfl ?_
            refine M.if_eq (tgt := 191) dX12_client_155 (by decide) (fun c_155 => ?_) (fun c_155 => ?_)
            · skip
              refine M.iconst (v := 0) dX12_client_191 (by decide) ?_
              refine M.istore (L' := [some (.ref m), some (.int 0), some (.int x), some (.int (bI rf)), some (.int (nI (B 0).length)), some (.int (nI (idL (B 0)))), some (.int (nI ((B 0).length - (idL (B 0)) - 1))), some (.int 0), some (.int (nI k))]) dX12_client_192 (by decide) rfl rfl ?_
              refine M.iinc (v := nI (k + 1)) (L' := [some (.ref m), some (.int 0), some (.int x), some (.int (bI rf)), some (.int (nI (B 0).length)), some (.int (nI (idL (B 0)))), some (.int (nI ((B 0).length - (idL (B 0)) - 1))), some (.int 0), some (.int (nI (k + 1)))]) dX12_client_194 rfl (nI_1 k) (by decide) rfl rfl ?_
              refine M.goto (tgt := 144) dX12_client_197 (by decide) ?_
              exact ih_144 (k + 1) false (by omega) (by omega) (by rw [← alln_b (p := fun y => !decide (((B 0).take (idL (B 0))) = (T 3).getD y [])) hb]; first | rw [(bI_eq0 _).mp c_155, Bool.false_and] | rw [bt1 c_184, Bool.not_true, Bool.and_false])
            · skip
              refine M.aload_nR dX12_client_158 rfl ?_
              refine M.getr dX12_client_159 fl_X12_9 rfl rfl ?_
              refine M.iconst (v := 0) dX12_client_162 (by decide) ?_
              refine M.iload dX12_client_163 rfl ?_
              refine M.aload_nR dX12_client_165 rfl ?_
              refine M.getr dX12_client_166 fl_X12_23 rfl rfl ?_
              refine M.bipush (v := 20) dX12_client_169 (by decide) ?_
              refine M.iload dX12_client_171 rfl ?_
              refine M.imul dX12_client_173 ?_
              rw [show 20 * (nI k) = nI (20 * k) from nI_mulc 20 k]
              refine M.aload_nR dX12_client_174 rfl ?_
              refine M.getr dX12_client_175 fl_X12_26 rfl rfl ?_
              refine M.iload dX12_client_178 rfl ?_
              refine M.ialdv (k9 := 11) (j := k) (g := F 11) (v := nI ((T 3).getD k []).length) dX12_client_180 rfl rfl rfl rfl (show k < 8 by omega) hx.1 ?_
              refine M.callS [.ref (A 1), .int 0, .int (nI (idL (B 0))), .ref (A 10), .int (nI (20 * k)), .int (nI ((T 3).getD k []).length)] dX12_client_181 mdX12_isLike ssX12_isLike lk_X12_264 rfl rfl rfl rfl (m_likeT hA (kb := 10) rfl rfl (v := ((B 0).take (idL (B 0)))) (w := (T 3).getD k []) (tl_tk q_a.2.1 hmle) (by omega) (show 20 * k + ((T 3).getD k []).length ≤ 160 by omega) hx.2.2) ?_
              rintro _ I9 F9 ⟨rfl, e9, e8⟩
              have e9 := e9.symm; subst e9; have e8 := e8.symm; subst e8
              refine M.if_ne (tgt := 191) dX12_client_184 (by decide) (fun c_184 => ?_) (fun c_184 => ?_)
              · skip
                refine M.iconst (v := 0) dX12_client_191 (by decide) ?_
                refine M.istore (L' := [some (.ref m), some (.int 0), some (.int x), some (.int (bI rf)), some (.int (nI (B 0).length)), some (.int (nI (idL (B 0)))), some (.int (nI ((B 0).length - (idL (B 0)) - 1))), some (.int 0), some (.int (nI k))]) dX12_client_192 (by decide) rfl rfl ?_
                refine M.iinc (v := nI (k + 1)) (L' := [some (.ref m), some (.int 0), some (.int x), some (.int (bI rf)), some (.int (nI (B 0).length)), some (.int (nI (idL (B 0)))), some (.int (nI ((B 0).length - (idL (B 0)) - 1))), some (.int 0), some (.int (nI (k + 1)))]) dX12_client_194 rfl (nI_1 k) (by decide) rfl rfl ?_
                refine M.goto (tgt := 144) dX12_client_197 (by decide) ?_
                exact ih_144 (k + 1) false (by omega) (by omega) (by rw [← alln_b (p := fun y => !decide (((B 0).take (idL (B 0))) = (T 3).getD y [])) hb]; first | rw [(bI_eq0 _).mp c_155, Bool.false_and] | rw [bt1 c_184, Bool.not_true, Bool.and_false])
              · skip
                refine M.iconst (v := 1) dX12_client_187 (by decide) ?_
                refine M.goto (tgt := 192) dX12_client_188 (by decide) ?_
                refine M.istore (L' := [some (.ref m), some (.int 0), some (.int x), some (.int (bI rf)), some (.int (nI (B 0).length)), some (.int (nI (idL (B 0)))), some (.int (nI ((B 0).length - (idL (B 0)) - 1))), some (.int 1), some (.int (nI k))]) dX12_client_192 (by decide) rfl rfl ?_
                refine M.iinc (v := nI (k + 1)) (L' := [some (.ref m), some (.int 0), some (.int x), some (.int (bI rf)), some (.int (nI (B 0).length)), some (.int (nI (idL (B 0)))), some (.int (nI ((B 0).length - (idL (B 0)) - 1))), some (.int 1), some (.int (nI (k + 1)))]) dX12_client_194 rfl (nI_1 k) (by decide) rfl rfl ?_
                refine M.goto (tgt := 144) dX12_client_197 (by decide) ?_
                exact ih_144 (k + 1) true (by omega) (by omega) (by rw [← alln_b (p := fun y => !decide (((B 0).take (idL (B 0))) = (T 3).getD y [])) hb, bt1 c_155, (bI_eq0 _).mp c_184]; rfl)
      have cut_141 : ∀ (b : Bool), (b = (gdC (B 0) false && decide (0 ≤ x ∧ x < 1 <<< (nI (T 2).length &&& 31)))) → M Λ X mX12_client m A (mP (opClient N B T R false x rf)) (upd (upd I 0 0) 2 0) F 141 [some (.ref m), some (.int 0), some (.int x), some (.int (bI rf)), some (.int (nI (B 0).length)), some (.int (nI (idL (B 0)))), some (.int (nI ((B 0).length - (idL (B 0)) - 1))), some (.int (bI b)), none] [] := by
        intro b hb
        refine M.iconst (v := 0) dX12_client_141 (by decide) ?_
        refine M.istore (L' := [some (.ref m), some (.int 0), some (.int x), some (.int (bI rf)), some (.int (nI (B 0).length)), some (.int (nI (idL (B 0)))), some (.int (nI ((B 0).length - (idL (B 0)) - 1))), some (.int (bI b)), some (.int 0)]) dX12_client_142 (by decide) rfl rfl ?_
        exact cut_144 ((T 3).length + 1) 0 b (by omega) (by omega) (by rw [hb]; show _ = (_ && true); rw [Bool.and_true])
      have cut_115 : ∀ (b : Bool), (b = gdC (B 0) false) → M Λ X mX12_client m A (mP (opClient N B T R false x rf)) (upd (upd I 0 0) 2 0) F 115 [some (.ref m), some (.int 0), some (.int x), some (.int (bI rf)), some (.int (nI (B 0).length)), some (.int (nI (idL (B 0)))), some (.int (nI ((B 0).length - (idL (B 0)) - 1))), some (.int (bI b)), none] [] := by
        intro b hb
        refine M.iload dX12_client_115 rfl ?_
        refine M.if_eq (tgt := 138) dX12_client_117 (by decide) (fun c_117 => ?_) (fun c_117 => ?_)
        · skip
          refine M.iconst (v := 0) dX12_client_138 (by decide) ?_
          refine M.istore (L' := [some (.ref m), some (.int 0), some (.int x), some (.int (bI rf)), some (.int (nI (B 0).length)), some (.int (nI (idL (B 0)))), some (.int (nI ((B 0).length - (idL (B 0)) - 1))), some (.int 0), none]) dX12_client_139 (by decide) rfl rfl ?_
          exact cut_141 false (by rw [← hb]; first | rw [(bI_eq0 _).mp c_117, Bool.false_and] | rw [decide_eq_false (fun q => absurd q.1 (Int32.not_le.mpr c_121)), Bool.and_false] | rw [decide_eq_false (fun q => absurd q.2 (Int32.not_lt.mpr c_131)), Bool.and_false])
        · skip
          refine M.iload_n dX12_client_120 rfl ?_
          refine M.if_lt (tgt := 138) dX12_client_121 (by decide) (fun c_121 => ?_) (fun c_121 => ?_)
          · skip
            refine M.iconst (v := 0) dX12_client_138 (by decide) ?_
            refine M.istore (L' := [some (.ref m), some (.int 0), some (.int x), some (.int (bI rf)), some (.int (nI (B 0).length)), some (.int (nI (idL (B 0)))), some (.int (nI ((B 0).length - (idL (B 0)) - 1))), some (.int 0), none]) dX12_client_139 (by decide) rfl rfl ?_
            exact cut_141 false (by rw [← hb]; first | rw [(bI_eq0 _).mp c_117, Bool.false_and] | rw [decide_eq_false (fun q => absurd q.1 (Int32.not_le.mpr c_121)), Bool.and_false] | rw [decide_eq_false (fun q => absurd q.2 (Int32.not_lt.mpr c_131)), Bool.and_false])
          · skip
            refine M.iload_n dX12_client_124 rfl ?_
            refine M.iconst (v := 1) dX12_client_125 (by decide) ?_
            refine M.aload_nR dX12_client_126 rfl ?_
            refine M.geti (v := nI (T 2).length) dX12_client_127 fl_X12_268 rfl rfl q_w.1 ?_
            refine M.ishl dX12_client_130 ?_
            refine M.icmp_ge (tgt := 138) dX12_client_131 (by decide) (fun c_131 => ?_) (fun c_131 => ?_)
            · skip
              refine M.iconst (v := 0) dX12_client_138 (by decide) ?_
              refine M.istore (L' := [some (.ref m), some (.int 0), some (.int x), some (.int (bI rf)), some (.int (nI (B 0).length)), some (.int (nI (idL (B 0)))), some (.int (nI ((B 0).length - (idL (B 0)) - 1))), some (.int 0), none]) dX12_client_139 (by decide) rfl rfl ?_
              exact cut_141 false (by rw [← hb]; first | rw [(bI_eq0 _).mp c_117, Bool.false_and] | rw [decide_eq_false (fun q => absurd q.1 (Int32.not_le.mpr c_121)), Bool.and_false] | rw [decide_eq_false (fun q => absurd q.2 (Int32.not_lt.mpr c_131)), Bool.and_false])
            · skip
              refine M.iconst (v := 1) dX12_client_134 (by decide) ?_
              refine M.goto (tgt := 139) dX12_client_135 (by decide) ?_
              refine M.istore (L' := [some (.ref m), some (.int 0), some (.int x), some (.int (bI rf)), some (.int (nI (B 0).length)), some (.int (nI (idL (B 0)))), some (.int (nI ((B 0).length - (idL (B 0)) - 1))), some (.int 1), none]) dX12_client_139 (by decide) rfl rfl ?_
              exact cut_141 true (by rw [← hb, bt1 c_117, decide_eq_true ⟨Int32.not_lt.mp c_121, Int32.not_le.mp c_131⟩]; rfl)
      refine M.iload dX12_client_41 rfl ?_
      refine M.if_le (tgt := 112) dX12_client_43 (by decide) (fun c_43 => ?_) (fun c_43 => ?_)
      · skip
        refine M.iconst (v := 0) dX12_client_112 (by decide) ?_
        refine M.istore (L' := [some (.ref m), some (.int 0), some (.int x), some (.int (bI rf)), some (.int (nI (B 0).length)), some (.int (nI (idL (B 0)))), some (.int (nI ((B 0).length - (idL (B 0)) - 1))), some (.int 0), none]) dX12_client_113 (by decide) rfl rfl ?_
        exact cut_115 false (by rw [gdC]; first | rw [decide_eq_false (fun q => nI_nle q.1 (by omega) c_43), Bool.false_and, Bool.false_and] | rw [decide_eq_false (fun q => nI_ge (b := 21) q.2 (by omega) c_50), Bool.false_and, Bool.false_and] | rw [(bI_eq0 _).mp c_63, Bool.and_false, Bool.false_and] | rw [if_neg (by decide), decide_eq_false hmne, Bool.and_false])
      · skip
        refine M.iload dX12_client_46 rfl ?_
        refine M.bipush (v := 21) dX12_client_48 (by decide) ?_
        refine M.icmp_ge (tgt := 112) dX12_client_50 (by decide) (fun c_50 => ?_) (fun c_50 => ?_)
        · skip
          refine M.iconst (v := 0) dX12_client_112 (by decide) ?_
          refine M.istore (L' := [some (.ref m), some (.int 0), some (.int x), some (.int (bI rf)), some (.int (nI (B 0).length)), some (.int (nI (idL (B 0)))), some (.int (nI ((B 0).length - (idL (B 0)) - 1))), some (.int 0), none]) dX12_client_113 (by decide) rfl rfl ?_
          exact cut_115 false (by rw [gdC]; first | rw [decide_eq_false (fun q => nI_nle q.1 (by omega) c_43), Bool.false_and, Bool.false_and] | rw [decide_eq_false (fun q => nI_ge (b := 21) q.2 (by omega) c_50), Bool.false_and, Bool.false_and] | rw [(bI_eq0 _).mp c_63, Bool.and_false, Bool.false_and] | rw [if_neg (by decide), decide_eq_false hmne, Bool.and_false])
        · skip
          refine M.aload_nR dX12_client_53 rfl ?_
          refine M.getr dX12_client_54 fl_X12_9 rfl rfl ?_
          refine M.iconst (v := 0) dX12_client_57 (by decide) ?_
          refine M.iload dX12_client_58 rfl ?_
          refine M.callS [.ref (A 1), .int 0, .int (nI (idL (B 0)))] dX12_client_60 mdX12_isVisible ssX12_isVisible lk_X12_353 rfl rfl rfl rfl (m_visI hA (i := 0) (n := (idL (B 0))) (tl_tk q_a.2.1 hmle) (by omega)) ?_
          rintro _ I9 F9 ⟨rfl, e9, e8⟩
          have e9 := e9.symm; subst e9; have e8 := e8.symm; subst e8
          refine M.if_eq (tgt := 112) dX12_client_63 (by decide) (fun c_63 => ?_) (fun c_63 => ?_)
          · skip
            refine M.iconst (v := 0) dX12_client_112 (by decide) ?_
            refine M.istore (L' := [some (.ref m), some (.int 0), some (.int x), some (.int (bI rf)), some (.int (nI (B 0).length)), some (.int (nI (idL (B 0)))), some (.int (nI ((B 0).length - (idL (B 0)) - 1))), some (.int 0), none]) dX12_client_113 (by decide) rfl rfl ?_
            exact cut_115 false (by rw [gdC]; first | rw [decide_eq_false (fun q => nI_nle q.1 (by omega) c_43), Bool.false_and, Bool.false_and] | rw [decide_eq_false (fun q => nI_ge (b := 21) q.2 (by omega) c_50), Bool.false_and, Bool.false_and] | rw [(bI_eq0 _).mp c_63, Bool.and_false, Bool.false_and] | rw [if_neg (by decide), decide_eq_false hmne, Bool.and_false])
          · skip
            refine M.iload_n dX12_client_66 rfl ?_
            refine M.if_eq (tgt := 101) dX12_client_67 (by decide) (fun c_67 => ?_) (fun c_67 => absurd rfl c_67)
            refine M.iload dX12_client_101 rfl ?_
            refine M.iload dX12_client_103 rfl ?_
            refine M.icmp_ne (tgt := 112) dX12_client_105 (by decide) (fun c_105 => ?_) (fun c_105 => ?_)
            · skip
              have hmne : ¬ (idL (B 0)) = (B 0).length := fun q => c_105 ((nI_eq (by omega) (by omega)).mpr q)
              refine M.iconst (v := 0) dX12_client_112 (by decide) ?_
              refine M.istore (L' := [some (.ref m), some (.int 0), some (.int x), some (.int (bI rf)), some (.int (nI (B 0).length)), some (.int (nI (idL (B 0)))), some (.int (nI ((B 0).length - (idL (B 0)) - 1))), some (.int 0), none]) dX12_client_113 (by decide) rfl rfl ?_
              exact cut_115 false (by rw [gdC]; first | rw [decide_eq_false (fun q => nI_nle q.1 (by omega) c_43), Bool.false_and, Bool.false_and] | rw [decide_eq_false (fun q => nI_ge (b := 21) q.2 (by omega) c_50), Bool.false_and, Bool.false_and] | rw [(bI_eq0 _).mp c_63, Bool.and_false, Bool.false_and] | rw [if_neg (by decide), decide_eq_false hmne, Bool.and_false])
            · skip
              have hmeq : (idL (B 0)) = (B 0).length := (nI_eq (by omega) (by omega)).mp c_105
              refine M.iconst (v := 1) dX12_client_108 (by decide) ?_
              refine M.goto (tgt := 113) dX12_client_109 (by decide) ?_
              refine M.istore (L' := [some (.ref m), some (.int 0), some (.int x), some (.int (bI rf)), some (.int (nI (B 0).length)), some (.int (nI (idL (B 0)))), some (.int (nI ((B 0).length - (idL (B 0)) - 1))), some (.int 1), none]) dX12_client_113 (by decide) rfl rfl ?_
              exact cut_115 true (by rw [gdC, decide_eq_true (show 0 < (idL (B 0)) ∧ (idL (B 0)) < 21 from ⟨Nat.pos_of_ne_zero (fun q => c_43 (by rw [q]; decide)), nI_ltn (n := 21) c_50 (by omega) (by omega)⟩), bt1 c_63, if_neg (by decide), decide_eq_true hmeq]; rfl)
    · have heq : (idL (B 0)) = (B 0).length := by omega
      rw [show nI (B 0).length - nI (idL (B 0)) - 1 = -1 from by rw [heq]; exact nI_mm _]
      refine M.istore (L' := [some (.ref m), some (.int 0), some (.int x), some (.int (bI rf)), some (.int (nI (B 0).length)), some (.int (nI (idL (B 0)))), some (.int (-1)), none, none]) dX12_client_39 (by decide) rfl rfl ?_
      have cut_200 : ∀ (b : Bool), (b = ((gdC (B 0) false && decide (0 ≤ x ∧ x < 1 <<< (nI (T 2).length &&& 31))) && decide (fnd (T 3) ((B 0).take (idL (B 0))) = (T 3).length))) → M Λ X mX12_client m A (mP (opClient N B T R false x rf)) (upd (upd I 0 0) 2 0) F 200 [some (.ref m), some (.int 0), some (.int x), some (.int (bI rf)), some (.int (nI (B 0).length)), some (.int (nI (idL (B 0)))), some (.int (-1)), some (.int (bI b)), some (.int (nI (T 3).length))] [] := by
        intro b hb
        refine M.aload_nR dX12_client_200 rfl ?_
        refine M.iload dX12_client_201 rfl ?_
        refine M.if_ne (tgt := 210) dX12_client_203 (by decide) (fun c_203 => ?_) (fun c_203 => ?_)
        · skip
          have hgd : ((gdC (B 0) false && decide (0 ≤ x ∧ x < 1 <<< (nI (T 2).length &&& 31))) && decide (fnd (T 3) ((B 0).take (idL (B 0))) = (T 3).length)) = true := by rw [← hb]; exact bt1 c_203
          have hgc : gdC (B 0) false = true := by have h9 := hgd; rw [Bool.and_eq_true, Bool.and_eq_true] at h9; exact h9.1.1
          have hg9 := hgc
          rw [gdC, Bool.and_eq_true, Bool.and_eq_true] at hg9
          have h21 := (of_decide_eq_true hg9.1.1).2
          refine M.iconst (v := 0) dX12_client_210 (by decide) ?_
          refine M.iconst (v := 1) dX12_client_211 (by decide) ?_
          refine M.callV [.int 0, .int 1] dX12_client_212 mdX12_throwsIf imX12_throwsIf seX12_throwsIf lk_X12_357 rfl rfl rfl rfl (m_throwsIf hA false 1) ?_
          rintro _ I9 F9 ⟨rfl, e9, e8⟩
          have e9 := e9.symm; subst e9; have e8 := e8.symm; subst e8
          refine M.if_ne (tgt := 240) dX12_client_215 (by decide) (fun c_215 => absurd c_215 (fun q => q rfl)) (fun c_215 => ?_)
          refine M.aload_nR dX12_client_218 rfl ?_
          refine M.aload_nR dX12_client_219 rfl ?_
          refine M.geti (v := nI (T 3).length) dX12_client_220 fl_X12_257 rfl rfl q_c.1 ?_
          refine M.bipush (v := 8) dX12_client_223 (by decide) ?_
          refine M.icmp_ne (tgt := 232) dX12_client_225 (by decide) (fun c_225 => ?_) (fun c_225 => ?_)
          · skip
            have n8 : ¬ (T 3).length = 8 := fun q => c_225 ((nI_eq (b := 8) (by omega) (by omega)).mpr q)
            refine M.iconst (v := 0) dX12_client_232 (by decide) ?_
            refine M.iconst (v := 2) dX12_client_233 (by decide) ?_
            refine M.callV [.int 0, .int 2] dX12_client_234 mdX12_throwsIf imX12_throwsIf seX12_throwsIf lk_X12_357 rfl rfl rfl rfl (m_throwsIf hA false 2) ?_
            rintro _ I9 F9 ⟨rfl, e9, e8⟩
            have e9 := e9.symm; subst e9; have e8 := e8.symm; subst e8
            refine M.if_eq (tgt := 242) dX12_client_237 (by decide) (fun c_237 => ?_) (fun c_237 => absurd rfl c_237)
            have hidl : ((B 0).take (idL (B 0))).length = (idL (B 0)) := by rw [List.length_take, Nat.min_eq_left hmle]
            refine M.iconst (v := 0) dX12_client_242 (by decide) ?_
            refine M.istore (L' := [some (.ref m), some (.int 0), some (.int x), some (.int (bI rf)), some (.int (nI (B 0).length)), some (.int (nI (idL (B 0)))), some (.int (-1)), some (.int (bI b)), some (.int 0)]) dX12_client_243 (by decide) rfl rfl ?_
            have cut_245 : ∀ (k_245 : Nat) (k : Nat), (k ≤ (idL (B 0))) → ((idL (B 0)) + 1 ≤ k + k_245) → M Λ X mX12_client m A (mP (opClient N B T R false x rf)) (upd (upd I 0 0) 2 0) (setF F 10 (updl (F 10) (20 * (T 3).length) (((B 0).take (idL (B 0))).take k))) 245 [some (.ref m), some (.int 0), some (.int x), some (.int (bI rf)), some (.int (nI (B 0).length)), some (.int (nI (idL (B 0)))), some (.int (-1)), some (.int (bI b)), some (.int (nI k))] [] := by
              intro k_245
              induction k_245 with
              | zero => intro k h1 h2; exact absurd h2 (by omega)
              | succ k_245 ih_245 =>
                intro k h1 h2
                have htl : (((B 0).take (idL (B 0))).take k).length = k := by rw [List.length_take, hidl, Nat.min_eq_left h1]
                refine M.iload dX12_client_245 rfl ?_
                refine M.iload dX12_client_247 rfl ?_
                refine M.icmp_ge (tgt := 280) dX12_client_249 (by decide) (fun c_249 => ?_) (fun c_249 => ?_)
                · skip
                  have e1 : k = (idL (B 0)) := nI_gen c_249 h1 (by omega)
                  subst e1
                  rw [List.take_of_length_le (i := (idL (B 0))) (l := ((B 0).take (idL (B 0)))) (by omega)]
                  refine M.aload_nR dX12_client_280 rfl ?_
                  refine M.getr dX12_client_281 fl_X12_26 rfl rfl ?_
                  refine M.aload_nR dX12_client_284 rfl ?_
                  refine M.geti (v := nI (T 3).length) dX12_client_285 fl_X12_257 rfl rfl q_c.1 ?_
                  refine M.iload dX12_client_288 rfl ?_
                  refine M.iast (k9 := 11) (j := (T 3).length) dX12_client_290 rfl rfl rfl (show (T 3).length < 8 by omega) ?_
                  refine M.iconst (v := 0) dX12_client_291 (by decide) ?_
                  refine M.istore (L' := [some (.ref m), some (.int 0), some (.int x), some (.int (bI rf)), some (.int (nI (B 0).length)), some (.int (nI (idL (B 0)))), some (.int (-1)), some (.int (bI b)), some (.int 0)]) dX12_client_292 (by decide) rfl rfl ?_
                  refine M.iload dX12_client_294 rfl ?_
                  refine M.iload dX12_client_296 rfl ?_
                  refine M.icmp_ge (tgt := 338) dX12_client_298 (by decide) (fun c_298 => ?_) (fun c_298 => absurd (by decide) c_298)
                  refine M.aload_nR dX12_client_338 rfl ?_
                  refine M.getr dX12_client_339 fl_X12_32 rfl rfl ?_
                  refine M.aload_nR dX12_client_342 rfl ?_
                  refine M.geti (v := nI (T 3).length) dX12_client_343 fl_X12_257 rfl rfl q_c.1 ?_
                  refine M.iload_n dX12_client_346 rfl ?_
                  refine M.if_eq (tgt := 355) dX12_client_347 (by decide) (fun c_347 => ?_) (fun c_347 => absurd rfl c_347)
                  refine M.iconst (v := 0) dX12_client_355 (by decide) ?_
                  refine M.iast (k9 := 13) (j := (T 3).length) dX12_client_356 rfl rfl rfl (show (T 3).length < 8 by omega) ?_
                  refine M.aload_nR dX12_client_357 rfl ?_
                  refine M.getr dX12_client_358 fl_X12_35 rfl rfl ?_
                  refine M.aload_nR dX12_client_361 rfl ?_
                  refine M.geti (v := nI (T 3).length) dX12_client_362 fl_X12_257 rfl rfl q_c.1 ?_
                  refine M.iload_n dX12_client_365 rfl ?_
                  refine M.zast1 (k9 := 14) (j := (T 3).length) dX12_client_366 rfl rfl rfl (show (T 3).length < 8 by omega) (by decide) ?_
                  refine M.aload_nR dX12_client_367 rfl ?_
                  refine M.getr dX12_client_368 fl_X12_39 rfl rfl ?_
                  refine M.aload_nR dX12_client_371 rfl ?_
                  refine M.geti (v := nI (T 3).length) dX12_client_372 fl_X12_257 rfl rfl q_c.1 ?_
                  refine M.iload_n dX12_client_375 rfl ?_
                  refine M.iast (k9 := 15) (j := (T 3).length) dX12_client_376 rfl rfl rfl (show (T 3).length < 8 by omega) ?_
                  refine M.aload_nR dX12_client_377 rfl ?_
                  refine M.getr dX12_client_378 fl_X12_42 rfl rfl ?_
                  refine M.aload_nR dX12_client_381 rfl ?_
                  refine M.geti (v := nI (T 3).length) dX12_client_382 fl_X12_257 rfl rfl q_c.1 ?_
                  refine M.iload_n dX12_client_385 rfl ?_
                  refine M.zast1 (k9 := 16) (j := (T 3).length) dX12_client_386 rfl rfl rfl (show (T 3).length < 8 by omega) (bI_bI _) ?_
                  refine M.aload_nR dX12_client_387 rfl ?_
                  refine M.dup dX12_client_388 rfl ?_
                  refine M.geti (v := nI (T 3).length) dX12_client_389 fl_X12_257 rfl rfl q_c.1 ?_
                  refine M.iconst (v := 1) dX12_client_392 (by decide) ?_
                  refine M.iadd dX12_client_393 ?_
                  rw [show (nI (T 3).length) + 1 = nI ((T 3).length + 1) from nI_1 _]
                  refine M.puti dX12_client_394 fp_X12_257 rfl rfl ?_
                  refine M.aload_nR dX12_client_397 rfl ?_
                  refine M.geti (v := nI ((T 3).length + 1)) dX12_client_398 fl_X12_257 rfl rfl rfl ?_
                  refine M.iconst (v := 1) dX12_client_401 (by decide) ?_
                  refine M.isub dX12_client_402 ?_
                  rw [show (nI ((T 3).length + 1)) - 1 = nI (T 3).length from nI_pred _]
                  refine M.iret dX12_client_403 rfl ?_
                  rw [opClient, if_neg (show ¬ ((gdC (B 0) false && decide (0 ≤ x ∧ x < 1 <<< (nI (T 2).length &&& 31))) && decide (fnd (T 3) ((B 0).take (idL (B 0))) = (T 3).length)) = false by rw [hgd]; decide), if_neg n8]
                  refine ⟨rfl, rfl, ⟨rfl, rfl, q_a.2.2⟩, q_b, q_n, q_w, ⟨?_, q_c.2.1.app (r := ((B 0).take (idL (B 0)))) (by omega) rfl (by rw [hidl]; rfl), q_c.2.2.1.app (r := []) (by decide) (by rw [updl_nil]; rfl) (by rw [w_c.2.2.1]; rfl), q_c.2.2.2.1.app (x := 0) (by rw [w_c.2.2.2.1]; rfl) rfl, q_c.2.2.2.2.1.app (x := x) (by rw [w_c.2.2.2.1]; rfl) rfl, q_c.2.2.2.2.2.app (x := bI rf) (by rw [w_c.2.2.2.1]; rfl) rfl⟩, q_r, q_x, q_q, q_k, q_f, q_t⟩
                  show nI ((T 3).length + 1) = nI (T 3 ++ [((B 0).take (idL (B 0)))]).length
                  rw [List.length_append, List.length_singleton]
                · skip
                  have lt_k : k < (idL (B 0)) := nI_ltn c_249 (by omega) (by omega)
                  have hidk : gD (B 0) k = ((B 0).take (idL (B 0))).getD k 0 := by rw [gD, List.getD_eq_getElem?_getD, List.getD_eq_getElem?_getD, List.getElem?_take_of_lt lt_k]
                  refine M.aload_nR dX12_client_252 rfl ?_
                  refine M.getr dX12_client_253 fl_X12_23 rfl rfl ?_
                  refine M.bipush (v := 20) dX12_client_256 (by decide) ?_
                  refine M.aload_nR dX12_client_258 rfl ?_
                  refine M.geti (v := nI (T 3).length) dX12_client_259 fl_X12_257 rfl rfl q_c.1 ?_
                  refine M.imul dX12_client_262 ?_
                  rw [show 20 * (nI (T 3).length) = nI (20 * (T 3).length) from nI_mulc 20 ((T 3).length)]
                  refine M.iload dX12_client_263 rfl ?_
                  refine M.iadd dX12_client_265 ?_
                  rw [show (nI (20 * (T 3).length)) + (nI k) = nI (20 * (T 3).length + k) from nI_add (20 * (T 3).length) k]
                  refine M.aload_nR dX12_client_266 rfl ?_
                  refine M.getr dX12_client_267 fl_X12_9 rfl rfl ?_
                  refine M.iload dX12_client_270 rfl ?_
                  refine M.baldv (k9 := 1) (j := k) (g := F 1) (v := ((B 0).take (idL (B 0))).getD k 0) dX12_client_272 rfl rfl rfl rfl (show k < 2000 by omega) ((tl_at0 q_a.2.1 (by omega)).trans hidk) ?_
                  refine M.bast1 (k9 := 10) (j := 20 * (T 3).length + (((B 0).take (idL (B 0))).take k).length) dX12_client_273 rfl rfl (by rw [htl]) (show 20 * (T 3).length + (((B 0).take (idL (B 0))).take k).length < 160 by rw [htl]; omega) (bts_at (bts_take _ w_a.2.1) (by omega)) ?_
                  rw [updF_set, updl_snoc, ← take_at (by omega)]
                  refine M.iinc (v := nI (k + 1)) (L' := [some (.ref m), some (.int 0), some (.int x), some (.int (bI rf)), some (.int (nI (B 0).length)), some (.int (nI (idL (B 0)))), some (.int (-1)), some (.int (bI b)), some (.int (nI (k + 1)))]) dX12_client_274 rfl (nI_1 k) (by decide) rfl rfl ?_
                  refine M.goto (tgt := 245) dX12_client_277 (by decide) ?_
                  exact ih_245 (k + 1) (by omega) (by omega)
            have t9 := cut_245 ((idL (B 0)) + 1) 0 (by omega) (by omega)
            rw [List.take_zero, updl_nil, setF_self] at t9
            exact t9
          · skip
            have et8 : (T 3).length = 8 := (nI_eq (b := 8) (by omega) (by omega)).mp c_225
            refine M.iconst (v := 1) dX12_client_228 (by decide) ?_
            refine M.goto (tgt := 233) dX12_client_229 (by decide) ?_
            refine M.iconst (v := 2) dX12_client_233 (by decide) ?_
            refine M.callV [.int 1, .int 2] dX12_client_234 mdX12_throwsIf imX12_throwsIf seX12_throwsIf lk_X12_357 rfl rfl rfl rfl (m_throwsIf hA true 2) ?_
            rintro _ I9 F9 ⟨rfl, e9, e8⟩
            have e9 := e9.symm; subst e9; have e8 := e8.symm; subst e8
            refine M.if_eq (tgt := 242) dX12_client_237 (by decide) (fun c_237 => absurd c_237 (by decide)) (fun c_237 => ?_)
            refine M.iconst (v := 0) dX12_client_240 (by decide) ?_
            refine M.iret dX12_client_241 rfl ?_
            first
              | (rw [opClient, if_pos (show ((gdC (B 0) false && decide (0 ≤ x ∧ x < 1 <<< (nI (T 2).length &&& 31))) && decide (fnd (T 3) ((B 0).take (idL (B 0))) = (T 3).length)) = false by rw [← hb]; exact (bI_eq0 _).mp c_203)]; exact ⟨rfl, rfl, ⟨rfl, rfl, q_a.2.2⟩, q_b, q_n, q_w, q_c, q_r, q_x, q_q, q_k, q_f, q_t⟩)
              | (rw [opClient, if_neg (show ¬ ((gdC (B 0) false && decide (0 ≤ x ∧ x < 1 <<< (nI (T 2).length &&& 31))) && decide (fnd (T 3) ((B 0).take (idL (B 0))) = (T 3).length)) = false by rw [hgd]; decide), if_pos et8]; exact ⟨rfl, rfl, ⟨rfl, rfl, q_a.2.2⟩, q_b, q_n, q_w, q_c, q_r, q_x, q_q, q_k, q_f, q_t⟩)
        · skip
          refine M.iconst (v := 1) dX12_client_206 (by decide) ?_
          refine M.goto (tgt := 211) dX12_client_207 (by decide) ?_
          refine M.iconst (v := 1) dX12_client_211 (by decide) ?_
          refine M.callV [.int 1, .int 1] dX12_client_212 mdX12_throwsIf imX12_throwsIf seX12_throwsIf lk_X12_357 rfl rfl rfl rfl (m_throwsIf hA true 1) ?_
          rintro _ I9 F9 ⟨rfl, e9, e8⟩
          have e9 := e9.symm; subst e9; have e8 := e8.symm; subst e8
          refine M.if_ne (tgt := 240) dX12_client_215 (by decide) (fun c_215 => ?_) (fun c_215 => absurd c_215 (by decide))
          refine M.iconst (v := 0) dX12_client_240 (by decide) ?_
          refine M.iret dX12_client_241 rfl ?_
          first
            | (rw [opClient, if_pos (show ((gdC (B 0) false && decide (0 ≤ x ∧ x < 1 <<< (nI (T 2).length &&& 31))) && decide (fnd (T 3) ((B 0).take (idL (B 0))) = (T 3).length)) = false by rw [← hb]; exact (bI_eq0 _).mp c_203)]; exact ⟨rfl, rfl, ⟨rfl, rfl, q_a.2.2⟩, q_b, q_n, q_w, q_c, q_r, q_x, q_q, q_k, q_f, q_t⟩)
            | (rw [opClient, if_neg (show ¬ ((gdC (B 0) false && decide (0 ≤ x ∧ x < 1 <<< (nI (T 2).length &&& 31))) && decide (fnd (T 3) ((B 0).take (idL (B 0))) = (T 3).length)) = false by rw [hgd]; decide), if_pos et8]; exact ⟨rfl, rfl, ⟨rfl, rfl, q_a.2.2⟩, q_b, q_n, q_w, q_c, q_r, q_x, q_q, q_k, q_f, q_t⟩)
      have cut_144 : ∀ (k_144 : Nat) (k : Nat) (b : Bool), (k ≤ (T 3).length) → ((T 3).length + 1 ≤ k + k_144) → (b = ((gdC (B 0) false && decide (0 ≤ x ∧ x < 1 <<< (nI (T 2).length &&& 31))) && alln (fun y => !decide (((B 0).take (idL (B 0))) = (T 3).getD y [])) k)) → M Λ X mX12_client m A (mP (opClient N B T R false x rf)) (upd (upd I 0 0) 2 0) F 144 [some (.ref m), some (.int 0), some (.int x), some (.int (bI rf)), some (.int (nI (B 0).length)), some (.int (nI (idL (B 0)))), some (.int (-1)), some (.int (bI b)), some (.int (nI k))] [] := by
        intro k_144
        induction k_144 with
        | zero => intro k b h1 h2 hb; exact absurd h2 (by omega)
        | succ k_144 ih_144 =>
          intro k b h1 h2 hb
          refine M.iload dX12_client_144 rfl ?_
          refine M.aload_nR dX12_client_146 rfl ?_
          refine M.geti (v := nI (T 3).length) dX12_client_147 fl_X12_257 rfl rfl q_c.1 ?_
          refine M.icmp_ge (tgt := 200) dX12_client_150 (by decide) (fun c_150 => ?_) (fun c_150 => ?_)
          · skip
            have e1 := nI_gen c_150 h1 (by omega); subst e1
            skip
            exact cut_200 b (by rw [hb]; show (_ && nonB (T 3) ((B 0).take (idL (B 0))) (T 3).length) = _; rw [nonB_fnd])
          · skip
            have lt_k : k < (T 3).length := nI_ltn c_150 (by omega) (by omega)
            have hx := q_c.2.1 k lt_k
            refine M.iload dX12_client_153 rfl ?_
            refine M.if_eq (tgt := 191) dX12_client_155 (by decide) (fun c_155 => ?_) (fun c_155 => ?_)
            · skip
              refine M.iconst (v := 0) dX12_client_191 (by decide) ?_
              refine M.istore (L' := [some (.ref m), some (.int 0), some (.int x), some (.int (bI rf)), some (.int (nI (B 0).length)), some (.int (nI (idL (B 0)))), some (.int (-1)), some (.int 0), some (.int (nI k))]) dX12_client_192 (by decide) rfl rfl ?_
              refine M.iinc (v := nI (k + 1)) (L' := [some (.ref m), some (.int 0), some (.int x), some (.int (bI rf)), some (.int (nI (B 0).length)), some (.int (nI (idL (B 0)))), some (.int (-1)), some (.int 0), some (.int (nI (k + 1)))]) dX12_client_194 rfl (nI_1 k) (by decide) rfl rfl ?_
              refine M.goto (tgt := 144) dX12_client_197 (by decide) ?_
              exact ih_144 (k + 1) false (by omega) (by omega) (by rw [← alln_b (p := fun y => !decide (((B 0).take (idL (B 0))) = (T 3).getD y [])) hb]; first | rw [(bI_eq0 _).mp c_155, Bool.false_and] | rw [bt1 c_184, Bool.not_true, Bool.and_false])
            · skip
              refine M.aload_nR dX12_client_158 rfl ?_
              refine M.getr dX12_client_159 fl_X12_9 rfl rfl ?_
              refine M.iconst (v := 0) dX12_client_162 (by decide) ?_
              refine M.iload dX12_client_163 rfl ?_
              refine M.aload_nR dX12_client_165 rfl ?_
              refine M.getr dX12_client_166 fl_X12_23 rfl rfl ?_
              refine M.bipush (v := 20) dX12_client_169 (by decide) ?_
              refine M.iload dX12_client_171 rfl ?_
              refine M.imul dX12_client_173 ?_
              rw [show 20 * (nI k) = nI (20 * k) from nI_mulc 20 k]
              refine M.aload_nR dX12_client_174 rfl ?_
              refine M.getr dX12_client_175 fl_X12_26 rfl rfl ?_
              refine M.iload dX12_client_178 rfl ?_
              refine M.ialdv (k9 := 11) (j := k) (g := F 11) (v := nI ((T 3).getD k []).length) dX12_client_180 rfl rfl rfl rfl (show k < 8 by omega) hx.1 ?_
              refine M.callS [.ref (A 1), .int 0, .int (nI (idL (B 0))), .ref (A 10), .int (nI (20 * k)), .int (nI ((T 3).getD k []).length)] dX12_client_181 mdX12_isLike ssX12_isLike lk_X12_264 rfl rfl rfl rfl (m_likeT hA (kb := 10) rfl rfl (v := ((B 0).take (idL (B 0)))) (w := (T 3).getD k []) (tl_tk q_a.2.1 hmle) (by omega) (show 20 * k + ((T 3).getD k []).length ≤ 160 by omega) hx.2.2) ?_
              rintro _ I9 F9 ⟨rfl, e9, e8⟩
              have e9 := e9.symm; subst e9; have e8 := e8.symm; subst e8
              refine M.if_ne (tgt := 191) dX12_client_184 (by decide) (fun c_184 => ?_) (fun c_184 => ?_)
              · skip
                refine M.iconst (v := 0) dX12_client_191 (by decide) ?_
                refine M.istore (L' := [some (.ref m), some (.int 0), some (.int x), some (.int (bI rf)), some (.int (nI (B 0).length)), some (.int (nI (idL (B 0)))), some (.int (-1)), some (.int 0), some (.int (nI k))]) dX12_client_192 (by decide) rfl rfl ?_
                refine M.iinc (v := nI (k + 1)) (L' := [some (.ref m), some (.int 0), some (.int x), some (.int (bI rf)), some (.int (nI (B 0).length)), some (.int (nI (idL (B 0)))), some (.int (-1)), some (.int 0), some (.int (nI (k + 1)))]) dX12_client_194 rfl (nI_1 k) (by decide) rfl rfl ?_
                refine M.goto (tgt := 144) dX12_client_197 (by decide) ?_
                exact ih_144 (k + 1) false (by omega) (by omega) (by rw [← alln_b (p := fun y => !decide (((B 0).take (idL (B 0))) = (T 3).getD y [])) hb]; first | rw [(bI_eq0 _).mp c_155, Bool.false_and] | rw [bt1 c_184, Bool.not_true, Bool.and_false])
              · skip
                refine M.iconst (v := 1) dX12_client_187 (by decide) ?_
                refine M.goto (tgt := 192) dX12_client_188 (by decide) ?_
                refine M.istore (L' := [some (.ref m), some (.int 0), some (.int x), some (.int (bI rf)), some (.int (nI (B 0).length)), some (.int (nI (idL (B 0)))), some (.int (-1)), some (.int 1), some (.int (nI k))]) dX12_client_192 (by decide) rfl rfl ?_
                refine M.iinc (v := nI (k + 1)) (L' := [some (.ref m), some (.int 0), some (.int x), some (.int (bI rf)), some (.int (nI (B 0).length)), some (.int (nI (idL (B 0)))), some (.int (-1)), some (.int 1), some (.int (nI (k + 1)))]) dX12_client_194 rfl (nI_1 k) (by decide) rfl rfl ?_
                refine M.goto (tgt := 144) dX12_client_197 (by decide) ?_
                exact ih_144 (k + 1) true (by omega) (by omega) (by rw [← alln_b (p := fun y => !decide (((B 0).take (idL (B 0))) = (T 3).getD y [])) hb, bt1 c_155, (bI_eq0 _).mp c_184]; rfl)
      have cut_141 : ∀ (b : Bool), (b = (gdC (B 0) false && decide (0 ≤ x ∧ x < 1 <<< (nI (T 2).length &&& 31)))) → M Λ X mX12_client m A (mP (opClient N B T R false x rf)) (upd (upd I 0 0) 2 0) F 141 [some (.ref m), some (.int 0), some (.int x), some (.int (bI rf)), some (.int (nI (B 0).length)), some (.int (nI (idL (B 0)))), some (.int (-1)), some (.int (bI b)), none] [] := by
        intro b hb
        refine M.iconst (v := 0) dX12_client_141 (by decide) ?_
        refine M.istore (L' := [some (.ref m), some (.int 0), some (.int x), some (.int (bI rf)), some (.int (nI (B 0).length)), some (.int (nI (idL (B 0)))), some (.int (-1)), some (.int (bI b)), some (.int 0)]) dX12_client_142 (by decide) rfl rfl ?_
        exact cut_144 ((T 3).length + 1) 0 b (by omega) (by omega) (by rw [hb]; show _ = (_ && true); rw [Bool.and_true])
      have cut_115 : ∀ (b : Bool), (b = gdC (B 0) false) → M Λ X mX12_client m A (mP (opClient N B T R false x rf)) (upd (upd I 0 0) 2 0) F 115 [some (.ref m), some (.int 0), some (.int x), some (.int (bI rf)), some (.int (nI (B 0).length)), some (.int (nI (idL (B 0)))), some (.int (-1)), some (.int (bI b)), none] [] := by
        intro b hb
        refine M.iload dX12_client_115 rfl ?_
        refine M.if_eq (tgt := 138) dX12_client_117 (by decide) (fun c_117 => ?_) (fun c_117 => ?_)
        · skip
          refine M.iconst (v := 0) dX12_client_138 (by decide) ?_
          refine M.istore (L' := [some (.ref m), some (.int 0), some (.int x), some (.int (bI rf)), some (.int (nI (B 0).length)), some (.int (nI (idL (B 0)))), some (.int (-1)), some (.int 0), none]) dX12_client_139 (by decide) rfl rfl ?_
          exact cut_141 false (by rw [← hb]; first | rw [(bI_eq0 _).mp c_117, Bool.false_and] | rw [decide_eq_false (fun q => absurd q.1 (Int32.not_le.mpr c_121)), Bool.and_false] | rw [decide_eq_false (fun q => absurd q.2 (Int32.not_lt.mpr c_131)), Bool.and_false])
        · skip
          refine M.iload_n dX12_client_120 rfl ?_
          refine M.if_lt (tgt := 138) dX12_client_121 (by decide) (fun c_121 => ?_) (fun c_121 => ?_)
          · skip
            refine M.iconst (v := 0) dX12_client_138 (by decide) ?_
            refine M.istore (L' := [some (.ref m), some (.int 0), some (.int x), some (.int (bI rf)), some (.int (nI (B 0).length)), some (.int (nI (idL (B 0)))), some (.int (-1)), some (.int 0), none]) dX12_client_139 (by decide) rfl rfl ?_
            exact cut_141 false (by rw [← hb]; first | rw [(bI_eq0 _).mp c_117, Bool.false_and] | rw [decide_eq_false (fun q => absurd q.1 (Int32.not_le.mpr c_121)), Bool.and_false] | rw [decide_eq_false (fun q => absurd q.2 (Int32.not_lt.mpr c_131)), Bool.and_false])
          · skip
            refine M.iload_n dX12_client_124 rfl ?_
            refine M.iconst (v := 1) dX12_client_125 (by decide) ?_
            refine M.aload_nR dX12_client_126 rfl ?_
            refine M.geti (v := nI (T 2).length) dX12_client_127 fl_X12_268 rfl rfl q_w.1 ?_
            refine M.ishl dX12_client_130 ?_
            refine M.icmp_ge (tgt := 138) dX12_client_131 (by decide) (fun c_131 => ?_) (fun c_131 => ?_)
            · skip
              refine M.iconst (v := 0) dX12_client_138 (by decide) ?_
              refine M.istore (L' := [some (.ref m), some (.int 0), some (.int x), some (.int (bI rf)), some (.int (nI (B 0).length)), some (.int (nI (idL (B 0)))), some (.int (-1)), some (.int 0), none]) dX12_client_139 (by decide) rfl rfl ?_
              exact cut_141 false (by rw [← hb]; first | rw [(bI_eq0 _).mp c_117, Bool.false_and] | rw [decide_eq_false (fun q => absurd q.1 (Int32.not_le.mpr c_121)), Bool.and_false] | rw [decide_eq_false (fun q => absurd q.2 (Int32.not_lt.mpr c_131)), Bool.and_false])
            · skip
              refine M.iconst (v := 1) dX12_client_134 (by decide) ?_
              refine M.goto (tgt := 139) dX12_client_135 (by decide) ?_
              refine M.istore (L' := [some (.ref m), some (.int 0), some (.int x), some (.int (bI rf)), some (.int (nI (B 0).length)), some (.int (nI (idL (B 0)))), some (.int (-1)), some (.int 1), none]) dX12_client_139 (by decide) rfl rfl ?_
              exact cut_141 true (by rw [← hb, bt1 c_117, decide_eq_true ⟨Int32.not_lt.mp c_121, Int32.not_le.mp c_131⟩]; rfl)
      refine M.iload dX12_client_41 rfl ?_
      refine M.if_le (tgt := 112) dX12_client_43 (by decide) (fun c_43 => ?_) (fun c_43 => ?_)
      · skip
        refine M.iconst (v := 0) dX12_client_112 (by decide) ?_
        refine M.istore (L' := [some (.ref m), some (.int 0), some (.int x), some (.int (bI rf)), some (.int (nI (B 0).length)), some (.int (nI (idL (B 0)))), some (.int (-1)), some (.int 0), none]) dX12_client_113 (by decide) rfl rfl ?_
        exact cut_115 false (by rw [gdC]; first | rw [decide_eq_false (fun q => nI_nle q.1 (by omega) c_43), Bool.false_and, Bool.false_and] | rw [decide_eq_false (fun q => nI_ge (b := 21) q.2 (by omega) c_50), Bool.false_and, Bool.false_and] | rw [(bI_eq0 _).mp c_63, Bool.and_false, Bool.false_and] | rw [if_neg (by decide), decide_eq_false hmne, Bool.and_false])
      · skip
        refine M.iload dX12_client_46 rfl ?_
        refine M.bipush (v := 21) dX12_client_48 (by decide) ?_
        refine M.icmp_ge (tgt := 112) dX12_client_50 (by decide) (fun c_50 => ?_) (fun c_50 => ?_)
        · skip
          refine M.iconst (v := 0) dX12_client_112 (by decide) ?_
          refine M.istore (L' := [some (.ref m), some (.int 0), some (.int x), some (.int (bI rf)), some (.int (nI (B 0).length)), some (.int (nI (idL (B 0)))), some (.int (-1)), some (.int 0), none]) dX12_client_113 (by decide) rfl rfl ?_
          exact cut_115 false (by rw [gdC]; first | rw [decide_eq_false (fun q => nI_nle q.1 (by omega) c_43), Bool.false_and, Bool.false_and] | rw [decide_eq_false (fun q => nI_ge (b := 21) q.2 (by omega) c_50), Bool.false_and, Bool.false_and] | rw [(bI_eq0 _).mp c_63, Bool.and_false, Bool.false_and] | rw [if_neg (by decide), decide_eq_false hmne, Bool.and_false])
        · skip
          refine M.aload_nR dX12_client_53 rfl ?_
          refine M.getr dX12_client_54 fl_X12_9 rfl rfl ?_
          refine M.iconst (v := 0) dX12_client_57 (by decide) ?_
          refine M.iload dX12_client_58 rfl ?_
          refine M.callS [.ref (A 1), .int 0, .int (nI (idL (B 0)))] dX12_client_60 mdX12_isVisible ssX12_isVisible lk_X12_353 rfl rfl rfl rfl (m_visI hA (i := 0) (n := (idL (B 0))) (tl_tk q_a.2.1 hmle) (by omega)) ?_
          rintro _ I9 F9 ⟨rfl, e9, e8⟩
          have e9 := e9.symm; subst e9; have e8 := e8.symm; subst e8
          refine M.if_eq (tgt := 112) dX12_client_63 (by decide) (fun c_63 => ?_) (fun c_63 => ?_)
          · skip
            refine M.iconst (v := 0) dX12_client_112 (by decide) ?_
            refine M.istore (L' := [some (.ref m), some (.int 0), some (.int x), some (.int (bI rf)), some (.int (nI (B 0).length)), some (.int (nI (idL (B 0)))), some (.int (-1)), some (.int 0), none]) dX12_client_113 (by decide) rfl rfl ?_
            exact cut_115 false (by rw [gdC]; first | rw [decide_eq_false (fun q => nI_nle q.1 (by omega) c_43), Bool.false_and, Bool.false_and] | rw [decide_eq_false (fun q => nI_ge (b := 21) q.2 (by omega) c_50), Bool.false_and, Bool.false_and] | rw [(bI_eq0 _).mp c_63, Bool.and_false, Bool.false_and] | rw [if_neg (by decide), decide_eq_false hmne, Bool.and_false])
          · skip
            refine M.iload_n dX12_client_66 rfl ?_
            refine M.if_eq (tgt := 101) dX12_client_67 (by decide) (fun c_67 => ?_) (fun c_67 => absurd rfl c_67)
            refine M.iload dX12_client_101 rfl ?_
            refine M.iload dX12_client_103 rfl ?_
            refine M.icmp_ne (tgt := 112) dX12_client_105 (by decide) (fun c_105 => ?_) (fun c_105 => ?_)
            · skip
              have hmne : ¬ (idL (B 0)) = (B 0).length := fun q => c_105 ((nI_eq (by omega) (by omega)).mpr q)
              refine M.iconst (v := 0) dX12_client_112 (by decide) ?_
              refine M.istore (L' := [some (.ref m), some (.int 0), some (.int x), some (.int (bI rf)), some (.int (nI (B 0).length)), some (.int (nI (idL (B 0)))), some (.int (-1)), some (.int 0), none]) dX12_client_113 (by decide) rfl rfl ?_
              exact cut_115 false (by rw [gdC]; first | rw [decide_eq_false (fun q => nI_nle q.1 (by omega) c_43), Bool.false_and, Bool.false_and] | rw [decide_eq_false (fun q => nI_ge (b := 21) q.2 (by omega) c_50), Bool.false_and, Bool.false_and] | rw [(bI_eq0 _).mp c_63, Bool.and_false, Bool.false_and] | rw [if_neg (by decide), decide_eq_false hmne, Bool.and_false])
            · skip
              have hmeq : (idL (B 0)) = (B 0).length := (nI_eq (by omega) (by omega)).mp c_105
              refine M.iconst (v := 1) dX12_client_108 (by decide) ?_
              refine M.goto (tgt := 113) dX12_client_109 (by decide) ?_
              refine M.istore (L' := [some (.ref m), some (.int 0), some (.int x), some (.int (bI rf)), some (.int (nI (B 0).length)), some (.int (nI (idL (B 0)))), some (.int (-1)), some (.int 1), none]) dX12_client_113 (by decide) rfl rfl ?_
              exact cut_115 true (by rw [gdC, decide_eq_true (show 0 < (idL (B 0)) ∧ (idL (B 0)) < 21 from ⟨Nat.pos_of_ne_zero (fun q => c_43 (by rw [q]; decide)), nI_ltn (n := 21) c_50 (by omega) (by omega)⟩), bt1 c_63, if_neg (by decide), decide_eq_true hmeq]; rfl)
  have cut_9 : ∀ (k_9 : Nat) (k : Nat), (k ≤ (B 0).length) → ((B 0).length + 1 ≤ k + k_9) → ((idL (B 0)) = atI (gD (B 0)) 0 k (B 0).length) → M Λ X mX12_client m A (mP (opClient N B T R false x rf)) (upd (upd I 0 0) 2 0) F 9 [some (.ref m), some (.int 0), some (.int x), some (.int (bI rf)), some (.int (nI (B 0).length)), some (.int (nI k)), none, none, none] [] := by
    intro k_9
    induction k_9 with
    | zero => intro k h1 h2 hk; exact absurd h2 (by omega)
    | succ k_9 ih_9 =>
      intro k h1 h2 hk
      refine M.iload dX12_client_9 rfl ?_
      refine M.iload dX12_client_11 rfl ?_
      refine M.icmp_ge (tgt := 32) dX12_client_13 (by decide) (fun c_13 => ?_) (fun c_13 => ?_)
      · skip
        have e1 := nI_gen c_13 h1 (by omega); subst e1
        have hidk : (idL (B 0)) = (B 0).length := hk.trans (atI_end (Nat.le_refl _))
        skip
        have t9 := cut_32
        rw [hidk] at t9
        exact t9
      · skip
        have lt_k : k < (B 0).length := nI_ltn c_13 (by omega) (by omega)
        refine M.aload_nR dX12_client_16 rfl ?_
        refine M.getr dX12_client_17 fl_X12_9 rfl rfl ?_
        refine M.iload dX12_client_20 rfl ?_
        refine M.baldv (k9 := 1) (j := k) (g := F 1) (v := gD (B 0) k) dX12_client_22 rfl rfl rfl rfl (show k < 2000 by omega) (tl_at0 q_a.2.1 lt_k) ?_
        refine M.if_eq (tgt := 32) dX12_client_23 (by decide) (fun c_23 => ?_) (fun c_23 => ?_)
        · skip
          have hidk : (idL (B 0)) = k := hk.trans (atI_t lt_k c_23)
          have t9 := cut_32
          rw [hidk] at t9
          exact t9
        · skip
          refine M.iinc (v := nI (k + 1)) (L' := [some (.ref m), some (.int 0), some (.int x), some (.int (bI rf)), some (.int (nI (B 0).length)), some (.int (nI (k + 1))), none, none, none]) dX12_client_26 rfl (nI_1 k) (by decide) rfl rfl ?_
          refine M.goto (tgt := 9) dX12_client_29 (by decide) ?_
          exact ih_9 (k + 1) (by omega) (by omega) (hk.trans (atI_f lt_k c_23))
  refine M.iconst (v := 0) dX12_client_6 (by decide) ?_
  refine M.istore (L' := [some (.ref m), some (.int 0), some (.int x), some (.int (bI rf)), some (.int (nI (B 0).length)), some (.int 0), none, none, none]) dX12_client_7 (by decide) rfl rfl ?_
  exact cut_9 ((B 0).length + 1) 0 (by omega) (by omega) rfl

theorem p_client_1 {Λ : kL} {m : Nat} {A : Nat → Nat} {I : Nat → Int32} {F : Nat → Nat → Int32} (hA : mInj A) {N : Nat → Int32} {B : Nat → List Int32} {T R : Nat → List (List Int32)} (hR : mR I F N B T R) (hW : wf N B T R) (x : Int32) (rf : Bool) : mCt Λ mX12_client m A [.ref m, .int 1, .int x, .int (bI rf)] I F (mP (opClient N B T R true x rf)) := by
  refine mCt.of hA pn_X12 [some (.ref m), some (.int 1), some (.int x), some (.int (bI rf)), none, none, none, none, none] rfl (Nat.le_of_ble_eq_true rfl) fun X => ?_
  obtain ⟨q_a, q_b, q_n, q_w, q_c, q_r, q_x, q_q, q_k, q_f, q_t⟩ := hR
  obtain ⟨w_a, w_n, w_w, w_c, w_r, w_x, w_q, w_k, w_f, w_t, w_m⟩ := hW
  have hl := w_a.1
  have hc8 := w_c.1
  have hmle : (idL (B 0)) ≤ (B 0).length := (atI_ge (gD (B 0)) 0 (Nat.zero_le _)).2
  have hc20 : ∀ k, k < (T 3).length → ((T 3).getD k []).length ≤ 20 := fun k hk => (w_c.2.2.2.2.1 k hk).2.1
  refine M.aload_nR dX12_client_0 rfl ?_
  refine M.callV [] dX12_client_1 mdX12_used imX12_used seX12_used lk_X12_351 rfl rfl rfl rfl (m_used hA) ?_
  rintro _ I9 F9 ⟨rfl, e9, e8⟩
  have e9 := e9.symm; subst e9; have e8 := e8.symm; subst e8
  rw [q_a.1]
  refine M.istore (L' := [some (.ref m), some (.int 1), some (.int x), some (.int (bI rf)), some (.int (nI (B 0).length)), none, none, none, none]) dX12_client_4 (by decide) rfl rfl ?_
  have cut_32 : M Λ X mX12_client m A (mP (opClient N B T R true x rf)) (upd (upd I 0 0) 2 0) F 32 [some (.ref m), some (.int 1), some (.int x), some (.int (bI rf)), some (.int (nI (B 0).length)), some (.int (nI (idL (B 0)))), none, none, none] [] := by
    refine M.iload dX12_client_32 rfl ?_
    refine M.iload dX12_client_34 rfl ?_
    refine M.isub dX12_client_36 ?_
    refine M.iconst (v := 1) dX12_client_37 (by decide) ?_
    refine M.isub dX12_client_38 ?_
    by_cases hmn : (idL (B 0)) < (B 0).length
    · skip
      rw [nI_m1 hmn]
      refine M.istore (L' := [some (.ref m), some (.int 1), some (.int x), some (.int (bI rf)), some (.int (nI (B 0).length)), some (.int (nI (idL (B 0)))), some (.int (nI ((B 0).length - (idL (B 0)) - 1))), none, none]) dX12_client_39 (by decide) rfl rfl ?_
      have cut_200 : ∀ (b : Bool), (b = ((gdC (B 0) true && decide (0 ≤ x ∧ x < 1 <<< (nI (T 2).length &&& 31))) && decide (fnd (T 3) ((B 0).take (idL (B 0))) = (T 3).length))) → M Λ X mX12_client m A (mP (opClient N B T R true x rf)) (upd (upd I 0 0) 2 0) F 200 [some (.ref m), some (.int 1), some (.int x), some (.int (bI rf)), some (.int (nI (B 0).length)), some (.int (nI (idL (B 0)))), some (.int (nI ((B 0).length - (idL (B 0)) - 1))), some (.int (bI b)), some (.int (nI (T 3).length))] [] := by
        intro b hb
        refine M.aload_nR dX12_client_200 rfl ?_
        refine M.iload dX12_client_201 rfl ?_
        refine M.if_ne (tgt := 210) dX12_client_203 (by decide) (fun c_203 => ?_) (fun c_203 => ?_)
        · skip
          have hgd : ((gdC (B 0) true && decide (0 ≤ x ∧ x < 1 <<< (nI (T 2).length &&& 31))) && decide (fnd (T 3) ((B 0).take (idL (B 0))) = (T 3).length)) = true := by rw [← hb]; exact bt1 c_203
          have hgc : gdC (B 0) true = true := by have h9 := hgd; rw [Bool.and_eq_true, Bool.and_eq_true] at h9; exact h9.1.1
          have hg9 := hgc
          rw [gdC, Bool.and_eq_true, Bool.and_eq_true] at hg9
          have h21 := (of_decide_eq_true hg9.1.1).2
          refine M.iconst (v := 0) dX12_client_210 (by decide) ?_
          refine M.iconst (v := 1) dX12_client_211 (by decide) ?_
          refine M.callV [.int 0, .int 1] dX12_client_212 mdX12_throwsIf imX12_throwsIf seX12_throwsIf lk_X12_357 rfl rfl rfl rfl (m_throwsIf hA false 1) ?_
          rintro _ I9 F9 ⟨rfl, e9, e8⟩
          have e9 := e9.symm; subst e9; have e8 := e8.symm; subst e8
          refine M.if_ne (tgt := 240) dX12_client_215 (by decide) (fun c_215 => absurd c_215 (fun q => q rfl)) (fun c_215 => ?_)
          refine M.aload_nR dX12_client_218 rfl ?_
          refine M.aload_nR dX12_client_219 rfl ?_
          refine M.geti (v := nI (T 3).length) dX12_client_220 fl_X12_257 rfl rfl q_c.1 ?_
          refine M.bipush (v := 8) dX12_client_223 (by decide) ?_
          refine M.icmp_ne (tgt := 232) dX12_client_225 (by decide) (fun c_225 => ?_) (fun c_225 => ?_)
          · skip
            have n8 : ¬ (T 3).length = 8 := fun q => c_225 ((nI_eq (b := 8) (by omega) (by omega)).mpr q)
            refine M.iconst (v := 0) dX12_client_232 (by decide) ?_
            refine M.iconst (v := 2) dX12_client_233 (by decide) ?_
            refine M.callV [.int 0, .int 2] dX12_client_234 mdX12_throwsIf imX12_throwsIf seX12_throwsIf lk_X12_357 rfl rfl rfl rfl (m_throwsIf hA false 2) ?_
            rintro _ I9 F9 ⟨rfl, e9, e8⟩
            have e9 := e9.symm; subst e9; have e8 := e8.symm; subst e8
            refine M.if_eq (tgt := 242) dX12_client_237 (by decide) (fun c_237 => ?_) (fun c_237 => absurd rfl c_237)
            have h8 := hg9.2
            rw [if_pos rfl, Bool.and_eq_true] at h8
            have hs2 := of_decide_eq_true h8.1
            have hsl : ((B 0).drop ((idL (B 0)) + 1)).length = ((B 0).length - (idL (B 0)) - 1) := by rw [List.length_drop]; omega
            have hidl : ((B 0).take (idL (B 0))).length = (idL (B 0)) := by rw [List.length_take, Nat.min_eq_left hmle]
            refine M.iconst (v := 0) dX12_client_242 (by decide) ?_
            refine M.istore (L' := [some (.ref m), some (.int 1), some (.int x), some (.int (bI rf)), some (.int (nI (B 0).length)), some (.int (nI (idL (B 0)))), some (.int (nI ((B 0).length - (idL (B 0)) - 1))), some (.int (bI b)), some (.int 0)]) dX12_client_243 (by decide) rfl rfl ?_
            have cut_245 : ∀ (k_245 : Nat) (k : Nat), (k ≤ (idL (B 0))) → ((idL (B 0)) + 1 ≤ k + k_245) → M Λ X mX12_client m A (mP (opClient N B T R true x rf)) (upd (upd I 0 0) 2 0) (setF F 10 (updl (F 10) (20 * (T 3).length) (((B 0).take (idL (B 0))).take k))) 245 [some (.ref m), some (.int 1), some (.int x), some (.int (bI rf)), some (.int (nI (B 0).length)), some (.int (nI (idL (B 0)))), some (.int (nI ((B 0).length - (idL (B 0)) - 1))), some (.int (bI b)), some (.int (nI k))] [] := by
              intro k_245
              induction k_245 with
              | zero => intro k h1 h2; exact absurd h2 (by omega)
              | succ k_245 ih_245 =>
                intro k h1 h2
                have htl : (((B 0).take (idL (B 0))).take k).length = k := by rw [List.length_take, hidl, Nat.min_eq_left h1]
                refine M.iload dX12_client_245 rfl ?_
                refine M.iload dX12_client_247 rfl ?_
                refine M.icmp_ge (tgt := 280) dX12_client_249 (by decide) (fun c_249 => ?_) (fun c_249 => ?_)
                · skip
                  have e1 : k = (idL (B 0)) := nI_gen c_249 h1 (by omega)
                  subst e1
                  rw [List.take_of_length_le (i := (idL (B 0))) (l := ((B 0).take (idL (B 0)))) (by omega)]
                  refine M.aload_nR dX12_client_280 rfl ?_
                  refine M.getr dX12_client_281 fl_X12_26 rfl rfl ?_
                  refine M.aload_nR dX12_client_284 rfl ?_
                  refine M.geti (v := nI (T 3).length) dX12_client_285 fl_X12_257 rfl rfl q_c.1 ?_
                  refine M.iload dX12_client_288 rfl ?_
                  refine M.iast (k9 := 11) (j := (T 3).length) dX12_client_290 rfl rfl rfl (show (T 3).length < 8 by omega) ?_
                  refine M.iconst (v := 0) dX12_client_291 (by decide) ?_
                  refine M.istore (L' := [some (.ref m), some (.int 1), some (.int x), some (.int (bI rf)), some (.int (nI (B 0).length)), some (.int (nI (idL (B 0)))), some (.int (nI ((B 0).length - (idL (B 0)) - 1))), some (.int (bI b)), some (.int 0)]) dX12_client_292 (by decide) rfl rfl ?_
                  have cut_294 : ∀ (k_294 : Nat) (k : Nat), (k ≤ ((B 0).length - (idL (B 0)) - 1)) → (((B 0).length - (idL (B 0)) - 1) + 1 ≤ k + k_294) → M Λ X mX12_client m A (mP (opClient N B T R true x rf)) (upd (upd I 0 0) 2 0) (setF (updF (setF F 10 (updl (F 10) (20 * (T 3).length) ((B 0).take (idL (B 0))))) 11 (T 3).length (nI (idL (B 0)))) 12 (updl (F 12) (20 * (T 3).length) (((B 0).drop ((idL (B 0)) + 1)).take k))) 294 [some (.ref m), some (.int 1), some (.int x), some (.int (bI rf)), some (.int (nI (B 0).length)), some (.int (nI (idL (B 0)))), some (.int (nI ((B 0).length - (idL (B 0)) - 1))), some (.int (bI b)), some (.int (nI k))] [] := by
                    intro k_294
                    induction k_294 with
                    | zero => intro k h1 h2; exact absurd h2 (by omega)
                    | succ k_294 ih_294 =>
                      intro k h1 h2
                      have htl : (((B 0).drop ((idL (B 0)) + 1)).take k).length = k := by rw [List.length_take, hsl, Nat.min_eq_left h1]
                      refine M.iload dX12_client_294 rfl ?_
                      refine M.iload dX12_client_296 rfl ?_
                      refine M.icmp_ge (tgt := 338) dX12_client_298 (by decide) (fun c_298 => ?_) (fun c_298 => ?_)
                      · skip
                        have e1 : k = ((B 0).length - (idL (B 0)) - 1) := nI_gen c_298 h1 (by omega)
                        subst e1
                        rw [List.take_of_length_le (i := ((B 0).length - (idL (B 0)) - 1)) (l := ((B 0).drop ((idL (B 0)) + 1))) (by omega)]
                        refine M.aload_nR dX12_client_338 rfl ?_
                        refine M.getr dX12_client_339 fl_X12_32 rfl rfl ?_
                        refine M.aload_nR dX12_client_342 rfl ?_
                        refine M.geti (v := nI (T 3).length) dX12_client_343 fl_X12_257 rfl rfl q_c.1 ?_
                        refine M.iload_n dX12_client_346 rfl ?_
                        refine M.if_eq (tgt := 355) dX12_client_347 (by decide) (fun c_347 => absurd c_347 (by decide)) (fun c_347 => ?_)
                        refine M.iload dX12_client_350 rfl ?_
                        refine M.goto (tgt := 356) dX12_client_352 (by decide) ?_
                        refine M.iast (k9 := 13) (j := (T 3).length) dX12_client_356 rfl rfl rfl (show (T 3).length < 8 by omega) ?_
                        refine M.aload_nR dX12_client_357 rfl ?_
                        refine M.getr dX12_client_358 fl_X12_35 rfl rfl ?_
                        refine M.aload_nR dX12_client_361 rfl ?_
                        refine M.geti (v := nI (T 3).length) dX12_client_362 fl_X12_257 rfl rfl q_c.1 ?_
                        refine M.iload_n dX12_client_365 rfl ?_
                        refine M.zast1 (k9 := 14) (j := (T 3).length) dX12_client_366 rfl rfl rfl (show (T 3).length < 8 by omega) (by decide) ?_
                        refine M.aload_nR dX12_client_367 rfl ?_
                        refine M.getr dX12_client_368 fl_X12_39 rfl rfl ?_
                        refine M.aload_nR dX12_client_371 rfl ?_
                        refine M.geti (v := nI (T 3).length) dX12_client_372 fl_X12_257 rfl rfl q_c.1 ?_
                        refine M.iload_n dX12_client_375 rfl ?_
                        refine M.iast (k9 := 15) (j := (T 3).length) dX12_client_376 rfl rfl rfl (show (T 3).length < 8 by omega) ?_
                        refine M.aload_nR dX12_client_377 rfl ?_
                        refine M.getr dX12_client_378 fl_X12_42 rfl rfl ?_
                        refine M.aload_nR dX12_client_381 rfl ?_
                        refine M.geti (v := nI (T 3).length) dX12_client_382 fl_X12_257 rfl rfl q_c.1 ?_
                        refine M.iload_n dX12_client_385 rfl ?_
                        refine M.zast1 (k9 := 16) (j := (T 3).length) dX12_client_386 rfl rfl rfl (show (T 3).length < 8 by omega) (bI_bI _) ?_
                        refine M.aload_nR dX12_client_387 rfl ?_
                        refine M.dup dX12_client_388 rfl ?_
                        refine M.geti (v := nI (T 3).length) dX12_client_389 fl_X12_257 rfl rfl q_c.1 ?_
                        refine M.iconst (v := 1) dX12_client_392 (by decide) ?_
                        refine M.iadd dX12_client_393 ?_
                        rw [show (nI (T 3).length) + 1 = nI ((T 3).length + 1) from nI_1 _]
                        refine M.puti dX12_client_394 fp_X12_257 rfl rfl ?_
                        refine M.aload_nR dX12_client_397 rfl ?_
                        refine M.geti (v := nI ((T 3).length + 1)) dX12_client_398 fl_X12_257 rfl rfl rfl ?_
                        refine M.iconst (v := 1) dX12_client_401 (by decide) ?_
                        refine M.isub dX12_client_402 ?_
                        rw [show (nI ((T 3).length + 1)) - 1 = nI (T 3).length from nI_pred _]
                        refine M.iret dX12_client_403 rfl ?_
                        rw [opClient, if_neg (show ¬ ((gdC (B 0) true && decide (0 ≤ x ∧ x < 1 <<< (nI (T 2).length &&& 31))) && decide (fnd (T 3) ((B 0).take (idL (B 0))) = (T 3).length)) = false by rw [hgd]; decide), if_neg n8]
                        refine ⟨rfl, rfl, ⟨rfl, rfl, q_a.2.2⟩, q_b, q_n, q_w, ⟨?_, q_c.2.1.app (r := ((B 0).take (idL (B 0)))) (by omega) rfl (by rw [hidl]; rfl), q_c.2.2.1.app (r := ((B 0).drop ((idL (B 0)) + 1))) (by omega) (by rw [w_c.2.2.1]; rfl) (by rw [w_c.2.2.1, hsl]; rfl), q_c.2.2.2.1.app (x := 1) (by rw [w_c.2.2.2.1]; rfl) rfl, q_c.2.2.2.2.1.app (x := x) (by rw [w_c.2.2.2.1]; rfl) rfl, q_c.2.2.2.2.2.app (x := bI rf) (by rw [w_c.2.2.2.1]; rfl) rfl⟩, q_r, q_x, q_q, q_k, q_f, q_t⟩
                        show nI ((T 3).length + 1) = nI (T 3 ++ [((B 0).take (idL (B 0)))]).length
                        rw [List.length_append, List.length_singleton]
                      · skip
                        have lt_k : k < ((B 0).length - (idL (B 0)) - 1) := nI_ltn c_298 (by omega) (by omega)
                        have hidk : gD (B 0) ((idL (B 0)) + 1 + k) = ((B 0).drop ((idL (B 0)) + 1)).getD k 0 := by rw [gD, List.getD_eq_getElem?_getD, List.getD_eq_getElem?_getD, List.getElem?_drop]
                        refine M.iload_n dX12_client_301 rfl ?_
                        refine M.if_eq (tgt := 338) dX12_client_302 (by decide) (fun c_302 => absurd c_302 (by decide)) (fun c_302 => ?_)
                        refine M.aload_nR dX12_client_305 rfl ?_
                        refine M.getr dX12_client_306 fl_X12_29 rfl rfl ?_
                        refine M.bipush (v := 20) dX12_client_309 (by decide) ?_
                        refine M.aload_nR dX12_client_311 rfl ?_
                        refine M.geti (v := nI (T 3).length) dX12_client_312 fl_X12_257 rfl rfl q_c.1 ?_
                        refine M.imul dX12_client_315 ?_
                        rw [show 20 * (nI (T 3).length) = nI (20 * (T 3).length) from nI_mulc 20 ((T 3).length)]
                        refine M.iload dX12_client_316 rfl ?_
                        refine M.iadd dX12_client_318 ?_
                        rw [show (nI (20 * (T 3).length)) + (nI k) = nI (20 * (T 3).length + k) from nI_add (20 * (T 3).length) k]
                        refine M.aload_nR dX12_client_319 rfl ?_
                        refine M.getr dX12_client_320 fl_X12_9 rfl rfl ?_
                        refine M.iload dX12_client_323 rfl ?_
                        refine M.iconst (v := 1) dX12_client_325 (by decide) ?_
                        refine M.iadd dX12_client_326 ?_
                        rw [show (nI (idL (B 0))) + 1 = nI ((idL (B 0)) + 1) from nI_1 _]
                        refine M.iload dX12_client_327 rfl ?_
                        refine M.iadd dX12_client_329 ?_
                        rw [show (nI ((idL (B 0)) + 1)) + (nI k) = nI ((idL (B 0)) + 1 + k) from nI_add ((idL (B 0)) + 1) k]
                        refine M.baldv (k9 := 1) (j := (idL (B 0)) + 1 + k) (g := F 1) (v := ((B 0).drop ((idL (B 0)) + 1)).getD k 0) dX12_client_330 rfl rfl rfl rfl (show (idL (B 0)) + 1 + k < 2000 by omega) ((tl_at0 q_a.2.1 (by omega)).trans hidk) ?_
                        refine M.bast1 (k9 := 12) (j := 20 * (T 3).length + (((B 0).drop ((idL (B 0)) + 1)).take k).length) dX12_client_331 rfl rfl (by rw [htl]) (show 20 * (T 3).length + (((B 0).drop ((idL (B 0)) + 1)).take k).length < 160 by rw [htl]; omega) (bts_at (bts_drop _ w_a.2.1) (by omega)) ?_
                        rw [updF_set, updl_snoc, ← take_at (by omega)]
                        refine M.iinc (v := nI (k + 1)) (L' := [some (.ref m), some (.int 1), some (.int x), some (.int (bI rf)), some (.int (nI (B 0).length)), some (.int (nI (idL (B 0)))), some (.int (nI ((B 0).length - (idL (B 0)) - 1))), some (.int (bI b)), some (.int (nI (k + 1)))]) dX12_client_332 rfl (nI_1 k) (by decide) rfl rfl ?_
                        refine M.goto (tgt := 294) dX12_client_335 (by decide) ?_
                        exact ih_294 (k + 1) (by omega) (by omega)
                  have t9 := cut_294 (((B 0).length - (idL (B 0)) - 1) + 1) 0 (by omega) (by omega)
                  rw [List.take_zero, updl_nil, show setF (updF (setF F 10 (updl (F 10) (20 * (T 3).length) ((B 0).take (idL (B 0))))) 11 (T 3).length (nI (idL (B 0)))) 12 (F 12) = (updF (setF F 10 (updl (F 10) (20 * (T 3).length) ((B 0).take (idL (B 0))))) 11 (T 3).length (nI (idL (B 0)))) from setF_self (updF (setF F 10 (updl (F 10) (20 * (T 3).length) ((B 0).take (idL (B 0))))) 11 (T 3).length (nI (idL (B 0)))) 12] at t9
                  exact t9
                · skip
                  have lt_k : k < (idL (B 0)) := nI_ltn c_249 (by omega) (by omega)
                  have hidk : gD (B 0) k = ((B 0).take (idL (B 0))).getD k 0 := by rw [gD, List.getD_eq_getElem?_getD, List.getD_eq_getElem?_getD, List.getElem?_take_of_lt lt_k]
                  refine M.aload_nR dX12_client_252 rfl ?_
                  refine M.getr dX12_client_253 fl_X12_23 rfl rfl ?_
                  refine M.bipush (v := 20) dX12_client_256 (by decide) ?_
                  refine M.aload_nR dX12_client_258 rfl ?_
                  refine M.geti (v := nI (T 3).length) dX12_client_259 fl_X12_257 rfl rfl q_c.1 ?_
                  refine M.imul dX12_client_262 ?_
                  rw [show 20 * (nI (T 3).length) = nI (20 * (T 3).length) from nI_mulc 20 ((T 3).length)]
                  refine M.iload dX12_client_263 rfl ?_
                  refine M.iadd dX12_client_265 ?_
                  rw [show (nI (20 * (T 3).length)) + (nI k) = nI (20 * (T 3).length + k) from nI_add (20 * (T 3).length) k]
                  refine M.aload_nR dX12_client_266 rfl ?_
                  refine M.getr dX12_client_267 fl_X12_9 rfl rfl ?_
                  refine M.iload dX12_client_270 rfl ?_
                  refine M.baldv (k9 := 1) (j := k) (g := F 1) (v := ((B 0).take (idL (B 0))).getD k 0) dX12_client_272 rfl rfl rfl rfl (show k < 2000 by omega) ((tl_at0 q_a.2.1 (by omega)).trans hidk) ?_
                  refine M.bast1 (k9 := 10) (j := 20 * (T 3).length + (((B 0).take (idL (B 0))).take k).length) dX12_client_273 rfl rfl (by rw [htl]) (show 20 * (T 3).length + (((B 0).take (idL (B 0))).take k).length < 160 by rw [htl]; omega) (bts_at (bts_take _ w_a.2.1) (by omega)) ?_
                  rw [updF_set, updl_snoc, ← take_at (by omega)]
                  refine M.iinc (v := nI (k + 1)) (L' := [some (.ref m), some (.int 1), some (.int x), some (.int (bI rf)), some (.int (nI (B 0).length)), some (.int (nI (idL (B 0)))), some (.int (nI ((B 0).length - (idL (B 0)) - 1))), some (.int (bI b)), some (.int (nI (k + 1)))]) dX12_client_274 rfl (nI_1 k) (by decide) rfl rfl ?_
                  refine M.goto (tgt := 245) dX12_client_277 (by decide) ?_
                  exact ih_245 (k + 1) (by omega) (by omega)
            have t9 := cut_245 ((idL (B 0)) + 1) 0 (by omega) (by omega)
            rw [List.take_zero, updl_nil, setF_self] at t9
            exact t9
          · skip
            have et8 : (T 3).length = 8 := (nI_eq (b := 8) (by omega) (by omega)).mp c_225
            refine M.iconst (v := 1) dX12_client_228 (by decide) ?_
            refine M.goto (tgt := 233) dX12_client_229 (by decide) ?_
            refine M.iconst (v := 2) dX12_client_233 (by decide) ?_
            refine M.callV [.int 1, .int 2] dX12_client_234 mdX12_throwsIf imX12_throwsIf seX12_throwsIf lk_X12_357 rfl rfl rfl rfl (m_throwsIf hA true 2) ?_
            rintro _ I9 F9 ⟨rfl, e9, e8⟩
            have e9 := e9.symm; subst e9; have e8 := e8.symm; subst e8
            refine M.if_eq (tgt := 242) dX12_client_237 (by decide) (fun c_237 => absurd c_237 (by decide)) (fun c_237 => ?_)
            refine M.iconst (v := 0) dX12_client_240 (by decide) ?_
            refine M.iret dX12_client_241 rfl ?_
            first
              | (rw [opClient, if_pos (show ((gdC (B 0) true && decide (0 ≤ x ∧ x < 1 <<< (nI (T 2).length &&& 31))) && decide (fnd (T 3) ((B 0).take (idL (B 0))) = (T 3).length)) = false by rw [← hb]; exact (bI_eq0 _).mp c_203)]; exact ⟨rfl, rfl, ⟨rfl, rfl, q_a.2.2⟩, q_b, q_n, q_w, q_c, q_r, q_x, q_q, q_k, q_f, q_t⟩)
              | (rw [opClient, if_neg (show ¬ ((gdC (B 0) true && decide (0 ≤ x ∧ x < 1 <<< (nI (T 2).length &&& 31))) && decide (fnd (T 3) ((B 0).take (idL (B 0))) = (T 3).length)) = false by rw [hgd]; decide), if_pos et8]; exact ⟨rfl, rfl, ⟨rfl, rfl, q_a.2.2⟩, q_b, q_n, q_w, q_c, q_r, q_x, q_q, q_k, q_f, q_t⟩)
        · skip
          refine M.iconst (v := 1) dX12_client_206 (by decide) ?_
          refine M.goto (tgt := 211) dX12_client_207 (by decide) ?_
          refine M.iconst (v := 1) dX12_client_211 (by decide) ?_
          refine M.callV [.int 1, .int 1] dX12_client_212 mdX12_throwsIf imX12_throwsIf seX12_throwsIf lk_X12_357 rfl rfl rfl rfl (m_throwsIf hA true 1) ?_
          rintro _ I9 F9 ⟨rfl, e9, e8⟩
          have e9 := e9.symm; subst e9; have e8 := e8.symm; subst e8
          refine M.if_ne (tgt := 240) dX12_client_215 (by decide) (fun c_215 => ?_) (fun c_215 => absurd c_215 (by decide))
          refine M.iconst (v := 0) dX12_client_240 (by decide) ?_
          refine M.iret dX12_client_241 rfl ?_
          first
            | (rw [opClient, if_pos (show ((gdC (B 0) true && decide (0 ≤ x ∧ x < 1 <<< (nI (T 2).length &&& 31))) && decide (fnd (T 3) ((B 0).take (idL (B 0))) = (T 3).length)) = false by rw [← hb]; exact (bI_eq0 _).mp c_203)]; exact ⟨rfl, rfl, ⟨rfl, rfl, q_a.2.2⟩, q_b, q_n, q_w, q_c, q_r, q_x, q_q, q_k, q_f, q_t⟩)
            | (rw [opClient, if_neg (show ¬ ((gdC (B 0) true && decide (0 ≤ x ∧ x < 1 <<< (nI (T 2).length &&& 31))) && decide (fnd (T 3) ((B 0).take (idL (B 0))) = (T 3).length)) = false by rw [hgd]; decide), if_pos et8]; exact ⟨rfl, rfl, ⟨rfl, rfl, q_a.2.2⟩, q_b, q_n, q_w, q_c, q_r, q_x, q_q, q_k, q_f, q_t⟩)
      have cut_144 : ∀ (k_144 : Nat) (k : Nat) (b : Bool), (k ≤ (T 3).length) → ((T 3).length + 1 ≤ k + k_144) → (b = ((gdC (B 0) true && decide (0 ≤ x ∧ x < 1 <<< (nI (T 2).length &&& 31))) && alln (fun y => !decide (((B 0).take (idL (B 0))) = (T 3).getD y [])) k)) → M Λ X mX12_client m A (mP (opClient N B T R true x rf)) (upd (upd I 0 0) 2 0) F 144 [some (.ref m), some (.int 1), some (.int x), some (.int (bI rf)), some (.int (nI (B 0).length)), some (.int (nI (idL (B 0)))), some (.int (nI ((B 0).length - (idL (B 0)) - 1))), some (.int (bI b)), some (.int (nI k))] [] := by
        intro k_144
        induction k_144 with
        | zero => intro k b h1 h2 hb; exact absurd h2 (by omega)
        | succ k_144 ih_144 =>
          intro k b h1 h2 hb
          refine M.iload dX12_client_144 rfl ?_
          refine M.aload_nR dX12_client_146 rfl ?_
          refine M.geti (v := nI (T 3).length) dX12_client_147 fl_X12_257 rfl rfl q_c.1 ?_
          refine M.icmp_ge (tgt := 200) dX12_client_150 (by decide) (fun c_150 => ?_) (fun c_150 => ?_)
          · skip
            have e1 := nI_gen c_150 h1 (by omega); subst e1
            skip
            exact cut_200 b (by rw [hb]; show (_ && nonB (T 3) ((B 0).take (idL (B 0))) (T 3).length) = _; rw [nonB_fnd])
          · skip
            have lt_k : k < (T 3).length := nI_ltn c_150 (by omega) (by omega)
            have hx := q_c.2.1 k lt_k
            refine M.iload dX12_client_153 rfl ?_
            refine M.if_eq (tgt := 191) dX12_client_155 (by decide) (fun c_155 => ?_) (fun c_155 => ?_)
            · skip
              refine M.iconst (v := 0) dX12_client_191 (by decide) ?_
              refine M.istore (L' := [some (.ref m), some (.int 1), some (.int x), some (.int (bI rf)), some (.int (nI (B 0).length)), some (.int (nI (idL (B 0)))), some (.int (nI ((B 0).length - (idL (B 0)) - 1))), some (.int 0), some (.int (nI k))]) dX12_client_192 (by decide) rfl rfl ?_
              refine M.iinc (v := nI (k + 1)) (L' := [some (.ref m), some (.int 1), some (.int x), some (.int (bI rf)), some (.int (nI (B 0).length)), some (.int (nI (idL (B 0)))), some (.int (nI ((B 0).length - (idL (B 0)) - 1))), some (.int 0), some (.int (nI (k + 1)))]) dX12_client_194 rfl (nI_1 k) (by decide) rfl rfl ?_
              refine M.goto (tgt := 144) dX12_client_197 (by decide) ?_
              exact ih_144 (k + 1) false (by omega) (by omega) (by rw [← alln_b (p := fun y => !decide (((B 0).take (idL (B 0))) = (T 3).getD y [])) hb]; first | rw [(bI_eq0 _).mp c_155, Bool.false_and] | rw [bt1 c_184, Bool.not_true, Bool.and_false])
            · skip
              refine M.aload_nR dX12_client_158 rfl ?_
              refine M.getr dX12_client_159 fl_X12_9 rfl rfl ?_
              refine M.iconst (v := 0) dX12_client_162 (by decide) ?_
              refine M.iload dX12_client_163 rfl ?_
              refine M.aload_nR dX12_client_165 rfl ?_
              refine M.getr dX12_client_166 fl_X12_23 rfl rfl ?_
              refine M.bipush (v := 20) dX12_client_169 (by decide) ?_
              refine M.iload dX12_client_171 rfl ?_
              refine M.imul dX12_client_173 ?_
              rw [show 20 * (nI k) = nI (20 * k) from nI_mulc 20 k]
              refine M.aload_nR dX12_client_174 rfl ?_
              refine M.getr dX12_client_175 fl_X12_26 rfl rfl ?_
              refine M.iload dX12_client_178 rfl ?_
              refine M.ialdv (k9 := 11) (j := k) (g := F 11) (v := nI ((T 3).getD k []).length) dX12_client_180 rfl rfl rfl rfl (show k < 8 by omega) hx.1 ?_
              refine M.callS [.ref (A 1), .int 0, .int (nI (idL (B 0))), .ref (A 10), .int (nI (20 * k)), .int (nI ((T 3).getD k []).length)] dX12_client_181 mdX12_isLike ssX12_isLike lk_X12_264 rfl rfl rfl rfl (m_likeT hA (kb := 10) rfl rfl (v := ((B 0).take (idL (B 0)))) (w := (T 3).getD k []) (tl_tk q_a.2.1 hmle) (by omega) (show 20 * k + ((T 3).getD k []).length ≤ 160 by omega) hx.2.2) ?_
              rintro _ I9 F9 ⟨rfl, e9, e8⟩
              have e9 := e9.symm; subst e9; have e8 := e8.symm; subst e8
              refine M.if_ne (tgt := 191) dX12_client_184 (by decide) (fun c_184 => ?_) (fun c_184 => ?_)
              · skip
                refine M.iconst (v := 0) dX12_client_191 (by decide) ?_
                refine M.istore (L' := [some (.ref m), some (.int 1), some (.int x), some (.int (bI rf)), some (.int (nI (B 0).length)), some (.int (nI (idL (B 0)))), some (.int (nI ((B 0).length - (idL (B 0)) - 1))), some (.int 0), some (.int (nI k))]) dX12_client_192 (by decide) rfl rfl ?_
                refine M.iinc (v := nI (k + 1)) (L' := [some (.ref m), some (.int 1), some (.int x), some (.int (bI rf)), some (.int (nI (B 0).length)), some (.int (nI (idL (B 0)))), some (.int (nI ((B 0).length - (idL (B 0)) - 1))), some (.int 0), some (.int (nI (k + 1)))]) dX12_client_194 rfl (nI_1 k) (by decide) rfl rfl ?_
                refine M.goto (tgt := 144) dX12_client_197 (by decide) ?_
                exact ih_144 (k + 1) false (by omega) (by omega) (by rw [← alln_b (p := fun y => !decide (((B 0).take (idL (B 0))) = (T 3).getD y [])) hb]; first | rw [(bI_eq0 _).mp c_155, Bool.false_and] | rw [bt1 c_184, Bool.not_true, Bool.and_false])
              · skip
                refine M.iconst (v := 1) dX12_client_187 (by decide) ?_
                refine M.goto (tgt := 192) dX12_client_188 (by decide) ?_
                refine M.istore (L' := [some (.ref m), some (.int 1), some (.int x), some (.int (bI rf)), some (.int (nI (B 0).length)), some (.int (nI (idL (B 0)))), some (.int (nI ((B 0).length - (idL (B 0)) - 1))), some (.int 1), some (.int (nI k))]) dX12_client_192 (by decide) rfl rfl ?_
                refine M.iinc (v := nI (k + 1)) (L' := [some (.ref m), some (.int 1), some (.int x), some (.int (bI rf)), some (.int (nI (B 0).length)), some (.int (nI (idL (B 0)))), some (.int (nI ((B 0).length - (idL (B 0)) - 1))), some (.int 1), some (.int (nI (k + 1)))]) dX12_client_194 rfl (nI_1 k) (by decide) rfl rfl ?_
                refine M.goto (tgt := 144) dX12_client_197 (by decide) ?_
                exact ih_144 (k + 1) true (by omega) (by omega) (by rw [← alln_b (p := fun y => !decide (((B 0).take (idL (B 0))) = (T 3).getD y [])) hb, bt1 c_155, (bI_eq0 _).mp c_184]; rfl)
      have cut_141 : ∀ (b : Bool), (b = (gdC (B 0) true && decide (0 ≤ x ∧ x < 1 <<< (nI (T 2).length &&& 31)))) → M Λ X mX12_client m A (mP (opClient N B T R true x rf)) (upd (upd I 0 0) 2 0) F 141 [some (.ref m), some (.int 1), some (.int x), some (.int (bI rf)), some (.int (nI (B 0).length)), some (.int (nI (idL (B 0)))), some (.int (nI ((B 0).length - (idL (B 0)) - 1))), some (.int (bI b)), none] [] := by
        intro b hb
        refine M.iconst (v := 0) dX12_client_141 (by decide) ?_
        refine M.istore (L' := [some (.ref m), some (.int 1), some (.int x), some (.int (bI rf)), some (.int (nI (B 0).length)), some (.int (nI (idL (B 0)))), some (.int (nI ((B 0).length - (idL (B 0)) - 1))), some (.int (bI b)), some (.int 0)]) dX12_client_142 (by decide) rfl rfl ?_
        exact cut_144 ((T 3).length + 1) 0 b (by omega) (by omega) (by rw [hb]; show _ = (_ && true); rw [Bool.and_true])
      have cut_115 : ∀ (b : Bool), (b = gdC (B 0) true) → M Λ X mX12_client m A (mP (opClient N B T R true x rf)) (upd (upd I 0 0) 2 0) F 115 [some (.ref m), some (.int 1), some (.int x), some (.int (bI rf)), some (.int (nI (B 0).length)), some (.int (nI (idL (B 0)))), some (.int (nI ((B 0).length - (idL (B 0)) - 1))), some (.int (bI b)), none] [] := by
        intro b hb
        refine M.iload dX12_client_115 rfl ?_
        refine M.if_eq (tgt := 138) dX12_client_117 (by decide) (fun c_117 => ?_) (fun c_117 => ?_)
        · skip
          refine M.iconst (v := 0) dX12_client_138 (by decide) ?_
          refine M.istore (L' := [some (.ref m), some (.int 1), some (.int x), some (.int (bI rf)), some (.int (nI (B 0).length)), some (.int (nI (idL (B 0)))), some (.int (nI ((B 0).length - (idL (B 0)) - 1))), some (.int 0), none]) dX12_client_139 (by decide) rfl rfl ?_
          exact cut_141 false (by rw [← hb]; first | rw [(bI_eq0 _).mp c_117, Bool.false_and] | rw [decide_eq_false (fun q => absurd q.1 (Int32.not_le.mpr c_121)), Bool.and_false] | rw [decide_eq_false (fun q => absurd q.2 (Int32.not_lt.mpr c_131)), Bool.and_false])
        · skip
          refine M.iload_n dX12_client_120 rfl ?_
          refine M.if_lt (tgt := 138) dX12_client_121 (by decide) (fun c_121 => ?_) (fun c_121 => ?_)
          · skip
            refine M.iconst (v := 0) dX12_client_138 (by decide) ?_
            refine M.istore (L' := [some (.ref m), some (.int 1), some (.int x), some (.int (bI rf)), some (.int (nI (B 0).length)), some (.int (nI (idL (B 0)))), some (.int (nI ((B 0).length - (idL (B 0)) - 1))), some (.int 0), none]) dX12_client_139 (by decide) rfl rfl ?_
            exact cut_141 false (by rw [← hb]; first | rw [(bI_eq0 _).mp c_117, Bool.false_and] | rw [decide_eq_false (fun q => absurd q.1 (Int32.not_le.mpr c_121)), Bool.and_false] | rw [decide_eq_false (fun q => absurd q.2 (Int32.not_lt.mpr c_131)), Bool.and_false])
          · skip
            refine M.iload_n dX12_client_124 rfl ?_
            refine M.iconst (v := 1) dX12_client_125 (by decide) ?_
            refine M.aload_nR dX12_client_126 rfl ?_
            refine M.geti (v := nI (T 2).length) dX12_client_127 fl_X12_268 rfl rfl q_w.1 ?_
            refine M.ishl dX12_client_130 ?_
            refine M.icmp_ge (tgt := 138) dX12_client_131 (by decide) (fun c_131 => ?_) (fun c_131 => ?_)
            · skip
              refine M.iconst (v := 0) dX12_client_138 (by decide) ?_
              refine M.istore (L' := [some (.ref m), some (.int 1), some (.int x), some (.int (bI rf)), some (.int (nI (B 0).length)), some (.int (nI (idL (B 0)))), some (.int (nI ((B 0).length - (idL (B 0)) - 1))), some (.int 0), none]) dX12_client_139 (by decide) rfl rfl ?_
              exact cut_141 false (by rw [← hb]; first | rw [(bI_eq0 _).mp c_117, Bool.false_and] | rw [decide_eq_false (fun q => absurd q.1 (Int32.not_le.mpr c_121)), Bool.and_false] | rw [decide_eq_false (fun q => absurd q.2 (Int32.not_lt.mpr c_131)), Bool.and_false])
            · skip
              refine M.iconst (v := 1) dX12_client_134 (by decide) ?_
              refine M.goto (tgt := 139) dX12_client_135 (by decide) ?_
              refine M.istore (L' := [some (.ref m), some (.int 1), some (.int x), some (.int (bI rf)), some (.int (nI (B 0).length)), some (.int (nI (idL (B 0)))), some (.int (nI ((B 0).length - (idL (B 0)) - 1))), some (.int 1), none]) dX12_client_139 (by decide) rfl rfl ?_
              exact cut_141 true (by rw [← hb, bt1 c_117, decide_eq_true ⟨Int32.not_lt.mp c_121, Int32.not_le.mp c_131⟩]; rfl)
      refine M.iload dX12_client_41 rfl ?_
      refine M.if_le (tgt := 112) dX12_client_43 (by decide) (fun c_43 => ?_) (fun c_43 => ?_)
      · skip
        refine M.iconst (v := 0) dX12_client_112 (by decide) ?_
        refine M.istore (L' := [some (.ref m), some (.int 1), some (.int x), some (.int (bI rf)), some (.int (nI (B 0).length)), some (.int (nI (idL (B 0)))), some (.int (nI ((B 0).length - (idL (B 0)) - 1))), some (.int 0), none]) dX12_client_113 (by decide) rfl rfl ?_
        exact cut_115 false (by rw [gdC]; first | rw [decide_eq_false (fun q => nI_nle q.1 (by omega) c_43), Bool.false_and, Bool.false_and] | rw [decide_eq_false (fun q => nI_ge (b := 21) q.2 (by omega) c_50), Bool.false_and, Bool.false_and] | rw [(bI_eq0 _).mp c_63, Bool.and_false, Bool.false_and] | rw [if_pos rfl, decide_eq_false (show ¬ ((idL (B 0)) + 1 < (B 0).length ∧ (B 0).length < (idL (B 0)) + 22) from fun q => hsn q.1), Bool.false_and, Bool.and_false] | rw [if_pos rfl, decide_eq_false (show ¬ ((idL (B 0)) + 1 < (B 0).length ∧ (B 0).length < (idL (B 0)) + 22) from fun q => hsn q.2), Bool.false_and, Bool.and_false] | rw [if_pos rfl, (bI_eq0 _).mp c_95, Bool.and_false, Bool.and_false])
      · skip
        refine M.iload dX12_client_46 rfl ?_
        refine M.bipush (v := 21) dX12_client_48 (by decide) ?_
        refine M.icmp_ge (tgt := 112) dX12_client_50 (by decide) (fun c_50 => ?_) (fun c_50 => ?_)
        · skip
          refine M.iconst (v := 0) dX12_client_112 (by decide) ?_
          refine M.istore (L' := [some (.ref m), some (.int 1), some (.int x), some (.int (bI rf)), some (.int (nI (B 0).length)), some (.int (nI (idL (B 0)))), some (.int (nI ((B 0).length - (idL (B 0)) - 1))), some (.int 0), none]) dX12_client_113 (by decide) rfl rfl ?_
          exact cut_115 false (by rw [gdC]; first | rw [decide_eq_false (fun q => nI_nle q.1 (by omega) c_43), Bool.false_and, Bool.false_and] | rw [decide_eq_false (fun q => nI_ge (b := 21) q.2 (by omega) c_50), Bool.false_and, Bool.false_and] | rw [(bI_eq0 _).mp c_63, Bool.and_false, Bool.false_and] | rw [if_pos rfl, decide_eq_false (show ¬ ((idL (B 0)) + 1 < (B 0).length ∧ (B 0).length < (idL (B 0)) + 22) from fun q => hsn q.1), Bool.false_and, Bool.and_false] | rw [if_pos rfl, decide_eq_false (show ¬ ((idL (B 0)) + 1 < (B 0).length ∧ (B 0).length < (idL (B 0)) + 22) from fun q => hsn q.2), Bool.false_and, Bool.and_false] | rw [if_pos rfl, (bI_eq0 _).mp c_95, Bool.and_false, Bool.and_false])
        · skip
          refine M.aload_nR dX12_client_53 rfl ?_
          refine M.getr dX12_client_54 fl_X12_9 rfl rfl ?_
          refine M.iconst (v := 0) dX12_client_57 (by decide) ?_
          refine M.iload dX12_client_58 rfl ?_
          refine M.callS [.ref (A 1), .int 0, .int (nI (idL (B 0)))] dX12_client_60 mdX12_isVisible ssX12_isVisible lk_X12_353 rfl rfl rfl rfl (m_visI hA (i := 0) (n := (idL (B 0))) (tl_tk q_a.2.1 hmle) (by omega)) ?_
          rintro _ I9 F9 ⟨rfl, e9, e8⟩
          have e9 := e9.symm; subst e9; have e8 := e8.symm; subst e8
          refine M.if_eq (tgt := 112) dX12_client_63 (by decide) (fun c_63 => ?_) (fun c_63 => ?_)
          · skip
            refine M.iconst (v := 0) dX12_client_112 (by decide) ?_
            refine M.istore (L' := [some (.ref m), some (.int 1), some (.int x), some (.int (bI rf)), some (.int (nI (B 0).length)), some (.int (nI (idL (B 0)))), some (.int (nI ((B 0).length - (idL (B 0)) - 1))), some (.int 0), none]) dX12_client_113 (by decide) rfl rfl ?_
            exact cut_115 false (by rw [gdC]; first | rw [decide_eq_false (fun q => nI_nle q.1 (by omega) c_43), Bool.false_and, Bool.false_and] | rw [decide_eq_false (fun q => nI_ge (b := 21) q.2 (by omega) c_50), Bool.false_and, Bool.false_and] | rw [(bI_eq0 _).mp c_63, Bool.and_false, Bool.false_and] | rw [if_pos rfl, decide_eq_false (show ¬ ((idL (B 0)) + 1 < (B 0).length ∧ (B 0).length < (idL (B 0)) + 22) from fun q => hsn q.1), Bool.false_and, Bool.and_false] | rw [if_pos rfl, decide_eq_false (show ¬ ((idL (B 0)) + 1 < (B 0).length ∧ (B 0).length < (idL (B 0)) + 22) from fun q => hsn q.2), Bool.false_and, Bool.and_false] | rw [if_pos rfl, (bI_eq0 _).mp c_95, Bool.and_false, Bool.and_false])
          · skip
            refine M.iload_n dX12_client_66 rfl ?_
            refine M.if_eq (tgt := 101) dX12_client_67 (by decide) (fun c_67 => absurd c_67 (by decide)) (fun c_67 => ?_)
            refine M.iload dX12_client_70 rfl ?_
            refine M.if_le (tgt := 112) dX12_client_72 (by decide) (fun c_72 => ?_) (fun c_72 => ?_)
            · skip
              have hsn : ¬ (idL (B 0)) + 1 < (B 0).length := fun q => nI_nle (n := ((B 0).length - (idL (B 0)) - 1)) (by omega) (by omega) c_72
              refine M.iconst (v := 0) dX12_client_112 (by decide) ?_
              refine M.istore (L' := [some (.ref m), some (.int 1), some (.int x), some (.int (bI rf)), some (.int (nI (B 0).length)), some (.int (nI (idL (B 0)))), some (.int (nI ((B 0).length - (idL (B 0)) - 1))), some (.int 0), none]) dX12_client_113 (by decide) rfl rfl ?_
              exact cut_115 false (by rw [gdC]; first | rw [decide_eq_false (fun q => nI_nle q.1 (by omega) c_43), Bool.false_and, Bool.false_and] | rw [decide_eq_false (fun q => nI_ge (b := 21) q.2 (by omega) c_50), Bool.false_and, Bool.false_and] | rw [(bI_eq0 _).mp c_63, Bool.and_false, Bool.false_and] | rw [if_pos rfl, decide_eq_false (show ¬ ((idL (B 0)) + 1 < (B 0).length ∧ (B 0).length < (idL (B 0)) + 22) from fun q => hsn q.1), Bool.false_and, Bool.and_false] | rw [if_pos rfl, decide_eq_false (show ¬ ((idL (B 0)) + 1 < (B 0).length ∧ (B 0).length < (idL (B 0)) + 22) from fun q => hsn q.2), Bool.false_and, Bool.and_false] | rw [if_pos rfl, (bI_eq0 _).mp c_95, Bool.and_false, Bool.and_false])
            · skip
              have hs1 : (idL (B 0)) + 1 < (B 0).length := by refine Nat.lt_of_not_le fun q => c_72 ?_; rw [show ((B 0).length - (idL (B 0)) - 1) = 0 by omega]; decide
              refine M.iload dX12_client_75 rfl ?_
              refine M.bipush (v := 21) dX12_client_77 (by decide) ?_
              refine M.icmp_ge (tgt := 112) dX12_client_79 (by decide) (fun c_79 => ?_) (fun c_79 => ?_)
              · skip
                have hsn : ¬ (B 0).length < (idL (B 0)) + 22 := by have := (nI_leI (a := 21) (b := ((B 0).length - (idL (B 0)) - 1)) (by omega) (by omega)).mp c_79; omega
                refine M.iconst (v := 0) dX12_client_112 (by decide) ?_
                refine M.istore (L' := [some (.ref m), some (.int 1), some (.int x), some (.int (bI rf)), some (.int (nI (B 0).length)), some (.int (nI (idL (B 0)))), some (.int (nI ((B 0).length - (idL (B 0)) - 1))), some (.int 0), none]) dX12_client_113 (by decide) rfl rfl ?_
                exact cut_115 false (by rw [gdC]; first | rw [decide_eq_false (fun q => nI_nle q.1 (by omega) c_43), Bool.false_and, Bool.false_and] | rw [decide_eq_false (fun q => nI_ge (b := 21) q.2 (by omega) c_50), Bool.false_and, Bool.false_and] | rw [(bI_eq0 _).mp c_63, Bool.and_false, Bool.false_and] | rw [if_pos rfl, decide_eq_false (show ¬ ((idL (B 0)) + 1 < (B 0).length ∧ (B 0).length < (idL (B 0)) + 22) from fun q => hsn q.1), Bool.false_and, Bool.and_false] | rw [if_pos rfl, decide_eq_false (show ¬ ((idL (B 0)) + 1 < (B 0).length ∧ (B 0).length < (idL (B 0)) + 22) from fun q => hsn q.2), Bool.false_and, Bool.and_false] | rw [if_pos rfl, (bI_eq0 _).mp c_95, Bool.and_false, Bool.and_false])
              · skip
                have hs2 : (B 0).length < (idL (B 0)) + 22 := by have := nI_ltn (n := 21) (i := ((B 0).length - (idL (B 0)) - 1)) c_79 (by omega) (by omega); omega
                refine M.aload_nR dX12_client_82 rfl ?_
                refine M.getr dX12_client_83 fl_X12_9 rfl rfl ?_
                refine M.iload dX12_client_86 rfl ?_
                refine M.iconst (v := 1) dX12_client_88 (by decide) ?_
                refine M.iadd dX12_client_89 ?_
                rw [show (nI (idL (B 0))) + 1 = nI ((idL (B 0)) + 1) from nI_1 _]
                refine M.iload dX12_client_90 rfl ?_
                refine M.callS [.ref (A 1), .int (nI ((idL (B 0)) + 1)), .int (nI ((B 0).length - (idL (B 0)) - 1))] dX12_client_92 mdX12_isVisible ssX12_isVisible lk_X12_353 rfl rfl rfl rfl (m_visI hA (i := (idL (B 0)) + 1) (n := ((B 0).length - (idL (B 0)) - 1)) (w := ((B 0).drop ((idL (B 0)) + 1))) (by have h9 := tl_drop (a := (idL (B 0)) + 1) q_a.2.1 (by omega); rwa [show (B 0).length - ((idL (B 0)) + 1) = (B 0).length - (idL (B 0)) - 1 by omega] at h9) (by omega)) ?_
                rintro _ I9 F9 ⟨rfl, e9, e8⟩
                have e9 := e9.symm; subst e9; have e8 := e8.symm; subst e8
                refine M.if_eq (tgt := 112) dX12_client_95 (by decide) (fun c_95 => ?_) (fun c_95 => ?_)
                · skip
                  refine M.iconst (v := 0) dX12_client_112 (by decide) ?_
                  refine M.istore (L' := [some (.ref m), some (.int 1), some (.int x), some (.int (bI rf)), some (.int (nI (B 0).length)), some (.int (nI (idL (B 0)))), some (.int (nI ((B 0).length - (idL (B 0)) - 1))), some (.int 0), none]) dX12_client_113 (by decide) rfl rfl ?_
                  exact cut_115 false (by rw [gdC]; first | rw [decide_eq_false (fun q => nI_nle q.1 (by omega) c_43), Bool.false_and, Bool.false_and] | rw [decide_eq_false (fun q => nI_ge (b := 21) q.2 (by omega) c_50), Bool.false_and, Bool.false_and] | rw [(bI_eq0 _).mp c_63, Bool.and_false, Bool.false_and] | rw [if_pos rfl, decide_eq_false (show ¬ ((idL (B 0)) + 1 < (B 0).length ∧ (B 0).length < (idL (B 0)) + 22) from fun q => hsn q.1), Bool.false_and, Bool.and_false] | rw [if_pos rfl, decide_eq_false (show ¬ ((idL (B 0)) + 1 < (B 0).length ∧ (B 0).length < (idL (B 0)) + 22) from fun q => hsn q.2), Bool.false_and, Bool.and_false] | rw [if_pos rfl, (bI_eq0 _).mp c_95, Bool.and_false, Bool.and_false])
                · skip
                  refine M.goto (tgt := 108) dX12_client_98 (by decide) ?_
                  refine M.iconst (v := 1) dX12_client_108 (by decide) ?_
                  refine M.goto (tgt := 113) dX12_client_109 (by decide) ?_
                  refine M.istore (L' := [some (.ref m), some (.int 1), some (.int x), some (.int (bI rf)), some (.int (nI (B 0).length)), some (.int (nI (idL (B 0)))), some (.int (nI ((B 0).length - (idL (B 0)) - 1))), some (.int 1), none]) dX12_client_113 (by decide) rfl rfl ?_
                  exact cut_115 true (by rw [gdC, decide_eq_true (show 0 < (idL (B 0)) ∧ (idL (B 0)) < 21 from ⟨Nat.pos_of_ne_zero (fun q => c_43 (by rw [q]; decide)), nI_ltn (n := 21) c_50 (by omega) (by omega)⟩), bt1 c_63, if_pos rfl, decide_eq_true (show (idL (B 0)) + 1 < (B 0).length ∧ (B 0).length < (idL (B 0)) + 22 from ⟨hs1, hs2⟩), bt1 c_95]; rfl)
    · have heq : (idL (B 0)) = (B 0).length := by omega
      rw [show nI (B 0).length - nI (idL (B 0)) - 1 = -1 from by rw [heq]; exact nI_mm _]
      refine M.istore (L' := [some (.ref m), some (.int 1), some (.int x), some (.int (bI rf)), some (.int (nI (B 0).length)), some (.int (nI (idL (B 0)))), some (.int (-1)), none, none]) dX12_client_39 (by decide) rfl rfl ?_
      have cut_200 : ∀ (b : Bool), (b = ((gdC (B 0) true && decide (0 ≤ x ∧ x < 1 <<< (nI (T 2).length &&& 31))) && decide (fnd (T 3) ((B 0).take (idL (B 0))) = (T 3).length))) → M Λ X mX12_client m A (mP (opClient N B T R true x rf)) (upd (upd I 0 0) 2 0) F 200 [some (.ref m), some (.int 1), some (.int x), some (.int (bI rf)), some (.int (nI (B 0).length)), some (.int (nI (idL (B 0)))), some (.int (-1)), some (.int (bI b)), some (.int (nI (T 3).length))] [] := by
        intro b hb
        refine M.aload_nR dX12_client_200 rfl ?_
        refine M.iload dX12_client_201 rfl ?_
        refine M.if_ne (tgt := 210) dX12_client_203 (by decide) (fun c_203 => ?_) (fun c_203 => ?_)
        · skip
          have hgd : ((gdC (B 0) true && decide (0 ≤ x ∧ x < 1 <<< (nI (T 2).length &&& 31))) && decide (fnd (T 3) ((B 0).take (idL (B 0))) = (T 3).length)) = true := by rw [← hb]; exact bt1 c_203
          have hgc : gdC (B 0) true = true := by have h9 := hgd; rw [Bool.and_eq_true, Bool.and_eq_true] at h9; exact h9.1.1
          have hg9 := hgc
          rw [gdC, Bool.and_eq_true, Bool.and_eq_true] at hg9
          have h21 := (of_decide_eq_true hg9.1.1).2
          refine M.iconst (v := 0) dX12_client_210 (by decide) ?_
          refine M.iconst (v := 1) dX12_client_211 (by decide) ?_
          refine M.callV [.int 0, .int 1] dX12_client_212 mdX12_throwsIf imX12_throwsIf seX12_throwsIf lk_X12_357 rfl rfl rfl rfl (m_throwsIf hA false 1) ?_
          rintro _ I9 F9 ⟨rfl, e9, e8⟩
          have e9 := e9.symm; subst e9; have e8 := e8.symm; subst e8
          refine M.if_ne (tgt := 240) dX12_client_215 (by decide) (fun c_215 => absurd c_215 (fun q => q rfl)) (fun c_215 => ?_)
          refine M.aload_nR dX12_client_218 rfl ?_
          refine M.aload_nR dX12_client_219 rfl ?_
          refine M.geti (v := nI (T 3).length) dX12_client_220 fl_X12_257 rfl rfl q_c.1 ?_
          refine M.bipush (v := 8) dX12_client_223 (by decide) ?_
          refine M.icmp_ne (tgt := 232) dX12_client_225 (by decide) (fun c_225 => ?_) (fun c_225 => ?_)
          · skip
            have n8 : ¬ (T 3).length = 8 := fun q => c_225 ((nI_eq (b := 8) (by omega) (by omega)).mpr q)
            refine M.iconst (v := 0) dX12_client_232 (by decide) ?_
            refine M.iconst (v := 2) dX12_client_233 (by decide) ?_
            refine M.callV [.int 0, .int 2] dX12_client_234 mdX12_throwsIf imX12_throwsIf seX12_throwsIf lk_X12_357 rfl rfl rfl rfl (m_throwsIf hA false 2) ?_
            rintro _ I9 F9 ⟨rfl, e9, e8⟩
            have e9 := e9.symm; subst e9; have e8 := e8.symm; subst e8
            refine M.if_eq (tgt := 242) dX12_client_237 (by decide) (fun c_237 => ?_) (fun c_237 => absurd rfl c_237)
            have h8 := hg9.2
            rw [if_pos rfl, Bool.and_eq_true] at h8
            exact absurd (of_decide_eq_true h8.1).1 (by omega)
          · skip
            have et8 : (T 3).length = 8 := (nI_eq (b := 8) (by omega) (by omega)).mp c_225
            refine M.iconst (v := 1) dX12_client_228 (by decide) ?_
            refine M.goto (tgt := 233) dX12_client_229 (by decide) ?_
            refine M.iconst (v := 2) dX12_client_233 (by decide) ?_
            refine M.callV [.int 1, .int 2] dX12_client_234 mdX12_throwsIf imX12_throwsIf seX12_throwsIf lk_X12_357 rfl rfl rfl rfl (m_throwsIf hA true 2) ?_
            rintro _ I9 F9 ⟨rfl, e9, e8⟩
            have e9 := e9.symm; subst e9; have e8 := e8.symm; subst e8
            refine M.if_eq (tgt := 242) dX12_client_237 (by decide) (fun c_237 => absurd c_237 (by decide)) (fun c_237 => ?_)
            refine M.iconst (v := 0) dX12_client_240 (by decide) ?_
            refine M.iret dX12_client_241 rfl ?_
            first
              | (rw [opClient, if_pos (show ((gdC (B 0) true && decide (0 ≤ x ∧ x < 1 <<< (nI (T 2).length &&& 31))) && decide (fnd (T 3) ((B 0).take (idL (B 0))) = (T 3).length)) = false by rw [← hb]; exact (bI_eq0 _).mp c_203)]; exact ⟨rfl, rfl, ⟨rfl, rfl, q_a.2.2⟩, q_b, q_n, q_w, q_c, q_r, q_x, q_q, q_k, q_f, q_t⟩)
              | (rw [opClient, if_neg (show ¬ ((gdC (B 0) true && decide (0 ≤ x ∧ x < 1 <<< (nI (T 2).length &&& 31))) && decide (fnd (T 3) ((B 0).take (idL (B 0))) = (T 3).length)) = false by rw [hgd]; decide), if_pos et8]; exact ⟨rfl, rfl, ⟨rfl, rfl, q_a.2.2⟩, q_b, q_n, q_w, q_c, q_r, q_x, q_q, q_k, q_f, q_t⟩)
        · skip
          refine M.iconst (v := 1) dX12_client_206 (by decide) ?_
          refine M.goto (tgt := 211) dX12_client_207 (by decide) ?_
          refine M.iconst (v := 1) dX12_client_211 (by decide) ?_
          refine M.callV [.int 1, .int 1] dX12_client_212 mdX12_throwsIf imX12_throwsIf seX12_throwsIf lk_X12_357 rfl rfl rfl rfl (m_throwsIf hA true 1) ?_
          rintro _ I9 F9 ⟨rfl, e9, e8⟩
          have e9 := e9.symm; subst e9; have e8 := e8.symm; subst e8
          refine M.if_ne (tgt := 240) dX12_client_215 (by decide) (fun c_215 => ?_) (fun c_215 => absurd c_215 (by decide))
          refine M.iconst (v := 0) dX12_client_240 (by decide) ?_
          refine M.iret dX12_client_241 rfl ?_
          first
            | (rw [opClient, if_pos (show ((gdC (B 0) true && decide (0 ≤ x ∧ x < 1 <<< (nI (T 2).length &&& 31))) && decide (fnd (T 3) ((B 0).take (idL (B 0))) = (T 3).length)) = false by rw [← hb]; exact (bI_eq0 _).mp c_203)]; exact ⟨rfl, rfl, ⟨rfl, rfl, q_a.2.2⟩, q_b, q_n, q_w, q_c, q_r, q_x, q_q, q_k, q_f, q_t⟩)
            | (rw [opClient, if_neg (show ¬ ((gdC (B 0) true && decide (0 ≤ x ∧ x < 1 <<< (nI (T 2).length &&& 31))) && decide (fnd (T 3) ((B 0).take (idL (B 0))) = (T 3).length)) = false by rw [hgd]; decide), if_pos et8]; exact ⟨rfl, rfl, ⟨rfl, rfl, q_a.2.2⟩, q_b, q_n, q_w, q_c, q_r, q_x, q_q, q_k, q_f, q_t⟩)
      have cut_144 : ∀ (k_144 : Nat) (k : Nat) (b : Bool), (k ≤ (T 3).length) → ((T 3).length + 1 ≤ k + k_144) → (b = ((gdC (B 0) true && decide (0 ≤ x ∧ x < 1 <<< (nI (T 2).length &&& 31))) && alln (fun y => !decide (((B 0).take (idL (B 0))) = (T 3).getD y [])) k)) → M Λ X mX12_client m A (mP (opClient N B T R true x rf)) (upd (upd I 0 0) 2 0) F 144 [some (.ref m), some (.int 1), some (.int x), some (.int (bI rf)), some (.int (nI (B 0).length)), some (.int (nI (idL (B 0)))), some (.int (-1)), some (.int (bI b)), some (.int (nI k))] [] := by
        intro k_144
        induction k_144 with
        | zero => intro k b h1 h2 hb; exact absurd h2 (by omega)
        | succ k_144 ih_144 =>
          intro k b h1 h2 hb
          refine M.iload dX12_client_144 rfl ?_
          refine M.aload_nR dX12_client_146 rfl ?_
          refine M.geti (v := nI (T 3).length) dX12_client_147 fl_X12_257 rfl rfl q_c.1 ?_
          refine M.icmp_ge (tgt := 200) dX12_client_150 (by decide) (fun c_150 => ?_) (fun c_150 => ?_)
          · skip
            have e1 := nI_gen c_150 h1 (by omega); subst e1
            skip
            exact cut_200 b (by rw [hb]; show (_ && nonB (T 3) ((B 0).take (idL (B 0))) (T 3).length) = _; rw [nonB_fnd])
          · skip
            have lt_k : k < (T 3).length := nI_ltn c_150 (by omega) (by omega)
            have hx := q_c.2.1 k lt_k
            refine M.iload dX12_client_153 rfl ?_
            refine M.if_eq (tgt := 191) dX12_client_155 (by decide) (fun c_155 => ?_) (fun c_155 => ?_)
            · skip
              refine M.iconst (v := 0) dX12_client_191 (by decide) ?_
              refine M.istore (L' := [some (.ref m), some (.int 1), some (.int x), some (.int (bI rf)), some (.int (nI (B 0).length)), some (.int (nI (idL (B 0)))), some (.int (-1)), some (.int 0), some (.int (nI k))]) dX12_client_192 (by decide) rfl rfl ?_
              refine M.iinc (v := nI (k + 1)) (L' := [some (.ref m), some (.int 1), some (.int x), some (.int (bI rf)), some (.int (nI (B 0).length)), some (.int (nI (idL (B 0)))), some (.int (-1)), some (.int 0), some (.int (nI (k + 1)))]) dX12_client_194 rfl (nI_1 k) (by decide) rfl rfl ?_
              refine M.goto (tgt := 144) dX12_client_197 (by decide) ?_
              exact ih_144 (k + 1) false (by omega) (by omega) (by rw [← alln_b (p := fun y => !decide (((B 0).take (idL (B 0))) = (T 3).getD y [])) hb]; first | rw [(bI_eq0 _).mp c_155, Bool.false_and] | rw [bt1 c_184, Bool.not_true, Bool.and_false])
            · skip
              refine M.aload_nR dX12_client_158 rfl ?_
              refine M.getr dX12_client_159 fl_X12_9 rfl rfl ?_
              refine M.iconst (v := 0) dX12_client_162 (by decide) ?_
              refine M.iload dX12_client_163 rfl ?_
              refine M.aload_nR dX12_client_165 rfl ?_
              refine M.getr dX12_client_166 fl_X12_23 rfl rfl ?_
              refine M.bipush (v := 20) dX12_client_169 (by decide) ?_
              refine M.iload dX12_client_171 rfl ?_
              refine M.imul dX12_client_173 ?_
              rw [show 20 * (nI k) = nI (20 * k) from nI_mulc 20 k]
              refine M.aload_nR dX12_client_174 rfl ?_
              refine M.getr dX12_client_175 fl_X12_26 rfl rfl ?_
              refine M.iload dX12_client_178 rfl ?_
              refine M.ialdv (k9 := 11) (j := k) (g := F 11) (v := nI ((T 3).getD k []).length) dX12_client_180 rfl rfl rfl rfl (show k < 8 by omega) hx.1 ?_
              refine M.callS [.ref (A 1), .int 0, .int (nI (idL (B 0))), .ref (A 10), .int (nI (20 * k)), .int (nI ((T 3).getD k []).length)] dX12_client_181 mdX12_isLike ssX12_isLike lk_X12_264 rfl rfl rfl rfl (m_likeT hA (kb := 10) rfl rfl (v := ((B 0).take (idL (B 0)))) (w := (T 3).getD k []) (tl_tk q_a.2.1 hmle) (by omega) (show 20 * k + ((T 3).getD k []).length ≤ 160 by omega) hx.2.2) ?_
              rintro _ I9 F9 ⟨rfl, e9, e8⟩
              have e9 := e9.symm; subst e9; have e8 := e8.symm; subst e8
              refine M.if_ne (tgt := 191) dX12_client_184 (by decide) (fun c_184 => ?_) (fun c_184 => ?_)
              · skip
                refine M.iconst (v := 0) dX12_client_191 (by decide) ?_
                refine M.istore (L' := [some (.ref m), some (.int 1), some (.int x), some (.int (bI rf)), some (.int (nI (B 0).length)), some (.int (nI (idL (B 0)))), some (.int (-1)), some (.int 0), some (.int (nI k))]) dX12_client_192 (by decide) rfl rfl ?_
                refine M.iinc (v := nI (k + 1)) (L' := [some (.ref m), some (.int 1), some (.int x), some (.int (bI rf)), some (.int (nI (B 0).length)), some (.int (nI (idL (B 0)))), some (.int (-1)), some (.int 0), some (.int (nI (k + 1)))]) dX12_client_194 rfl (nI_1 k) (by decide) rfl rfl ?_
                refine M.goto (tgt := 144) dX12_client_197 (by decide) ?_
                exact ih_144 (k + 1) false (by omega) (by omega) (by rw [← alln_b (p := fun y => !decide (((B 0).take (idL (B 0))) = (T 3).getD y [])) hb]; first | rw [(bI_eq0 _).mp c_155, Bool.false_and] | rw [bt1 c_184, Bool.not_true, Bool.and_false])
              · skip
                refine M.iconst (v := 1) dX12_client_187 (by decide) ?_
                refine M.goto (tgt := 192) dX12_client_188 (by decide) ?_
                refine M.istore (L' := [some (.ref m), some (.int 1), some (.int x), some (.int (bI rf)), some (.int (nI (B 0).length)), some (.int (nI (idL (B 0)))), some (.int (-1)), some (.int 1), some (.int (nI k))]) dX12_client_192 (by decide) rfl rfl ?_
                refine M.iinc (v := nI (k + 1)) (L' := [some (.ref m), some (.int 1), some (.int x), some (.int (bI rf)), some (.int (nI (B 0).length)), some (.int (nI (idL (B 0)))), some (.int (-1)), some (.int 1), some (.int (nI (k + 1)))]) dX12_client_194 rfl (nI_1 k) (by decide) rfl rfl ?_
                refine M.goto (tgt := 144) dX12_client_197 (by decide) ?_
                exact ih_144 (k + 1) true (by omega) (by omega) (by rw [← alln_b (p := fun y => !decide (((B 0).take (idL (B 0))) = (T 3).getD y [])) hb, bt1 c_155, (bI_eq0 _).mp c_184]; rfl)
      have cut_141 : ∀ (b : Bool), (b = (gdC (B 0) true && decide (0 ≤ x ∧ x < 1 <<< (nI (T 2).length &&& 31)))) → M Λ X mX12_client m A (mP (opClient N B T R true x rf)) (upd (upd I 0 0) 2 0) F 141 [some (.ref m), some (.int 1), some (.int x), some (.int (bI rf)), some (.int (nI (B 0).length)), some (.int (nI (idL (B 0)))), some (.int (-1)), some (.int (bI b)), none] [] := by
        intro b hb
        refine M.iconst (v := 0) dX12_client_141 (by decide) ?_
        refine M.istore (L' := [some (.ref m), some (.int 1), some (.int x), some (.int (bI rf)), some (.int (nI (B 0).length)), some (.int (nI (idL (B 0)))), some (.int (-1)), some (.int (bI b)), some (.int 0)]) dX12_client_142 (by decide) rfl rfl ?_
        exact cut_144 ((T 3).length + 1) 0 b (by omega) (by omega) (by rw [hb]; show _ = (_ && true); rw [Bool.and_true])
      have cut_115 : ∀ (b : Bool), (b = gdC (B 0) true) → M Λ X mX12_client m A (mP (opClient N B T R true x rf)) (upd (upd I 0 0) 2 0) F 115 [some (.ref m), some (.int 1), some (.int x), some (.int (bI rf)), some (.int (nI (B 0).length)), some (.int (nI (idL (B 0)))), some (.int (-1)), some (.int (bI b)), none] [] := by
        intro b hb
        refine M.iload dX12_client_115 rfl ?_
        refine M.if_eq (tgt := 138) dX12_client_117 (by decide) (fun c_117 => ?_) (fun c_117 => ?_)
        · skip
          refine M.iconst (v := 0) dX12_client_138 (by decide) ?_
          refine M.istore (L' := [some (.ref m), some (.int 1), some (.int x), some (.int (bI rf)), some (.int (nI (B 0).length)), some (.int (nI (idL (B 0)))), some (.int (-1)), some (.int 0), none]) dX12_client_139 (by decide) rfl rfl ?_
          exact cut_141 false (by rw [← hb]; first | rw [(bI_eq0 _).mp c_117, Bool.false_and] | rw [decide_eq_false (fun q => absurd q.1 (Int32.not_le.mpr c_121)), Bool.and_false] | rw [decide_eq_false (fun q => absurd q.2 (Int32.not_lt.mpr c_131)), Bool.and_false])
        · skip
          refine M.iload_n dX12_client_120 rfl ?_
          refine M.if_lt (tgt := 138) dX12_client_121 (by decide) (fun c_121 => ?_) (fun c_121 => ?_)
          · skip
            refine M.iconst (v := 0) dX12_client_138 (by decide) ?_
            refine M.istore (L' := [some (.ref m), some (.int 1), some (.int x), some (.int (bI rf)), some (.int (nI (B 0).length)), some (.int (nI (idL (B 0)))), some (.int (-1)), some (.int 0), none]) dX12_client_139 (by decide) rfl rfl ?_
            exact cut_141 false (by rw [← hb]; first | rw [(bI_eq0 _).mp c_117, Bool.false_and] | rw [decide_eq_false (fun q => absurd q.1 (Int32.not_le.mpr c_121)), Bool.and_false] | rw [decide_eq_false (fun q => absurd q.2 (Int32.not_lt.mpr c_131)), Bool.and_false])
          · skip
            refine M.iload_n dX12_client_124 rfl ?_
            refine M.iconst (v := 1) dX12_client_125 (by decide) ?_
            refine M.aload_nR dX12_client_126 rfl ?_
            refine M.geti (v := nI (T 2).length) dX12_client_127 fl_X12_268 rfl rfl q_w.1 ?_
            refine M.ishl dX12_client_130 ?_
            refine M.icmp_ge (tgt := 138) dX12_client_131 (by decide) (fun c_131 => ?_) (fun c_131 => ?_)
            · skip
              refine M.iconst (v := 0) dX12_client_138 (by decide) ?_
              refine M.istore (L' := [some (.ref m), some (.int 1), some (.int x), some (.int (bI rf)), some (.int (nI (B 0).length)), some (.int (nI (idL (B 0)))), some (.int (-1)), some (.int 0), none]) dX12_client_139 (by decide) rfl rfl ?_
              exact cut_141 false (by rw [← hb]; first | rw [(bI_eq0 _).mp c_117, Bool.false_and] | rw [decide_eq_false (fun q => absurd q.1 (Int32.not_le.mpr c_121)), Bool.and_false] | rw [decide_eq_false (fun q => absurd q.2 (Int32.not_lt.mpr c_131)), Bool.and_false])
            · skip
              refine M.iconst (v := 1) dX12_client_134 (by decide) ?_
              refine M.goto (tgt := 139) dX12_client_135 (by decide) ?_
              refine M.istore (L' := [some (.ref m), some (.int 1), some (.int x), some (.int (bI rf)), some (.int (nI (B 0).length)), some (.int (nI (idL (B 0)))), some (.int (-1)), some (.int 1), none]) dX12_client_139 (by decide) rfl rfl ?_
              exact cut_141 true (by rw [← hb, bt1 c_117, decide_eq_true ⟨Int32.not_lt.mp c_121, Int32.not_le.mp c_131⟩]; rfl)
      refine M.iload dX12_client_41 rfl ?_
      refine M.if_le (tgt := 112) dX12_client_43 (by decide) (fun c_43 => ?_) (fun c_43 => ?_)
      · skip
        have hsn : ¬ (idL (B 0)) + 1 < (B 0).length := by omega
        refine M.iconst (v := 0) dX12_client_112 (by decide) ?_
        refine M.istore (L' := [some (.ref m), some (.int 1), some (.int x), some (.int (bI rf)), some (.int (nI (B 0).length)), some (.int (nI (idL (B 0)))), some (.int (-1)), some (.int 0), none]) dX12_client_113 (by decide) rfl rfl ?_
        exact cut_115 false (by rw [gdC]; first | rw [decide_eq_false (fun q => nI_nle q.1 (by omega) c_43), Bool.false_and, Bool.false_and] | rw [decide_eq_false (fun q => nI_ge (b := 21) q.2 (by omega) c_50), Bool.false_and, Bool.false_and] | rw [(bI_eq0 _).mp c_63, Bool.and_false, Bool.false_and] | rw [if_pos rfl, decide_eq_false (show ¬ ((idL (B 0)) + 1 < (B 0).length ∧ (B 0).length < (idL (B 0)) + 22) from fun q => hsn q.1), Bool.false_and, Bool.and_false] | rw [if_pos rfl, decide_eq_false (show ¬ ((idL (B 0)) + 1 < (B 0).length ∧ (B 0).length < (idL (B 0)) + 22) from fun q => hsn q.2), Bool.false_and, Bool.and_false] | rw [if_pos rfl, (bI_eq0 _).mp c_95, Bool.and_false, Bool.and_false])
      · skip
        refine M.iload dX12_client_46 rfl ?_
        refine M.bipush (v := 21) dX12_client_48 (by decide) ?_
        refine M.icmp_ge (tgt := 112) dX12_client_50 (by decide) (fun c_50 => ?_) (fun c_50 => ?_)
        · skip
          have hsn : ¬ (idL (B 0)) + 1 < (B 0).length := by omega
          refine M.iconst (v := 0) dX12_client_112 (by decide) ?_
          refine M.istore (L' := [some (.ref m), some (.int 1), some (.int x), some (.int (bI rf)), some (.int (nI (B 0).length)), some (.int (nI (idL (B 0)))), some (.int (-1)), some (.int 0), none]) dX12_client_113 (by decide) rfl rfl ?_
          exact cut_115 false (by rw [gdC]; first | rw [decide_eq_false (fun q => nI_nle q.1 (by omega) c_43), Bool.false_and, Bool.false_and] | rw [decide_eq_false (fun q => nI_ge (b := 21) q.2 (by omega) c_50), Bool.false_and, Bool.false_and] | rw [(bI_eq0 _).mp c_63, Bool.and_false, Bool.false_and] | rw [if_pos rfl, decide_eq_false (show ¬ ((idL (B 0)) + 1 < (B 0).length ∧ (B 0).length < (idL (B 0)) + 22) from fun q => hsn q.1), Bool.false_and, Bool.and_false] | rw [if_pos rfl, decide_eq_false (show ¬ ((idL (B 0)) + 1 < (B 0).length ∧ (B 0).length < (idL (B 0)) + 22) from fun q => hsn q.2), Bool.false_and, Bool.and_false] | rw [if_pos rfl, (bI_eq0 _).mp c_95, Bool.and_false, Bool.and_false])
        · skip
          refine M.aload_nR dX12_client_53 rfl ?_
          refine M.getr dX12_client_54 fl_X12_9 rfl rfl ?_
          refine M.iconst (v := 0) dX12_client_57 (by decide) ?_
          refine M.iload dX12_client_58 rfl ?_
          refine M.callS [.ref (A 1), .int 0, .int (nI (idL (B 0)))] dX12_client_60 mdX12_isVisible ssX12_isVisible lk_X12_353 rfl rfl rfl rfl (m_visI hA (i := 0) (n := (idL (B 0))) (tl_tk q_a.2.1 hmle) (by omega)) ?_
          rintro _ I9 F9 ⟨rfl, e9, e8⟩
          have e9 := e9.symm; subst e9; have e8 := e8.symm; subst e8
          refine M.if_eq (tgt := 112) dX12_client_63 (by decide) (fun c_63 => ?_) (fun c_63 => ?_)
          · skip
            have hsn : ¬ (idL (B 0)) + 1 < (B 0).length := by omega
            refine M.iconst (v := 0) dX12_client_112 (by decide) ?_
            refine M.istore (L' := [some (.ref m), some (.int 1), some (.int x), some (.int (bI rf)), some (.int (nI (B 0).length)), some (.int (nI (idL (B 0)))), some (.int (-1)), some (.int 0), none]) dX12_client_113 (by decide) rfl rfl ?_
            exact cut_115 false (by rw [gdC]; first | rw [decide_eq_false (fun q => nI_nle q.1 (by omega) c_43), Bool.false_and, Bool.false_and] | rw [decide_eq_false (fun q => nI_ge (b := 21) q.2 (by omega) c_50), Bool.false_and, Bool.false_and] | rw [(bI_eq0 _).mp c_63, Bool.and_false, Bool.false_and] | rw [if_pos rfl, decide_eq_false (show ¬ ((idL (B 0)) + 1 < (B 0).length ∧ (B 0).length < (idL (B 0)) + 22) from fun q => hsn q.1), Bool.false_and, Bool.and_false] | rw [if_pos rfl, decide_eq_false (show ¬ ((idL (B 0)) + 1 < (B 0).length ∧ (B 0).length < (idL (B 0)) + 22) from fun q => hsn q.2), Bool.false_and, Bool.and_false] | rw [if_pos rfl, (bI_eq0 _).mp c_95, Bool.and_false, Bool.and_false])
          · skip
            refine M.iload_n dX12_client_66 rfl ?_
            refine M.if_eq (tgt := 101) dX12_client_67 (by decide) (fun c_67 => absurd c_67 (by decide)) (fun c_67 => ?_)
            refine M.iload dX12_client_70 rfl ?_
            refine M.if_le (tgt := 112) dX12_client_72 (by decide) (fun c_72 => ?_) (fun c_72 => absurd (by decide) c_72)
            have hsn : ¬ (idL (B 0)) + 1 < (B 0).length := by omega
            refine M.iconst (v := 0) dX12_client_112 (by decide) ?_
            refine M.istore (L' := [some (.ref m), some (.int 1), some (.int x), some (.int (bI rf)), some (.int (nI (B 0).length)), some (.int (nI (idL (B 0)))), some (.int (-1)), some (.int 0), none]) dX12_client_113 (by decide) rfl rfl ?_
            exact cut_115 false (by rw [gdC]; first | rw [decide_eq_false (fun q => nI_nle q.1 (by omega) c_43), Bool.false_and, Bool.false_and] | rw [decide_eq_false (fun q => nI_ge (b := 21) q.2 (by omega) c_50), Bool.false_and, Bool.false_and] | rw [(bI_eq0 _).mp c_63, Bool.and_false, Bool.false_and] | rw [if_pos rfl, decide_eq_false (show ¬ ((idL (B 0)) + 1 < (B 0).length ∧ (B 0).length < (idL (B 0)) + 22) from fun q => hsn q.1), Bool.false_and, Bool.and_false] | rw [if_pos rfl, decide_eq_false (show ¬ ((idL (B 0)) + 1 < (B 0).length ∧ (B 0).length < (idL (B 0)) + 22) from fun q => hsn q.2), Bool.false_and, Bool.and_false] | rw [if_pos rfl, (bI_eq0 _).mp c_95, Bool.and_false, Bool.and_false])
  have cut_9 : ∀ (k_9 : Nat) (k : Nat), (k ≤ (B 0).length) → ((B 0).length + 1 ≤ k + k_9) → ((idL (B 0)) = atI (gD (B 0)) 0 k (B 0).length) → M Λ X mX12_client m A (mP (opClient N B T R true x rf)) (upd (upd I 0 0) 2 0) F 9 [some (.ref m), some (.int 1), some (.int x), some (.int (bI rf)), some (.int (nI (B 0).length)), some (.int (nI k)), none, none, none] [] := by
    intro k_9
    induction k_9 with
    | zero => intro k h1 h2 hk; exact absurd h2 (by omega)
    | succ k_9 ih_9 =>
      intro k h1 h2 hk
      refine M.iload dX12_client_9 rfl ?_
      refine M.iload dX12_client_11 rfl ?_
      refine M.icmp_ge (tgt := 32) dX12_client_13 (by decide) (fun c_13 => ?_) (fun c_13 => ?_)
      · skip
        have e1 := nI_gen c_13 h1 (by omega); subst e1
        have hidk : (idL (B 0)) = (B 0).length := hk.trans (atI_end (Nat.le_refl _))
        skip
        have t9 := cut_32
        rw [hidk] at t9
        exact t9
      · skip
        have lt_k : k < (B 0).length := nI_ltn c_13 (by omega) (by omega)
        refine M.aload_nR dX12_client_16 rfl ?_
        refine M.getr dX12_client_17 fl_X12_9 rfl rfl ?_
        refine M.iload dX12_client_20 rfl ?_
        refine M.baldv (k9 := 1) (j := k) (g := F 1) (v := gD (B 0) k) dX12_client_22 rfl rfl rfl rfl (show k < 2000 by omega) (tl_at0 q_a.2.1 lt_k) ?_
        refine M.if_eq (tgt := 32) dX12_client_23 (by decide) (fun c_23 => ?_) (fun c_23 => ?_)
        · skip
          have hidk : (idL (B 0)) = k := hk.trans (atI_t lt_k c_23)
          have t9 := cut_32
          rw [hidk] at t9
          exact t9
        · skip
          refine M.iinc (v := nI (k + 1)) (L' := [some (.ref m), some (.int 1), some (.int x), some (.int (bI rf)), some (.int (nI (B 0).length)), some (.int (nI (k + 1))), none, none, none]) dX12_client_26 rfl (nI_1 k) (by decide) rfl rfl ?_
          refine M.goto (tgt := 9) dX12_client_29 (by decide) ?_
          exact ih_9 (k + 1) (by omega) (by omega) (hk.trans (atI_f lt_k c_23))
  refine M.iconst (v := 0) dX12_client_6 (by decide) ?_
  refine M.istore (L' := [some (.ref m), some (.int 1), some (.int x), some (.int (bI rf)), some (.int (nI (B 0).length)), some (.int 0), none, none, none]) dX12_client_7 (by decide) rfl rfl ?_
  exact cut_9 ((B 0).length + 1) 0 (by omega) (by omega) rfl

theorem p_client {Λ : kL} {m : Nat} {A : Nat → Nat} {I : Nat → Int32} {F : Nat → Nat → Int32} (hA : mInj A) {N : Nat → Int32} {B : Nat → List Int32} {T R : Nat → List (List Int32)} (hR : mR I F N B T R) (hW : wf N B T R) (cf : Bool) (x : Int32) (rf : Bool) : mCt Λ mX12_client m A [.ref m, .int (bI cf), .int x, .int (bI rf)] I F (mP (opClient N B T R cf x rf)) := by
  cases cf with
  | false => exact p_client_0 hA hR hW x rf
  | true => exact p_client_1 hA hR hW x rf
