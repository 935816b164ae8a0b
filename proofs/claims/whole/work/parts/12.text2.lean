/-! appending to a Text: the bytes that come, as a list -/
def b8 (x : Int32) : Int32 := x.toInt8.toInt32
def updl (f : Nat → Int32) (i : Nat) (l : List Int32) : Nat → Int32 := fun j => if i ≤ j ∧ j < i + l.length then l.getD (j - i) 0 else f j
theorem updl_nil (f : Nat → Int32) (i : Nat) : updl f i [] = f := by
  funext j
  exact if_neg (by simp only [List.length_nil]; omega)
theorem updl_in {f : Nat → Int32} {i j : Nat} {l : List Int32} (h : j < l.length) : updl f i l (i + j) = l.getD j 0 := by
  rw [updl, if_pos ⟨by omega, by omega⟩, Nat.add_sub_cancel_left]
theorem updl_out {f : Nat → Int32} {i j : Nat} {l : List Int32} (h : j < i ∨ i + l.length ≤ j) : updl f i l j = f j := if_neg (by omega)
theorem updl_one (f : Nat → Int32) (i : Nat) (x : Int32) : updl f i [x] = upd f i x := by
  funext j
  by_cases h : j = i
  · subst h
    rw [pk_us]
    exact updl_in (j := 0) (i := j) (Nat.le_of_ble_eq_true rfl)
  · rw [pk_un h, updl_out (by simp only [List.length_cons, List.length_nil]; omega)]
theorem updl_app (f : Nat → Int32) (i : Nat) (l m : List Int32) : updl (updl f i l) (i + l.length) m = updl f i (l ++ m) := by
  funext j
  rcases Nat.lt_or_ge j i with h | h
  · rw [updl_out (Or.inl (by omega)), updl_out (Or.inl h), updl_out (Or.inl h)]
  · rcases Nat.lt_or_ge j (i + l.length) with h1 | h1
    · obtain ⟨k, rfl⟩ : ∃ k, j = i + k := ⟨j - i, by omega⟩
      rw [updl_out (Or.inl h1), updl_in (by omega), updl_in (by rw [List.length_append]; omega)]
      simp only [List.getD_eq_getElem?_getD]
      rw [List.getElem?_append_left (by omega)]
    · rcases Nat.lt_or_ge j (i + l.length + m.length) with h2 | h2
      · obtain ⟨k, rfl⟩ : ∃ k, j = i + l.length + k := ⟨j - (i + l.length), by omega⟩
        rw [updl_in (by omega), Nat.add_assoc, updl_in (by rw [List.length_append]; omega)]
        simp only [List.getD_eq_getElem?_getD]
        rw [List.getElem?_append_right (by omega), Nat.add_sub_cancel_left]
      · rw [updl_out (Or.inr h2), updl_out (Or.inr h1), updl_out (Or.inr (by rw [List.length_append]; omega))]
/-- the heap behind an appending -/
def tapp (σ : kh) (t r cap : Nat) (f : Nat → Int32) (b n : Nat) (l : List Int32) : kh := kup (kup σ r (aB cap (updl f (b + n) l))) t (oT r (nI b) (nI (n + l.length)))
theorem tapp_t {σ : kh} {t r cap : Nat} {f : Nat → Int32} {b n : Nat} {l : List Int32} : tapp σ t r cap f b n l t = some (oT r (nI b) (nI (n + l.length))) := kup_s _ _ _
theorem tapp_r {σ : kh} {t r cap : Nat} {f : Nat → Int32} {b n : Nat} {l : List Int32} (h : r ≠ t) : tapp σ t r cap f b n l r = some (aB cap (updl f (b + n) l)) := kup_i h (kup_s _ _ _)
theorem tapp_o {σ : kh} {t r cap : Nat} {f : Nat → Int32} {b n : Nat} {l : List Int32} {q : Nat} (h : q ≠ t) (h' : q ≠ r) : tapp σ t r cap f b n l q = σ q := by rw [tapp, kup_n _ _ h, kup_n _ _ h']
theorem tapp_i {σ : kh} {t r cap : Nat} {f : Nat → Int32} {b n : Nat} {l : List Int32} {q : Nat} {c : kc} (h : q ≠ t) (h' : q ≠ r) (hq : σ q = some c) : tapp σ t r cap f b n l q = some c := (tapp_o h h').trans hq
theorem tapp_tapp {σ : kh} {t r cap : Nat} {f : Nat → Int32} {b n : Nat} {l m : List Int32} : tapp (tapp σ t r cap f b n l) t r cap (updl f (b + n) l) b (n + l.length) m = tapp σ t r cap f b n (l ++ m) := by
  unfold tapp
  rw [show b + (n + l.length) = b + n + l.length by omega, updl_app, List.length_append, show n + l.length + m.length = n + (l.length + m.length) by omega]
  funext q
  by_cases h : q = t
  · rw [h, kup_s, kup_s]
  · by_cases h' : q = r
    · rw [kup_n _ _ h, kup_n _ _ h, h', kup_s, kup_s]
    · rw [kup_n _ _ h, kup_n _ _ h, kup_n _ _ h', kup_n _ _ h', kup_n _ _ h, kup_n _ _ h']
theorem tapp_nil {σ : kh} {t r cap : Nat} {f : Nat → Int32} {b n : Nat} (ht : σ t = some (oT r (nI b) (nI n))) (hr : σ r = some (aB cap f)) : tapp σ t r cap f b n [] = σ := by
  unfold tapp
  rw [updl_nil, List.length_nil, Nat.add_zero]
  funext q
  by_cases h : q = t
  · rw [h, kup_s, ht]
  · by_cases h' : q = r
    · rw [kup_n _ _ h, h', kup_s, hr]
    · rw [kup_n _ _ h, kup_n _ _ h']
/-- n places of f from b on -/
def tl (f : Nat → Int32) (b n : Nat) : List Int32 := (List.range n).map fun i => f (b + i)
theorem tl_len (f : Nat → Int32) (b n : Nat) : (tl f b n).length = n := by rw [tl, List.length_map, List.length_range]
theorem tl_at {f : Nat → Int32} {b n i : Nat} (h : i < n) : (tl f b n).getD i 0 = f (b + i) := by
  rw [List.getD_eq_getElem?_getD, tl, List.getElem?_map, List.getElem?_range h]
  rfl
theorem tl_succ (f : Nat → Int32) (b n : Nat) : tl f b (n + 1) = tl f b n ++ [f (b + n)] := by
  rw [tl, List.range_succ, List.map_append]
  rfl
theorem tl_0 (f : Nat → Int32) (b : Nat) : tl f b 0 = [] := rfl
theorem tl_in {f : Nat → Int32} {i : Nat} {l : List Int32} : tl (updl f i l) i l.length = l := by
  apply List.ext_getElem?
  intro k
  by_cases h : k < l.length
  · rw [tl, List.getElem?_map, List.getElem?_range h]
    show some (updl f i l (i + k)) = _
    rw [updl_in h, List.getD_eq_getElem?_getD, List.getElem?_eq_getElem h]
    rfl
  · rw [List.getElem?_eq_none (by rw [tl_len]; omega), List.getElem?_eq_none (by omega)]
/-- all of them are bytes -/
def byt (f : Nat → Int32) (b n : Nat) : Prop := ∀ j, j < n → b8 (f (b + j)) = f (b + j)
theorem b8_255 (x : Int32) (h : b8 x = x) : b8 (x &&& 255) = x := by
  obtain ⟨j, hj, e⟩ := pk_andE x (m := 255) 8 (by decide)
  rw [e]
  exact ((sc_eq h hj).mpr e).symm
theorem b8_b8 (x : Int32) : b8 (b8 x) = b8 x := by
  have h := pk_vb x
  rwa [vp_nar_byte] at h
theorem c_Text_add1 {Λ : kL} {σ : kh} {t r b n cap : Nat} {f : Nat → Int32} (ht : σ t = some (oT r (nI b) (nI n))) (hr : σ r = some (aB cap f)) (hc : b + n < cap) (hm : cap ≤ 100000) (x : Int32) : jCt Λ mX9_add 0 0 [.ref t, .int x] σ (fun v σ' => v = none ∧ σ' = tapp σ t r cap f b n [b8 x]) := by
  refine (c_Text_add ht hr hc hm x).mono fun v σ' h => ⟨h.1, ?_⟩
  rw [h.2, tapp, updl_one, pk_vb, nI_1]
  rfl

def ibs (x : Int32) : List Int32 := [b8 ((x : Int32).toUInt32 >>> ((24 : Int32).toUInt32 &&& Int32.toUInt32 31)).toInt32, b8 ((x : Int32).toUInt32 >>> ((16 : Int32).toUInt32 &&& Int32.toUInt32 31)).toInt32, b8 ((x : Int32).toUInt32 >>> ((8 : Int32).toUInt32 &&& Int32.toUInt32 31)).toInt32, b8 x]

theorem c_Text_addInt {Λ : kL} {σ : kh} {t r b n cap : Nat} {f : Nat → Int32} (ht : σ t = some (oT r (nI b) (nI n))) (hr : σ r = some (aB cap f)) (hc : b + n + 4 ≤ cap) (hm : cap ≤ 100000) (x : Int32) : jCt Λ mX9_addInt 0 0 [.ref t, .int x] σ (fun v σ' => v = none ∧ σ' = tapp σ t r cap f b n (ibs x)) := by
  refine jCt.of pn_X9 [some (.ref t), some (.int x)] rfl (Nat.le_of_ble_eq_true rfl) fun X => ?_
  have n_rt : r ≠ t := kne_ao hr ht
  refine J.aload_nR dX9_addInt_0 rfl ?_
  refine J.iload_n dX9_addInt_1 rfl ?_
  refine J.bipush (v := 24) dX9_addInt_2 (by decide) ?_
  refine J.iushr dX9_addInt_4 rfl ?_
  refine J.callV0 [.int (((x : Int32).toUInt32 >>> ((24 : Int32).toUInt32 &&& Int32.toUInt32 31)).toInt32)] dX9_addInt_5 mdX9_add imX9_add seX9_add kc_10 ht lk_X9_28 rfl rfl rfl rfl (c_Text_add1 ht hr (by omega) hm (((x : Int32).toUInt32 >>> ((24 : Int32).toUInt32 &&& Int32.toUInt32 31)).toInt32)) ?_
  rintro _ _ ⟨rfl, rfl⟩
  have h_1 : (tapp σ t r cap f b n [b8 (((x : Int32).toUInt32 >>> ((24 : Int32).toUInt32 &&& Int32.toUInt32 31)).toInt32)]) t = some (oT r (nI b) (nI (n + [b8 (((x : Int32).toUInt32 >>> ((24 : Int32).toUInt32 &&& Int32.toUInt32 31)).toInt32)].length))) := tapp_t
  have h_2 : (tapp σ t r cap f b n [b8 (((x : Int32).toUInt32 >>> ((24 : Int32).toUInt32 &&& Int32.toUInt32 31)).toInt32)]) r = some (aB cap (updl f (b + n) [b8 (((x : Int32).toUInt32 >>> ((24 : Int32).toUInt32 &&& Int32.toUInt32 31)).toInt32)])) := tapp_r n_rt
  refine J.aload_nR dX9_addInt_8 rfl ?_
  refine J.iload_n dX9_addInt_9 rfl ?_
  refine J.bipush (v := 16) dX9_addInt_10 (by decide) ?_
  refine J.iushr dX9_addInt_12 rfl ?_
  refine J.callV0 [.int (((x : Int32).toUInt32 >>> ((16 : Int32).toUInt32 &&& Int32.toUInt32 31)).toInt32)] dX9_addInt_13 mdX9_add imX9_add seX9_add kc_10 h_1 lk_X9_28 rfl rfl rfl rfl (c_Text_add1 h_1 h_2 (by simp only [List.length_append, List.length_cons, List.length_nil, tl_len]; omega) hm (((x : Int32).toUInt32 >>> ((16 : Int32).toUInt32 &&& Int32.toUInt32 31)).toInt32)) ?_
  rintro _ _ ⟨rfl, rfl⟩
  rw [tapp_tapp]
  have h_3 : (tapp σ t r cap f b n ([b8 (((x : Int32).toUInt32 >>> ((24 : Int32).toUInt32 &&& Int32.toUInt32 31)).toInt32)] ++ [b8 (((x : Int32).toUInt32 >>> ((16 : Int32).toUInt32 &&& Int32.toUInt32 31)).toInt32)])) t = some (oT r (nI b) (nI (n + ([b8 (((x : Int32).toUInt32 >>> ((24 : Int32).toUInt32 &&& Int32.toUInt32 31)).toInt32)] ++ [b8 (((x : Int32).toUInt32 >>> ((16 : Int32).toUInt32 &&& Int32.toUInt32 31)).toInt32)]).length))) := tapp_t
  have h_4 : (tapp σ t r cap f b n ([b8 (((x : Int32).toUInt32 >>> ((24 : Int32).toUInt32 &&& Int32.toUInt32 31)).toInt32)] ++ [b8 (((x : Int32).toUInt32 >>> ((16 : Int32).toUInt32 &&& Int32.toUInt32 31)).toInt32)])) r = some (aB cap (updl f (b + n) ([b8 (((x : Int32).toUInt32 >>> ((24 : Int32).toUInt32 &&& Int32.toUInt32 31)).toInt32)] ++ [b8 (((x : Int32).toUInt32 >>> ((16 : Int32).toUInt32 &&& Int32.toUInt32 31)).toInt32)]))) := tapp_r n_rt
  refine J.aload_nR dX9_addInt_16 rfl ?_
  refine J.iload_n dX9_addInt_17 rfl ?_
  refine J.bipush (v := 8) dX9_addInt_18 (by decide) ?_
  refine J.iushr dX9_addInt_20 rfl ?_
  refine J.callV0 [.int (((x : Int32).toUInt32 >>> ((8 : Int32).toUInt32 &&& Int32.toUInt32 31)).toInt32)] dX9_addInt_21 mdX9_add imX9_add seX9_add kc_10 h_3 lk_X9_28 rfl rfl rfl rfl (c_Text_add1 h_3 h_4 (by simp only [List.length_append, List.length_cons, List.length_nil, tl_len]; omega) hm (((x : Int32).toUInt32 >>> ((8 : Int32).toUInt32 &&& Int32.toUInt32 31)).toInt32)) ?_
  rintro _ _ ⟨rfl, rfl⟩
  rw [tapp_tapp]
  have h_5 : (tapp σ t r cap f b n (([b8 (((x : Int32).toUInt32 >>> ((24 : Int32).toUInt32 &&& Int32.toUInt32 31)).toInt32)] ++ [b8 (((x : Int32).toUInt32 >>> ((16 : Int32).toUInt32 &&& Int32.toUInt32 31)).toInt32)]) ++ [b8 (((x : Int32).toUInt32 >>> ((8 : Int32).toUInt32 &&& Int32.toUInt32 31)).toInt32)])) t = some (oT r (nI b) (nI (n + (([b8 (((x : Int32).toUInt32 >>> ((24 : Int32).toUInt32 &&& Int32.toUInt32 31)).toInt32)] ++ [b8 (((x : Int32).toUInt32 >>> ((16 : Int32).toUInt32 &&& Int32.toUInt32 31)).toInt32)]) ++ [b8 (((x : Int32).toUInt32 >>> ((8 : Int32).toUInt32 &&& Int32.toUInt32 31)).toInt32)]).length))) := tapp_t
  have h_6 : (tapp σ t r cap f b n (([b8 (((x : Int32).toUInt32 >>> ((24 : Int32).toUInt32 &&& Int32.toUInt32 31)).toInt32)] ++ [b8 (((x : Int32).toUInt32 >>> ((16 : Int32).toUInt32 &&& Int32.toUInt32 31)).toInt32)]) ++ [b8 (((x : Int32).toUInt32 >>> ((8 : Int32).toUInt32 &&& Int32.toUInt32 31)).toInt32)])) r = some (aB cap (updl f (b + n) (([b8 (((x : Int32).toUInt32 >>> ((24 : Int32).toUInt32 &&& Int32.toUInt32 31)).toInt32)] ++ [b8 (((x : Int32).toUInt32 >>> ((16 : Int32).toUInt32 &&& Int32.toUInt32 31)).toInt32)]) ++ [b8 (((x : Int32).toUInt32 >>> ((8 : Int32).toUInt32 &&& Int32.toUInt32 31)).toInt32)]))) := tapp_r n_rt
  refine J.aload_nR dX9_addInt_24 rfl ?_
  refine J.iload_n dX9_addInt_25 rfl ?_
  refine J.callV0 [.int x] dX9_addInt_26 mdX9_add imX9_add seX9_add kc_10 h_5 lk_X9_28 rfl rfl rfl rfl (c_Text_add1 h_5 h_6 (by simp only [List.length_append, List.length_cons, List.length_nil, tl_len]; omega) hm x) ?_
  rintro _ _ ⟨rfl, rfl⟩
  rw [tapp_tapp]
  have h_7 : (tapp σ t r cap f b n ((([b8 (((x : Int32).toUInt32 >>> ((24 : Int32).toUInt32 &&& Int32.toUInt32 31)).toInt32)] ++ [b8 (((x : Int32).toUInt32 >>> ((16 : Int32).toUInt32 &&& Int32.toUInt32 31)).toInt32)]) ++ [b8 (((x : Int32).toUInt32 >>> ((8 : Int32).toUInt32 &&& Int32.toUInt32 31)).toInt32)]) ++ [b8 x])) t = some (oT r (nI b) (nI (n + ((([b8 (((x : Int32).toUInt32 >>> ((24 : Int32).toUInt32 &&& Int32.toUInt32 31)).toInt32)] ++ [b8 (((x : Int32).toUInt32 >>> ((16 : Int32).toUInt32 &&& Int32.toUInt32 31)).toInt32)]) ++ [b8 (((x : Int32).toUInt32 >>> ((8 : Int32).toUInt32 &&& Int32.toUInt32 31)).toInt32)]) ++ [b8 x]).length))) := tapp_t
  have h_8 : (tapp σ t r cap f b n ((([b8 (((x : Int32).toUInt32 >>> ((24 : Int32).toUInt32 &&& Int32.toUInt32 31)).toInt32)] ++ [b8 (((x : Int32).toUInt32 >>> ((16 : Int32).toUInt32 &&& Int32.toUInt32 31)).toInt32)]) ++ [b8 (((x : Int32).toUInt32 >>> ((8 : Int32).toUInt32 &&& Int32.toUInt32 31)).toInt32)]) ++ [b8 x])) r = some (aB cap (updl f (b + n) ((([b8 (((x : Int32).toUInt32 >>> ((24 : Int32).toUInt32 &&& Int32.toUInt32 31)).toInt32)] ++ [b8 (((x : Int32).toUInt32 >>> ((16 : Int32).toUInt32 &&& Int32.toUInt32 31)).toInt32)]) ++ [b8 (((x : Int32).toUInt32 >>> ((8 : Int32).toUInt32 &&& Int32.toUInt32 31)).toInt32)]) ++ [b8 x]))) := tapp_r n_rt
  refine J.vret dX9_addInt_29 rfl ?_
  exact ⟨rfl, rfl⟩

theorem l_Text_addPart {Λ : kL} {X : kX} {Q : Option Value → kh → Prop} {σ : kh} {t r b n cap : Nat} {f : Nat → Int32} (ht : σ t = some (oT r (nI b) (nI n))) (hr : σ r = some (aB cap f)) {u r2 b2 n2 cap2 : Nat} {f2 : Nat → Int32} (hu : σ u = some (oT r2 (nI b2) (nI n2))) (hr2 : σ r2 = some (aB cap2 f2)) (hc2 : b2 + n2 ≤ cap2) (hm2 : cap2 ≤ 100000) (n_ut : u ≠ t) (n_r2r : r2 ≠ r) (hby : byt f2 b2 n2) {g m : Nat} (hg : g + m ≤ n2) (hc : b + n + m ≤ cap) (hm : cap ≤ 100000) (hQ : Q none (tapp σ t r cap f b n (tl f2 (b2 + g) m))) : ∀ (k j : Nat), j ≤ m → m + 1 ≤ j + k → J Λ X mX9_addPart 0 0 (jZ Λ X Q 0 0) 0 0 (tapp σ t r cap f b n (tl f2 (b2 + g) j)) 3 [some (.ref t), some (.ref u), some (.int (nI g)), some (.int (nI m)), some (.int (nI (g + j)))] [] := by
  intro k
  induction k with
  | zero => intro j h1 h2; exact absurd h2 (by omega)
  | succ k ih =>
    intro j h1 h2
    have n_rt : r ≠ t := kne_ao hr ht
    have h_t : (tapp σ t r cap f b n (tl f2 (b2 + g) j)) t = some (oT r (nI b) (nI (n + j))) := by have h9 := @tapp_t σ t r cap f b n (tl f2 (b2 + g) j); rw [tl_len] at h9; exact h9
    have h_r : (tapp σ t r cap f b n (tl f2 (b2 + g) j)) r = some (aB cap (updl f (b + n) (tl f2 (b2 + g) j))) := tapp_r n_rt
    have h_u : (tapp σ t r cap f b n (tl f2 (b2 + g) j)) u = some (oT r2 (nI b2) (nI n2)) := tapp_i n_ut (kne_oa hu hr) hu
    have h_r2 : (tapp σ t r cap f b n (tl f2 (b2 + g) j)) r2 = some (aB cap2 f2) := tapp_i (kne_ao hr2 ht) n_r2r hr2
    refine J.iload dX9_addPart_3 rfl ?_
    refine J.iload_n dX9_addPart_5 rfl ?_
    refine J.iload_n dX9_addPart_6 rfl ?_
    refine J.iadd dX9_addPart_7 ?_
    rw [show (nI g) + (nI m) = nI (g + m) from (nI_add g m)]
    refine J.icmp_ge (tgt := 36) dX9_addPart_8 (by decide) (fun c_8 => ?_) (fun c_8 => ?_)
    · skip
      have hle : g + m ≤ g + j := (nI_leI (by omega) (by omega)).mp c_8
      have hjm : j = m := by omega
      subst hjm
      refine J.vret dX9_addPart_36 rfl ?_
      exact hQ
    · skip
      have hlt : g + j < g + m := Nat.not_le.mp fun q => c_8 (nI_le q (by omega))
      refine J.iload dX9_addPart_11 rfl ?_
      refine J.aload_nR dX9_addPart_13 rfl ?_
      refine J.getf dX9_addPart_14 fl_X9_15 h_u rfl ?_
      refine J.icmp_ge (tgt := 36) dX9_addPart_17 (by decide) (fun c_17 => absurd c_17 (nI_ge (show g + j < n2 by omega) (by omega))) (fun c_17 => ?_)
      refine J.aload_nR dX9_addPart_20 rfl ?_
      refine J.aload_nR dX9_addPart_21 rfl ?_
      refine J.iload dX9_addPart_22 rfl ?_
      refine J.callV0 [.int (nI (g + j))] dX9_addPart_24 mdX9_at imX9_at seX9_at kc_10 h_u lk_X9_32 rfl rfl rfl rfl (c_Text_at h_u h_r2 hc2 hm2 (nI (g + j))) ?_
      rintro _ σ9 ⟨rfl, e9⟩
      have e9 := e9.symm; subst e9
      rw [tat_in (show g + j < n2 by omega) (by omega)]
      refine J.callV0 [.int (f2 (b2 + (g + j)) &&& 255)] dX9_addPart_27 mdX9_add imX9_add seX9_add kc_10 h_t lk_X9_28 rfl rfl rfl rfl (c_Text_add1 h_t h_r (by omega) hm (f2 (b2 + (g + j)) &&& 255)) ?_
      rintro _ _ ⟨rfl, rfl⟩
      rw [b8_255 _ (hby (g + j) (by omega)), show tapp (tapp σ t r cap f b n (tl f2 (b2 + g) j)) t r cap (updl f (b + n) (tl f2 (b2 + g) j)) b (n + j) [f2 (b2 + (g + j))] = tapp σ t r cap f b n (tl f2 (b2 + g) (j + 1)) from (by rw [tl_succ, ← tapp_tapp, tl_len, Nat.add_assoc b2 g j])]
      refine J.iinc (v := nI (g + (j + 1))) (L' := [some (.ref t), some (.ref u), some (.int (nI g)), some (.int (nI m)), some (.int (nI (g + (j + 1))))]) dX9_addPart_30 rfl (nI_1 (g + j)) (by decide) rfl rfl ?_
      refine J.goto (tgt := 3) dX9_addPart_33 (by decide) ?_
      exact ih (j + 1) (by omega) (by omega)

theorem c_Text_addPart {Λ : kL} {σ : kh} {t r b n cap : Nat} {f : Nat → Int32} (ht : σ t = some (oT r (nI b) (nI n))) (hr : σ r = some (aB cap f)) {u r2 b2 n2 cap2 : Nat} {f2 : Nat → Int32} (hu : σ u = some (oT r2 (nI b2) (nI n2))) (hr2 : σ r2 = some (aB cap2 f2)) (hc2 : b2 + n2 ≤ cap2) (hm2 : cap2 ≤ 100000) (n_ut : u ≠ t) (n_r2r : r2 ≠ r) (hby : byt f2 b2 n2) {g m : Nat} (hg : g + m ≤ n2) (hc : b + n + m ≤ cap) (hm : cap ≤ 100000) : jCt Λ mX9_addPart 0 0 [.ref t, .ref u, .int (nI g), .int (nI m)] σ (fun v σ' => v = none ∧ σ' = tapp σ t r cap f b n (tl f2 (b2 + g) m)) := by
  refine jCt.of pn_X9 [some (.ref t), some (.ref u), some (.int (nI g)), some (.int (nI m)), none] rfl (Nat.le_of_ble_eq_true rfl) fun X => ?_
  refine J.iload_n dX9_addPart_0 rfl ?_
  refine J.istore (L' := [some (.ref t), some (.ref u), some (.int (nI g)), some (.int (nI m)), some (.int (nI g))]) dX9_addPart_1 (by decide) rfl rfl ?_
  have h0 := l_Text_addPart (Λ := Λ) (X := X) ht hr hu hr2 hc2 hm2 n_ut n_r2r hby hg hc hm (Q := fun v σ' => v = none ∧ σ' = tapp σ t r cap f b n (tl f2 (b2 + g) m)) ⟨rfl, rfl⟩ (m + 1) 0 (Nat.zero_le _) (by omega)
  rw [tl_0, tapp_nil ht hr] at h0
  exact h0
