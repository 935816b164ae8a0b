/-! Text: its constructors, copyOfPart -/

theorem c_Text_init {Λ : kL} {σ : kh} {t : Nat} (ht : σ t = some (.inr (10, [.null, .int 0, .int 0]))) {x : Int32} {m : Nat} (hx : (if x < 0 then 0 else x) = nI m) (hm : m ≤ 100000) : jCt Λ mX9_init 1 m [.ref t, .int x] σ (fun v σ' => ∃ q, kB Λ ≤ q ∧ (∀ a c, σ a = some c → a < q) ∧ v = none ∧ σ' = kup (kup σ q (aB m (fun _ => 0))) t (oT q 0 0)) := by
  refine jCt.of pn_X9 [some (.ref t), some (.int x)] rfl (Nat.le_of_ble_eq_true rfl) fun X => ?_
  refine J.aload_nR dX9_init_0 rfl ?_
  refine J.objInit dX9_init_1 lo_X9_3 oi_im oi_co rfl rfl ?_
  refine J.aload_nR dX9_init_4 rfl ?_
  refine J.iconst (v := 0) dX9_init_5 (by decide) ?_
  refine J.putf (fs' := [.null, .int 0, .int 0]) dX9_init_6 fp_X9_9 (fun h => by cases h) ht rfl rfl (Nat.le_of_ble_eq_true rfl) rfl ?_
  have h_1 : (kup σ t (.inr (10, [.null, .int 0, .int 0]))) t = some (.inr (10, [.null, .int 0, .int 0])) := kup_s _ _ _
  refine J.aload_nR dX9_init_9 rfl ?_
  refine J.iconst (v := 0) dX9_init_10 (by decide) ?_
  refine J.putf (fs' := [.null, .int 0, .int 0]) dX9_init_11 fp_X9_15 (fun h => by cases h) h_1 rfl rfl (Nat.le_of_ble_eq_true rfl) rfl ?_
  have h_2 : (kup (kup σ t (.inr (10, [.null, .int 0, .int 0]))) t (.inr (10, [.null, .int 0, .int 0]))) t = some (.inr (10, [.null, .int 0, .int 0])) := kup_s _ _ _
  refine J.aload_nR dX9_init_14 rfl ?_
  refine J.iload_n dX9_init_15 rfl ?_
  refine J.iconst (v := 0) dX9_init_16 (by decide) ?_
  refine J.mmax dX9_init_17 xmax_X9_18 rfl rfl ?_
  refine J.less (bc' := 0 + 1) (bs' := 0 + m) (by omega) (by omega) ?_
  refine J.newB (n := m) dX9_init_20 ay_0 hx (by omega) (fun q_3 hb_4 hl_5 => ?_)
  have h_6 : (kup (kup (kup σ t (.inr (10, [.null, .int 0, .int 0]))) t (.inr (10, [.null, .int 0, .int 0]))) q_3 (aB m (fun _ => 0))) t = some (.inr (10, [.null, .int 0, .int 0])) := kup_i (Nat.ne_of_lt (hl_5 _ _ h_2)) h_2
  have h_7 : (kup (kup (kup σ t (.inr (10, [.null, .int 0, .int 0]))) t (.inr (10, [.null, .int 0, .int 0]))) q_3 (aB m (fun _ => 0))) q_3 = some (aB m (fun _ => 0)) := kup_s _ _ _
  refine J.putf (fs' := [.ref q_3, .int 0, .int 0]) dX9_init_22 fp_X9_24 (fun _ => rfl) h_6 rfl rfl (Nat.le_of_ble_eq_true rfl) rfl ?_
  have h_8 : (kup (kup (kup (kup σ t (.inr (10, [.null, .int 0, .int 0]))) t (.inr (10, [.null, .int 0, .int 0]))) q_3 (aB m (fun _ => 0))) t (.inr (10, [.ref q_3, .int 0, .int 0]))) t = some (.inr (10, [.ref q_3, .int 0, .int 0])) := kup_s _ _ _
  have h_9 : (kup (kup (kup (kup σ t (.inr (10, [.null, .int 0, .int 0]))) t (.inr (10, [.null, .int 0, .int 0]))) q_3 (aB m (fun _ => 0))) t (.inr (10, [.ref q_3, .int 0, .int 0]))) q_3 = some (aB m (fun _ => 0)) := kup_i (Ne.symm (Nat.ne_of_lt (hl_5 _ _ h_2))) h_7
  refine J.vret dX9_init_25 rfl ?_
  refine ⟨q_3, hb_4, fun a9 c9 h9 => ?_, rfl, ?_⟩
  · by_cases e : a9 = t
    · rw [e]; exact hl_5 t _ (kup_s _ _ _)
    · exact hl_5 a9 c9 (kup_i e (kup_i e h9))
  · funext z
    by_cases e : z = t
    · rw [e, kup_s, kup_s]
    · rw [kup_n _ _ e, kup_n _ _ e]
      by_cases e2 : z = q_3
      · rw [e2, kup_s, kup_s]
      · rw [kup_n _ _ e2, kup_n _ _ e2, kup_n _ _ e, kup_n _ _ e]

theorem c_Text_initS {Λ : kL} {σ : kh} {t : Nat} (ht : σ t = some (.inr (10, [.null, .int 0, .int 0]))) {u r2 : Nat} {b2 n2 : Int32} (hu : σ u = some (oT r2 b2 n2)) (n_ut : u ≠ t) : jCt Λ mX9_init_ 0 0 [.ref t, .ref u] σ (fun v σ' => v = none ∧ σ' = kup σ t (oT r2 0 0)) := by
  refine jCt.of pn_X9 [some (.ref t), some (.ref u)] rfl (Nat.le_of_ble_eq_true rfl) fun X => ?_
  refine J.aload_nR dX9_init__0 rfl ?_
  refine J.objInit dX9_init__1 lo_X9_3 oi_im oi_co rfl rfl ?_
  refine J.aload_nR dX9_init__4 rfl ?_
  refine J.iconst (v := 0) dX9_init__5 (by decide) ?_
  refine J.putf (fs' := [.null, .int 0, .int 0]) dX9_init__6 fp_X9_9 (fun h => by cases h) ht rfl rfl (Nat.le_of_ble_eq_true rfl) rfl ?_
  have h_1 : (kup σ t (.inr (10, [.null, .int 0, .int 0]))) t = some (.inr (10, [.null, .int 0, .int 0])) := kup_s _ _ _
  have h_2 : (kup σ t (.inr (10, [.null, .int 0, .int 0]))) u = some (.inr (10, [.ref r2, .int b2, .int n2])) := kup_i n_ut hu
  refine J.aload_nR dX9_init__9 rfl ?_
  refine J.iconst (v := 0) dX9_init__10 (by decide) ?_
  refine J.putf (fs' := [.null, .int 0, .int 0]) dX9_init__11 fp_X9_15 (fun h => by cases h) h_1 rfl rfl (Nat.le_of_ble_eq_true rfl) rfl ?_
  have h_3 : (kup (kup σ t (.inr (10, [.null, .int 0, .int 0]))) t (.inr (10, [.null, .int 0, .int 0]))) t = some (.inr (10, [.null, .int 0, .int 0])) := kup_s _ _ _
  have h_4 : (kup (kup σ t (.inr (10, [.null, .int 0, .int 0]))) t (.inr (10, [.null, .int 0, .int 0]))) u = some (.inr (10, [.ref r2, .int b2, .int n2])) := kup_i n_ut h_2
  refine J.aload_nR dX9_init__14 rfl ?_
  refine J.aload_nR dX9_init__15 rfl ?_
  refine J.getf dX9_init__16 fl_X9_24 h_4 rfl ?_
  refine J.putf (fs' := [.ref r2, .int 0, .int 0]) dX9_init__19 fp_X9_24 (fun _ => rfl) h_3 rfl rfl (Nat.le_of_ble_eq_true rfl) rfl ?_
  have h_5 : (kup (kup (kup σ t (.inr (10, [.null, .int 0, .int 0]))) t (.inr (10, [.null, .int 0, .int 0]))) t (.inr (10, [.ref r2, .int 0, .int 0]))) t = some (.inr (10, [.ref r2, .int 0, .int 0])) := kup_s _ _ _
  have h_6 : (kup (kup (kup σ t (.inr (10, [.null, .int 0, .int 0]))) t (.inr (10, [.null, .int 0, .int 0]))) t (.inr (10, [.ref r2, .int 0, .int 0]))) u = some (.inr (10, [.ref r2, .int b2, .int n2])) := kup_i n_ut h_4
  refine J.vret dX9_init__22 rfl ?_
  exact ⟨rfl, by rw [kup_up, kup_up]⟩

theorem c_Text_copyOfPart {Λ : kL} {σ : kh} {t r b n cap : Nat} {f : Nat → Int32} (ht : σ t = some (oT r (nI b) (nI n))) (hr : σ r = some (aB cap f)) (hc : b + n ≤ cap) (hm : cap ≤ 100000) (hby : byt f b n) {g m : Nat} (hg : g + m ≤ n) : jCt Λ mX9_copyOfPart 2 (m + 3) [.ref t, .int (nI g), .int (nI m)] σ (fun v σ' => ∃ q1 q, kB Λ ≤ q1 ∧ (∀ a c, σ a = some c → a < q1) ∧ q1 < q ∧ v = some (.ref q1) ∧ σ' = kup (kup σ q (aB m (updl (fun _ => 0) 0 (tl f (b + g) m)))) q1 (oT q (nI 0) (nI m))) := by
  refine jCt.of pn_X9 [some (.ref t), some (.int (nI g)), some (.int (nI m)), none] rfl (Nat.le_of_ble_eq_true rfl) fun X => ?_
  refine J.less (bc' := 1 + 1) (bs' := ((m + 3) - 3) + 3) (by omega) (by omega) ?_
  refine J.new dX9_copyOfPart_0 nw_X9_10 (fun q_1 hb_2 hl_3 => ?_)
  have h_4 : (kup σ q_1 (.inr (10, [.null, .int 0, .int 0]))) t = some (.inr (10, [.ref r, .int (nI b), .int (nI n)])) := kup_i (Nat.ne_of_lt (hl_3 _ _ ht)) ht
  have h_5 : (kup σ q_1 (.inr (10, [.null, .int 0, .int 0]))) r = some (aB cap f) := kup_i (Nat.ne_of_lt (hl_3 _ _ hr)) hr
  have h_6 : (kup σ q_1 (.inr (10, [.null, .int 0, .int 0]))) q_1 = some (.inr (10, [.null, .int 0, .int 0])) := kup_s _ _ _
  refine J.dup dX9_copyOfPart_3 rfl ?_
  refine J.iload_n dX9_copyOfPart_4 rfl ?_
  refine J.aload_nR dX9_copyOfPart_5 rfl ?_
  refine J.getf dX9_copyOfPart_6 fl_X9_15 h_4 rfl ?_
  refine J.mmin dX9_copyOfPart_9 xmin_X9_57 rfl rfl ?_
  rw [show (if nI n < nI m then nI n else nI m) = nI m from if_neg (nI_nlt (by omega) (by omega))]
  refine J.less (bc' := 0 + 1) (bs' := (((m + 3) - 3) - m) + m) (by omega) (by omega) ?_
  refine J.callI [.int (nI m)] dX9_copyOfPart_12 mdX9_init ⟨rfl, rfl⟩ imX9_init lk_X9_60 rfl rfl rfl rfl (c_Text_init h_6 (x := nI m) (m := m) (if_neg (nI_pos (by omega))) (by omega)) ?_
  rintro _ _ ⟨q, g1, g2, rfl, rfl⟩
  have l_1 : q_1 < q := g2 _ _ h_6
  have n_q1 : q ≠ q_1 := Nat.ne_of_gt l_1
  have l_t : t < q_1 := hl_3 _ _ ht
  have l_r : r < q_1 := hl_3 _ _ hr
  have k_1 : (kup (kup (kup σ q_1 (.inr (10, [.null, .int 0, .int 0]))) q (aB m (fun _ => 0))) q_1 (oT q 0 0)) q_1 = some (oT q (nI 0) (nI 0)) := kup_s _ _ _
  have k_q : (kup (kup (kup σ q_1 (.inr (10, [.null, .int 0, .int 0]))) q (aB m (fun _ => 0))) q_1 (oT q 0 0)) q = some (aB m (fun _ => 0)) := kup_i n_q1 (kup_s _ _ _)
  have k_t : (kup (kup (kup σ q_1 (.inr (10, [.null, .int 0, .int 0]))) q (aB m (fun _ => 0))) q_1 (oT q 0 0)) t = some (oT r (nI b) (nI n)) := kup_i (by omega) (kup_i (by omega) (kup_i (by omega) ht))
  have k_r : (kup (kup (kup σ q_1 (.inr (10, [.null, .int 0, .int 0]))) q (aB m (fun _ => 0))) q_1 (oT q 0 0)) r = some (aB cap f) := kup_i (by omega) (kup_i (by omega) (kup_i (by omega) hr))
  refine J.astore_n (L' := [some (.ref t), some (.int (nI g)), some (.int (nI m)), some (.ref q_1)]) dX9_copyOfPart_15 (by decide) rfl rfl ?_
  refine J.aload_nR dX9_copyOfPart_16 rfl ?_
  refine J.aload_nR dX9_copyOfPart_17 rfl ?_
  refine J.iload_n dX9_copyOfPart_18 rfl ?_
  refine J.iload_n dX9_copyOfPart_19 rfl ?_
  refine J.callV0 [.ref t, .int (nI g), .int (nI m)] dX9_copyOfPart_20 mdX9_addPart imX9_addPart seX9_addPart kc_10 k_1 lk_X9_62 rfl rfl rfl rfl (c_Text_addPart k_1 k_q k_t k_r hc hm (by omega) (by omega) hby hg (by omega) (by omega)) ?_
  rintro _ _ ⟨rfl, rfl⟩
  refine J.aload_nR dX9_copyOfPart_23 rfl ?_
  refine J.aret (r := some q_1) dX9_copyOfPart_24 rfl (by first | exact Or.inl ⟨_, rfl⟩ | exact Or.inr ⟨_, rfl⟩) ?_
  refine ⟨q_1, q, hb_2, hl_3, l_1, rfl, ?_⟩
  unfold tapp
  rw [tl_len]
  funext z
  by_cases e : z = q_1
  · rw [e, kup_s, kup_s, Nat.zero_add]
  · rw [kup_n _ _ e, kup_n _ _ e]
    by_cases e2 : z = q
    · rw [e2, kup_s, kup_s]
    · rw [kup_n _ _ e2, kup_n _ _ e2, kup_n _ _ e, kup_n _ _ e2, kup_n _ _ e]
