/-! what a Text shows -/
section CS
variable {Λ : kL} {X : kX} {μ : kMi} {mc ms : Nat} {S : Nat → Nat} {Q : Option Value → (Nat → kc) → kh → Prop} {bc bs : Nat} {G : Nat → kc} {D : kh} {pc : Nat} {L : List (Option Value)} {st : List Value}
theorem C.castS {ix k9 ci N : Nat} {fs : List Value} {C9 : String} {T : u_T} {ty : Nat → FieldType} (hd : decode μ.2.1 pc = .ok (.checkcast ix, 3)) (hl : Cond.classLink μ.1.cls ix C9 ∈ lw_tbl) (hca : Cond.castable C9 C9 ∈ lw_tbl) (hcl : kCls ci C9 T N ty) (hk : Nat.blt k9 51 = true) (h : G k9 = .inr (ci, fs)) (k : C Λ X μ mc ms S Q bc bs G D (pc + 3) L (.ref (S k9) :: st)) : C Λ X μ mc ms S Q bc bs G D pc L (.ref (S k9) :: st) := fun hS D0 σ0 σ h1 h2 => J.cast hd hl hca hcl (h2.at hk h) (k hS D0 σ0 σ h1 h2)
theorem C.castD {ix a ci N : Nat} {fs : List Value} {C9 : String} {T : u_T} {ty : Nat → FieldType} (hd : decode μ.2.1 pc = .ok (.checkcast ix, 3)) (hl : Cond.classLink μ.1.cls ix C9 ∈ lw_tbl) (hca : Cond.castable C9 C9 ∈ lw_tbl) (hcl : kCls ci C9 T N ty) (h : D a = some (.inr (ci, fs))) (k : C Λ X μ mc ms S Q bc bs G D (pc + 3) L (.ref a :: st)) : C Λ X μ mc ms S Q bc bs G D pc L (.ref a :: st) := fun hS D0 σ0 σ h1 h2 => J.cast hd hl hca hcl (h2.2.1 _ _ h) (k hS D0 σ0 σ h1 h2)
end CS
theorem kEl.mono {D σ : kh} {ci : Nat} {l : List Value} (h : kEl D ci l) (hd : ∀ q c, D q = some c → σ q = some c) : kEl σ ci l := fun v hv => by
  obtain ⟨y, fs, h1, h2⟩ := h v hv
  exact ⟨y, fs, h1, hd _ _ h2⟩
theorem cCt.d1 {Λ : kL} {μ : kMi} {mc ms : Nat} {S : Nat → Nat} {av : List Value} {G : Nat → kc} {D : kh} {R : Option Value → Prop} {q : Nat} {c d : kc} (hq : D q = some d) (h : ∀ σ, cHas σ S G D → jCt Λ μ mc ms av σ (fun r σ' => R r ∧ σ' = kup σ q c)) : cCt Λ μ mc ms S av G D (fun r G' D' => R r ∧ G' = G ∧ D' = kup D q c) := fun σ hσ => (h σ hσ).mono fun r σ' ⟨h1, h2⟩ => by
  subst h2
  exact ⟨G, _, ⟨h1, rfl, rfl⟩, hσ.putD hq c, cFr.putD hq⟩
def dm (D D' : kh) : Prop := ∀ q c, D q = some c → D' q = some c
theorem dm.rf {D : kh} : dm D D := fun _ _ h => h
theorem dm.tr {D D' D'' : kh} (h : dm D D') (h' : dm D' D'') : dm D D'' := fun q c hq => h' q c (h q c hq)
theorem dm.mk {D : kh} {q : Nat} {c : kc} (h : ∀ a c, D a = some c → a < q) : dm D (kup D q c) := fun a _ ha => kup_i (Nat.ne_of_lt (h _ _ ha)) ha
def tx (σ : kh) (t : Nat) (l : List Int32) : Prop := ∃ (r b cap : Nat) (f : Nat → Int32), σ t = some (oT r (nI b) (nI l.length)) ∧ σ r = some (aB cap f) ∧ b + l.length ≤ cap ∧ cap ≤ 100000 ∧ tl f b l.length = l ∧ bts l
theorem tx.mono {D D' : kh} {t : Nat} {l : List Int32} (h : tx D t l) (hd : dm D D') : tx D' t l := by
  obtain ⟨r, b, cap, f, h1, h2, h3⟩ := h
  exact ⟨r, b, cap, f, hd _ _ h1, hd _ _ h2, h3⟩
theorem bts_byt {f : Nat → Int32} {b : Nat} {l : List Int32} (h : tl f b l.length = l) (hb : bts l) : byt f b l.length := byt_tl h hb
theorem tl_dt {f : Nat → Int32} {b g m : Nat} {l : List Int32} (h : tl f b l.length = l) (hg : g + m ≤ l.length) : tl f (b + g) m = (l.drop g).take m := by
  have e : ((l.drop g).take m).length = m := dt_len hg
  have h9 : tl f (b + g) ((l.drop g).take m).length = (l.drop g).take m := tl_bs.mpr fun i hi => by
    rw [e] at hi
    rw [dt_at hi hg, Nat.add_assoc]
    exact tl_bs.mp h (g + i) (by omega)
  rwa [e] at h9
theorem byt_n (x : Int32) (h : b8 x = x) : ∃ j, j < 256 ∧ x = b8 (nI j) ∧ x &&& 255 = nI j := by
  obtain ⟨j, hj, e⟩ := b255 x
  refine ⟨j, hj, ?_, e⟩
  rw [← e]
  exact (b8_255 x h).symm
theorem vis_n : ∀ j, j < 256 → visb (nI j) = visb (b8 (nI j)) := by decide +kernel
theorem unr_n : ∀ j, j < 256 → unres (nI j) = unres (b8 (nI j)) := by decide +kernel
def eqL : List Nat := [0, 32, 34, 35, 37, 38, 46, 61, 63, 92, 126]
theorem eq_n : ∀ c ∈ eqL, ∀ j, j < 256 → decide (nI j = nI c) = decide (b8 (nI j) = nI c) := by decide +kernel
theorem vis255 {x : Int32} (h : b8 x = x) : visb (x &&& 255) = visb x := by
  obtain ⟨j, hj, e1, e2⟩ := byt_n x h
  rw [e2, e1]; exact vis_n j hj
theorem unr255 {x : Int32} (h : b8 x = x) : unres (x &&& 255) = unres x := by
  obtain ⟨j, hj, e1, e2⟩ := byt_n x h
  rw [e2, e1]; exact unr_n j hj
theorem eq255 {x : Int32} (h : b8 x = x) {c : Nat} (hc : c ∈ eqL) : decide (x &&& 255 = nI c) = decide (x = nI c) := by
  obtain ⟨j, hj, e1, e2⟩ := byt_n x h
  rw [e2, e1]; exact eq_n c hc j hj
theorem all_c {l : List Int32} {p q : Int32 → Bool} (h : ∀ x ∈ l, p x = q x) : l.all p = l.all q := by
  induction l with
  | nil => rfl
  | cons a l ih => rw [List.all_cons, List.all_cons, h a (List.mem_cons_self ..), ih fun x hx => h x (List.mem_cons_of_mem _ hx)]
theorem any_c {l : List Int32} {p q : Int32 → Bool} (h : ∀ x ∈ l, p x = q x) : l.any p = l.any q := by
  induction l with
  | nil => rfl
  | cons a l ih => rw [List.any_cons, List.any_cons, h a (List.mem_cons_self ..), ih fun x hx => h x (List.mem_cons_of_mem _ hx)]
section VW
variable {Λ : kL} {σ : kh} {t u : Nat} {l k : List Int32}
theorem v_size (h : tx σ t l) : jCt Λ mX9_size 0 0 [.ref t] σ (fun v σ' => v = some (.int (nI l.length)) ∧ σ' = σ) := by
  obtain ⟨r, b, cap, f, h1, -⟩ := h
  exact c_Text_size h1
theorem v_at (h : tx σ t l) {j : Nat} (hj : j < l.length) : jCt Λ mX9_at 0 0 [.ref t, .int (nI j)] σ (fun v σ' => v = some (.int (l.getD j 0 &&& 255)) ∧ σ' = σ) := by
  obtain ⟨r, b, cap, f, h1, h2, h3, h4, h5, h6⟩ := h
  have := c_Text_atn (Λ := Λ) h1 h2 h3 h4 hj
  rw [tl_bs.mp h5 j hj] at this
  exact this
theorem v_same (h : tx σ t l) (h' : tx σ u k) : jCt Λ mX9_same 0 0 [.ref t, .ref u] σ (fun v σ' => v = some (.int (bI (decide (l = k)))) ∧ σ' = σ) := by
  obtain ⟨r, b, cap, f, h1, h2, h3, h4, h5, h6⟩ := h
  obtain ⟨r', b', cap', f', k1, k2, k3, k4, k5, k6⟩ := h'
  have := c_Text_same (Λ := Λ) h1 h2 h3 h4 (bts_byt h5 h6) k1 k2 k3 k4 (bts_byt k5 k6)
  rw [h5, k5] at this
  exact this
theorem v_isPart (h : tx σ t l) (h' : tx σ u k) {g m : Nat} (hg : g + m ≤ l.length) : jCt Λ mX9_isPart 0 0 [.ref t, .int (nI g), .int (nI m), .ref u] σ (fun v σ' => v = some (.int (bI (decide ((l.drop g).take m = k)))) ∧ σ' = σ) := by
  obtain ⟨r, b, cap, f, h1, h2, h3, h4, h5, h6⟩ := h
  obtain ⟨r', b', cap', f', k1, k2, k3, k4, k5, k6⟩ := h'
  have := c_Text_isPart (Λ := Λ) h1 h2 h3 h4 (bts_byt h5 h6) k1 k2 k3 k4 (bts_byt k5 k6) hg
  rw [tl_dt h5 hg, k5] at this
  exact this
theorem v_spells (h : tx σ t l) {a : Nat} {bs : List Int32} (hs : kStr Λ a bs) (hbs : byt (fun i => bs.getD i 0) 0 bs.length) : jCt Λ mX9_spells 0 0 [.ref t, .ref a] σ (fun v σ' => v = some (.int (bI (decide (l = bs)))) ∧ σ' = σ) := by
  obtain ⟨r, b, cap, f, h1, h2, h3, h4, h5, h6⟩ := h
  have := c_Text_spells (Λ := Λ) h1 h2 h3 h4 (bts_byt h5 h6) hs hbs
  rw [h5] at this
  exact this
theorem v_isVisible (h : tx σ t l) {m : Nat} (hm : m ≤ 100000) : jCt Λ mX9_isVisible 0 0 [.ref t, .int (nI m)] σ (fun v σ' => v = some (.int (bI (decide (1 ≤ l.length ∧ l.length ≤ m) && l.all visb))) ∧ σ' = σ) := by
  obtain ⟨r, b, cap, f, h1, h2, h3, h4, h5, h6⟩ := h
  have := c_Text_isVisible (Λ := Λ) h1 h2 h3 h4 hm
  rw [h5, all_c (l := l) (q := visb) fun x hx => vis255 (h6 x hx)] at this
  exact this
theorem v_isUnreservedAll (h : tx σ t l) : jCt Λ mX9_isUnreservedAll 0 0 [.ref t] σ (fun v σ' => v = some (.int (bI (l.all unres))) ∧ σ' = σ) := by
  obtain ⟨r, b, cap, f, h1, h2, h3, h4, h5, h6⟩ := h
  have := c_Text_isUnreservedAll (Λ := Λ) h1 h2 h3 h4
  rw [h5, all_c (l := l) (q := unres) fun x hx => unr255 (h6 x hx)] at this
  exact this
theorem v_has (h : tx σ t l) {c : Nat} (hc : c ∈ eqL) : jCt Λ mX9_has 0 0 [.ref t, .int (nI c)] σ (fun v σ' => v = some (.int (bI (l.any fun x => decide (x = nI c)))) ∧ σ' = σ) := by
  obtain ⟨r, b, cap, f, h1, h2, h3, h4, h5, h6⟩ := h
  have := c_Text_has (Λ := Λ) h1 h2 h3 h4 (nI c)
  rw [h5, hasb, any_c (l := l) (q := fun x => decide (x = nI c)) fun x hx => eq255 (h6 x hx) hc] at this
  exact this
theorem v_indexOf (h : tx σ t l) {c : Nat} (hc : c ∈ eqL) {i e : Nat} (hi : i ≤ e) (he : e ≤ l.length) : jCt Λ mX9_indexOf 0 0 [.ref t, .int (nI c), .int (nI i), .int (nI e)] σ (fun v σ' => v = some (.int (nI (atI (gD l) (nI c) i e))) ∧ σ' = σ) := by
  obtain ⟨r, b, cap, f, h1, h2, h3, h4, h5, h6⟩ := h
  have := c_Text_indexOf (Λ := Λ) h1 h2 h3 h4 (nI c) hi (show e ≤ 100000 by omega)
  have e9 : fsti (fun j => decide (tat f b l.length (nI j) = nI c)) (e - i) i = atI (gD l) (nI c) i e := by
    rw [atI]
    refine fsti_congr fun j a1 a2 => ?_
    rw [tat_in (by omega) (by omega), tl_bs.mp h5 j (by omega)]
    exact eq255 (bts_at h6 (by omega)) hc
  rw [e9] at this
  exact this
end VW
/-- a Text of the skeleton whose row starts it: k the Text, j the row -/
def tO (S : Nat → Nat) (G : Nat → kc) (k j cap : Nat) (v : List Int32) : Prop := ∃ f, G k = oT (S j) (nI 0) (nI v.length) ∧ G j = aB cap f ∧ v.length ≤ cap ∧ cap ≤ 100000 ∧ tl f 0 v.length = v ∧ bts v
/-- a Text of the skeleton that shows a part of a row -/
def tS (S : Nat → Nat) (G : Nat → kc) (k j cap : Nat) (v : List Int32) : Prop := ∃ b f, G k = oT (S j) (nI b) (nI v.length) ∧ G j = aB cap f ∧ b + v.length ≤ cap ∧ cap ≤ 100000 ∧ tl f b v.length = v ∧ bts v
theorem tO.s {S : Nat → Nat} {G : Nat → kc} {k j cap : Nat} {v : List Int32} (h : tO S G k j cap v) : tS S G k j cap v := by
  obtain ⟨f, h1, h2, h3, h4, h5, h6⟩ := h
  exact ⟨0, f, h1, h2, by omega, h4, h5, h6⟩
theorem tS.tx {S : Nat → Nat} {G : Nat → kc} {D σ : kh} {k j cap : Nat} {v : List Int32} (h : tS S G k j cap v) (h9 : cHas σ S G D) (hk : Nat.blt k 51 = true) (hj : Nat.blt j 51 = true) : tx σ (S k) v := by
  obtain ⟨b, f, h1, h2, h3, h4, h5, h6⟩ := h
  exact ⟨S j, b, cap, f, h9.at hk h1, h9.at hj h2, h3, h4, h5, h6⟩
def gW (S : Nat → Nat) (G : Nat → kc) (k j cap : Nat) (f : Nat → Int32) (n : Nat) : Nat → kc := updG (updG G j (aB cap f)) k (oT (S j) (nI 0) (nI n))
theorem gW_gW (S : Nat → Nat) (G : Nat → kc) {k j : Nat} (cap : Nat) (f g : Nat → Int32) (n m : Nat) (h : k ≠ j) : gW S (gW S G k j cap f n) k j cap g m = gW S G k j cap g m := by
  rw [gW, gW, gW, updG_com _ _ _ h, updG_up, updG_up, updG_com _ _ _ (fun q => h q.symm), updG_com _ _ _ h]
theorem tO.gW {S : Nat → Nat} {G : Nat → kc} {k j cap : Nat} {f : Nat → Int32} {v : List Int32} (hkj : k ≠ j) (hv : v.length ≤ cap) (hc : cap ≤ 100000) (ht : tl f 0 v.length = v) (hb : bts v) : tO S (gW S G k j cap f v.length) k j cap v := ⟨f, updG_s _ _ _, (updG_n _ _ (fun q => hkj q.symm)).trans (updG_s _ _ _), hv, hc, ht, hb⟩
theorem bts_cdl (a n : Nat) : bts (cdl a n) := by
  induction n with
  | zero => exact bts_nil
  | succ n ih =>
    rw [cdl]
    refine bts_app ?_ ih
    by_cases h : 10 ^ n ≤ a
    · rw [if_pos h]; intro y hy; rw [List.mem_singleton.mp hy, b8_b8]
    · rw [if_neg h]; exact bts_nil
theorem bts_escb (x : Int32) : bts (escb x) := by
  rw [escb]
  by_cases h : unres (x &&& 255) = true
  · rw [if_pos h]; intro y hy; rw [List.mem_singleton.mp hy, b8_b8]
  · rw [if_neg h]
    intro y hy
    rcases List.mem_cons.mp hy with q | q
    · rw [q]; decide
    · rcases List.mem_cons.mp q with q | q
      · rw [q, b8_b8]
      · rw [List.mem_singleton.mp q, b8_b8]
theorem bts_esc (v : List Int32) : bts (v.flatMap escb) := fun x hx => by
  obtain ⟨y, -, hy⟩ := List.mem_flatMap.mp hx
  exact bts_escb y x hy
section AP
variable {Λ : kL} {S : Nat → Nat} {G : Nat → kc} {D : kh} {k j cap : Nat} {v w : List Int32}
/-- what an adding call does to such a Text -/
def apQ (S : Nat → Nat) (G : Nat → kc) (D : kh) (k j cap : Nat) (x : List Int32) : Option Value → (Nat → kc) → kh → Prop := fun r G' D' => ∃ f, tl f 0 x.length = x ∧ bts x ∧ r = none ∧ G' = gW S G k j cap f x.length ∧ D' = D
theorem cCt.ap {μ : kMi} {av : List Value} (hS : cInj S) (h : tO S G k j cap v) (hk : k < 51) (hj : j < 51) (hw : bts w) (hct : ∀ (f : Nat → Int32), G k = oT (S j) (nI 0) (nI v.length) → G j = aB cap f → ∀ σ, cHas σ S G D → jCt Λ μ 0 0 av σ (fun r σ' => r = none ∧ σ' = tapp σ (S k) (S j) cap f 0 v.length w)) : cCt Λ μ 0 0 S av G D (apQ S G D k j cap (v ++ w)) := by
  obtain ⟨f, h1, h2, h3, h4, h5, h6⟩ := h
  refine (cCt.w2 (R := fun r => r = none) (i := k) (j := j) (d := aB cap (updl f (0 + v.length) w)) (c := oT (S j) (nI 0) (nI (v.length + w.length))) hS hk hj fun σ h9 => hct f h1 h2 σ h9).mono fun r G' D' ⟨e1, e2, e3⟩ => ?_
  subst e1; subst e2; subst e3
  refine ⟨updl f v.length w, tl_upd h5, bts_app h6 hw, rfl, ?_, rfl⟩
  rw [gW, Nat.zero_add, List.length_append]
theorem o_add (hS : cInj S) (h : tO S G k j cap v) (hk : Nat.blt k 51 = true) (hj : Nat.blt j 51 = true) (hc : v.length < cap) (x : Int32) : cCt Λ mX9_add 0 0 S [.ref (S k), .int x] G D (apQ S G D k j cap (v ++ [b8 x])) := by
  have hm := h
  obtain ⟨_, _, _, _, hm, _⟩ := hm
  exact cCt.ap hS h (Nat.le_of_ble_eq_true hk) (Nat.le_of_ble_eq_true hj) (fun y hy => by rw [List.mem_singleton.mp hy, b8_b8]) fun f h1 h2 σ h9 => c_Text_add1 (h9.at hk h1) (h9.at hj h2) (by omega) hm x
theorem o_addWord (hS : cInj S) (h : tO S G k j cap v) (hk : Nat.blt k 51 = true) (hj : Nat.blt j 51 = true) {a : Nat} {bs : List Int32} (hs : kStr Λ a bs) (hbs : byt (fun i => bs.getD i 0) 0 bs.length) (hc : v.length + bs.length ≤ cap) : cCt Λ mX9_addWord 0 0 S [.ref (S k), .ref a] G D (apQ S G D k j cap (v ++ bs)) := by
  have hm := h
  obtain ⟨_, _, _, _, hm, _⟩ := hm
  have hbb : bts bs := fun y hy => by
    obtain ⟨i, hi, e⟩ := List.mem_iff_getElem.mp hy
    have h9 : b8 (bs.getD i 0) = bs.getD i 0 := byt_at (f := fun i => bs.getD i 0) hbs hi
    rw [List.getD_eq_getElem?_getD, List.getElem?_eq_getElem hi] at h9
    rw [← e]
    exact h9
  refine cCt.ap (w := bs) hS h (Nat.le_of_ble_eq_true hk) (Nat.le_of_ble_eq_true hj) hbb fun f h1 h2 σ h9 => ?_
  have hc9 : 0 + v.length + bs.length ≤ cap := by rw [Nat.zero_add]; exact hc
  have h8 := c_Text_addWord (Λ := Λ) (h9.at hk h1) (h9.at hj h2) hs hbs hc9 hm
  exact h8
theorem o_addNumber (hS : cInj S) (h : tO S G k j cap v) (hk : Nat.blt k 51 = true) (hj : Nat.blt j 51 = true) {a : Nat} (ha : a ≤ 1000000) (hc : v.length + 7 ≤ cap) : cCt Λ mX9_addNumber 0 0 S [.ref (S k), .int (nI a)] G D (apQ S G D k j cap (v ++ cdl a 7)) := by
  have hm := h
  obtain ⟨_, _, _, _, hm, _⟩ := hm
  exact cCt.ap hS h (Nat.le_of_ble_eq_true hk) (Nat.le_of_ble_eq_true hj) (bts_cdl a 7) fun f h1 h2 σ h9 => c_Text_addNumber (h9.at hk h1) (h9.at hj h2) (by omega) hm ha
/-- a part of a Text that isn't it -/
theorem o_addPart (hS : cInj S) (h : tO S G k j cap v) (hk : Nat.blt k 51 = true) (hj : Nat.blt j 51 = true) {u : Nat} {x : List Int32} (hu : ∀ σ, cHas σ S G D → ∃ (r b c9 : Nat) (f : Nat → Int32), σ u = some (oT r (nI b) (nI x.length)) ∧ σ r = some (aB c9 f) ∧ b + x.length ≤ c9 ∧ c9 ≤ 100000 ∧ tl f b x.length = x ∧ bts x ∧ u ≠ S k ∧ r ≠ S j) {g m : Nat} (hg : g + m ≤ x.length) (hc : v.length + m ≤ cap) (hb : bts x) : cCt Λ mX9_addPart 0 0 S [.ref (S k), .ref u, .int (nI g), .int (nI m)] G D (apQ S G D k j cap (v ++ (x.drop g).take m)) := by
  have hm := h
  obtain ⟨_, _, _, _, hm, _⟩ := hm
  refine cCt.ap hS h (Nat.le_of_ble_eq_true hk) (Nat.le_of_ble_eq_true hj) (bts_take _ (bts_drop _ hb)) fun f h1 h2 σ h9 => ?_
  obtain ⟨r, b, c9, f2, k1, k2, k3, k4, k5, k6, k7, k8⟩ := hu σ h9
  have h8 := c_Text_addPart (Λ := Λ) (h9.at hk h1) (h9.at hj h2) k1 k2 k3 k4 k7 k8 (bts_byt k5 k6) hg (by omega) hm
  rw [tl_dt k5 hg] at h8
  exact h8
theorem o_addEscaped (hS : cInj S) (hSt : kSt Λ) (h : tO S G k j cap v) (hk : Nat.blt k 51 = true) (hj : Nat.blt j 51 = true) {u : Nat} {x : List Int32} (hu : ∀ σ, cHas σ S G D → ∃ (r b c9 : Nat) (f : Nat → Int32), σ u = some (oT r (nI b) (nI x.length)) ∧ σ r = some (aB c9 f) ∧ b + x.length ≤ c9 ∧ c9 ≤ 100000 ∧ tl f b x.length = x ∧ bts x ∧ u ≠ S k ∧ r ≠ S j) (hc : v.length + 3 * x.length ≤ cap) : cCt Λ mX9_addEscaped 0 0 S [.ref (S k), .ref u] G D (apQ S G D k j cap (v ++ x.flatMap escb)) := by
  have hm := h
  obtain ⟨_, _, _, _, hm, _⟩ := hm
  refine cCt.ap hS h (Nat.le_of_ble_eq_true hk) (Nat.le_of_ble_eq_true hj) (bts_esc x) fun f h1 h2 σ h9 => ?_
  obtain ⟨r, b, c9, f2, k1, k2, k3, k4, k5, k6, k7, k8⟩ := hu σ h9
  have h8 := c_Text_addEscaped (Λ := Λ) (h9.at hk h1) (h9.at hj h2) hSt k1 k2 k3 k4 k7 k8 (by omega) hm
  rw [k5] at h8
  exact h8
/-- Texts that it can read beside -/
theorem tS.u {k2 j2 c9 : Nat} {x : List Int32} (hS : cInj S) (h : tS S G k2 j2 c9 x) (h1 : Nat.blt k2 51 = true) (h2 : Nat.blt j2 51 = true) (hk : k < 51) (hj : j < 51) (n1 : k2 ≠ k) (n2 : j2 ≠ j) : ∀ σ, cHas σ S G D → ∃ (r b c9 : Nat) (f : Nat → Int32), σ (S k2) = some (oT r (nI b) (nI x.length)) ∧ σ r = some (aB c9 f) ∧ b + x.length ≤ c9 ∧ c9 ≤ 100000 ∧ tl f b x.length = x ∧ bts x ∧ S k2 ≠ S k ∧ r ≠ S j := fun σ h9 => by
  obtain ⟨b, f, a1, a2, a3, a4, a5, a6⟩ := h
  exact ⟨S j2, b, c9, f, h9.at h1 a1, h9.at h2 a2, a3, a4, a5, a6, fun q => n1 (hS k2 k (Nat.le_of_ble_eq_true h1) hk q), fun q => n2 (hS j2 j (Nat.le_of_ble_eq_true h2) hj q)⟩
theorem tx.u {u : Nat} {x : List Int32} (h : tx D u x) (hk : k < 51) (hj : j < 51) : ∀ σ, cHas σ S G D → ∃ (r b c9 : Nat) (f : Nat → Int32), σ u = some (oT r (nI b) (nI x.length)) ∧ σ r = some (aB c9 f) ∧ b + x.length ≤ c9 ∧ c9 ≤ 100000 ∧ tl f b x.length = x ∧ bts x ∧ u ≠ S k ∧ r ≠ S j := fun σ h9 => by
  obtain ⟨r, b, cap, f, a1, a2, a3, a4, a5, a6⟩ := h
  exact ⟨r, b, cap, f, h9.2.1 _ _ a1, h9.2.1 _ _ a2, a3, a4, a5, a6, h9.ne hk a1, h9.ne hj a2⟩
end AP
