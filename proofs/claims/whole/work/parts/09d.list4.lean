/-! ArrayList as one cell (J) -/
theorem kAbs.opn {Λ : kL} {σ ρ : kh} {a : Nat} {l : List Value} (h : kAbs Λ σ ρ) (ha : σ a = some (kLi l)) : ∃ o : Option Nat, kLst Λ ρ a o l ∧ ∀ (ρ' : kh) (o' : Option Nat) (l' : List Value), kLst Λ ρ' a o' l' → (∀ x, x ≠ a → o ≠ some x → o' ≠ some x → ρ' x = ρ x) → (o' = o ∨ ∃ q, o' = some q ∧ ∀ x c, ρ x = some c → x < q) → kAbs Λ (kup σ a (kLi l')) ρ' := by
  have hex := @kAbs.ex Λ σ ρ h
  obtain ⟨ad, h1, h2, h3⟩ := h
  have hLa := (h1 a _ ha).2 l rfl
  have harr : ∀ (x y : Nat) (lx : List Value), σ x = some (kLi lx) → ad x = some y → ∃ c, ρ y = some c := by
    intro x y lx hx hy
    obtain ⟨cap, md, f, -, -, -, -, hm⟩ := (h1 x _ hx).2 lx rfl
    rw [hy] at hm
    exact ⟨_, hm.2.1⟩
  refine ⟨ad a, hLa, fun ρ' o' l' hL' hk ho => ?_⟩
  have hsa : ∀ y, ad a = some y → σ y = none := fun y hy => h2 a y l ha hy
  -- a cell that σ names is neither the old array nor the new one
  have hout : ∀ x c, σ x = some c → x ≠ a → ρ' x = ρ x := by
    intro x c hx hxa
    refine hk x hxa (fun q => ?_) (fun q => ?_)
    · rw [hsa x q] at hx; cases hx
    · rcases ho with ho | ⟨y, hy, hf⟩
      · rw [ho] at q; rw [hsa x q] at hx; cases hx
      · rw [hy] at q
        cases q
        obtain ⟨c9, h9⟩ := hex hx
        exact absurd (hf x c9 h9) (Nat.lt_irrefl _)
  have hkey : ∀ (x : Nat) (lx : List Value), kup σ a (kLi l') x = some (kLi lx) → x ≠ a → σ x = some (kLi lx) := fun x lx hx hxa => by rw [kup_n _ _ hxa] at hx; exact hx
  have ho2 : ∀ y, o' = some y → y ≠ a ∧ σ y = none ∧ ∀ (x : Nat) (lx : List Value), x ≠ a → σ x = some (kLi lx) → ad x ≠ some y := by
    intro y hy
    rcases ho with ho | ⟨q, hq, hf⟩
    · rw [ho] at hy
      refine ⟨fun e => ?_, hsa y hy, fun x lx hxa hx e => hxa (h3 x a y lx l hx ha e hy)⟩
      have := hsa y hy
      rw [e, ha] at this
      cases this
    · have e0 : q = y := Option.some.inj (hq.symm.trans hy)
      subst e0
      refine ⟨fun e => ?_, ?_, fun x lx hxa hx e => ?_⟩
      · obtain ⟨c9, h9⟩ := hex ha
        exact absurd (hf a c9 h9) (by omega)
      · cases e : σ q with
        | none => rfl
        | some c =>
          obtain ⟨c9, h9⟩ := hex e
          exact absurd (hf q c9 h9) (Nat.lt_irrefl _)
      · obtain ⟨c9, h9⟩ := harr x q lx hx e
        exact absurd (hf q c9 h9) (Nat.lt_irrefl _)
  refine ⟨fun x => if x = a then o' else ad x, fun x c hx => ?_, fun x y lx hx hy => ?_, fun x x' y lx lx' hx hx' hy hy' => ?_⟩
  · by_cases hxa : x = a
    · rw [hxa, kup_s] at hx
      have hx := Option.some.inj hx
      subst hx
      refine ⟨fun h => (by cases h), fun l9 e => ?_⟩
      have e : l' = l9 := congrArg Prod.snd (Sum.inr.inj e)
      subst e
      dsimp only
      rw [if_pos hxa, hxa]
      exact hL'
    · rw [kup_n _ _ hxa] at hx
      refine ⟨fun hc => (hout x c hx hxa).trans ((h1 x c hx).1 hc), fun l9 e => ?_⟩
      subst e
      dsimp only
      rw [if_neg hxa]
      refine ((h1 x _ hx).2 l9 rfl).keep (hout x _ hx hxa) (fun y hy => ?_)
      refine hk y (fun e => ?_) (fun e => hxa (h3 x a y l9 l hx ha hy e)) (fun e => (ho2 y e).2.2 x l9 hxa hx hy)
      have := h2 x y l9 hx hy
      rw [e, ha] at this
      cases this
  · by_cases hxa : x = a
    · dsimp only at hy
      rw [if_pos hxa] at hy
      rw [kup_n _ _ (ho2 y hy).1]
      exact (ho2 y hy).2.1
    · dsimp only at hy
      rw [if_neg hxa] at hy
      have hx9 := hkey x lx hx hxa
      have hn := h2 x y lx hx9 hy
      have hya : y ≠ a := fun e => by rw [e, ha] at hn; cases hn
      rw [kup_n _ _ hya]
      exact hn
  · dsimp only at hy hy'
    by_cases hxa : x = a
    · by_cases hxa' : x' = a
      · rw [hxa, hxa']
      · rw [if_pos hxa] at hy
        rw [if_neg hxa'] at hy'
        exact absurd hy' ((ho2 y hy).2.2 x' lx' hxa' (hkey x' lx' hx' hxa'))
    · by_cases hxa' : x' = a
      · rw [if_neg hxa] at hy
        rw [if_pos hxa'] at hy'
        exact absurd hy ((ho2 y hy').2.2 x lx hxa (hkey x lx hx hxa))
      · rw [if_neg hxa] at hy
        rw [if_neg hxa'] at hy'
        exact h3 x x' y lx lx' (hkey x lx hx hxa) (hkey x' lx' hx' hxa') hy hy'
/-- the elements are objects of one class -/
def kEl (σ : kh) (ci : Nat) (l : List Value) : Prop := ∀ v ∈ l, ∃ (y : Nat) (fs : List Value), v = .ref y ∧ σ y = some (.inr (ci, fs))
theorem va_rf_ref {o : Option Nat} {y : Nat} (h : Value.ref y = va_rf o) : o = some y := by
  cases o with
  | none => cases h
  | some z => cases h; rfl
theorem kLst.el {Λ : kL} {σ ρ : kh} {ci : Nat} {l : List Value} {f : Nat → Option Nat} (hρ : kAbs Λ σ ρ) (hci : ci ≠ 100) (hE : kEl σ ci l) (hf : ∀ (i : Nat) (v : Value), l[i]? = some v → v = va_rf (f i)) : ∀ i, i < l.length → ∀ y, f i = some y → ∃ fs, ρ y = some (.inr (ci, fs)) := by
  intro i hi y hy
  have h1 := List.getElem?_eq_getElem hi
  have h2 := hf i _ h1
  obtain ⟨z, fs, e, hz⟩ := hE _ (List.getElem_mem hi)
  rw [hy] at h2
  rw [h2] at e
  cases e
  exact ⟨fs, hρ.get hz (by simpa [kIsL] using hci)⟩
theorem c_list_size {Λ : kL} {σ : kh} {a : Nat} {l : List Value} (ha : σ a = some (kLi l)) : jCt Λ mJx4a65c_size_8abf5 0 0 [.ref a] σ (fun r σ' => r = some (.int (nI l.length)) ∧ σ' = σ) := by
  intro ρ hρ
  obtain ⟨o, ⟨cap, md, f, g1, g2, g3, g4, hm⟩, -⟩ := hρ.opn ha
  cases o with
  | none =>
    have e0 : l.length = 0 := by have := hm.2; omega
    refine (r_size (c := 0) hm.1).mono fun r σ' h => ⟨σ, ⟨?_, rfl⟩, h.2 ▸ hρ⟩
    rw [h.1, e0]
  | some b => exact (r_size hm.1).mono fun r σ' h => ⟨σ, ⟨h.1, rfl⟩, h.2 ▸ hρ⟩
theorem c_list_isEmpty {Λ : kL} {σ : kh} {a : Nat} {l : List Value} (ha : σ a = some (kLi l)) (hl : l.length ≤ 100000) : jCt Λ mJx4a65c_isEmpty_aae02 0 0 [.ref a] σ (fun r σ' => r = some (.int (if l = [] then 1 else 0)) ∧ σ' = σ) := by
  intro ρ hρ
  obtain ⟨o, ⟨cap, md, f, g1, g2, g3, g4, hm⟩, -⟩ := hρ.opn ha
  cases o with
  | none =>
    have e0 : l = [] := List.eq_nil_of_length_eq_zero (by have := hm.2; omega)
    refine (r_isEmpty (c := 0) hm.1).mono fun r σ' h => ⟨σ, ⟨?_, rfl⟩, h.2 ▸ hρ⟩
    rw [h.1, e0]
    rfl
  | some b =>
    refine (r_isEmpty hm.1).mono fun r σ' h => ⟨σ, ⟨?_, rfl⟩, h.2 ▸ hρ⟩
    rw [h.1]
    by_cases e : l = []
    · rw [if_pos e, e]; rfl
    · have hp : 0 < l.length := List.length_pos_iff.mpr e
      rw [if_neg e, if_neg (nI_ne0 hp (by omega))]
theorem c_list_get {Λ : kL} {σ : kh} {a j : Nat} {l : List Value} {v : Value} (ha : σ a = some (kLi l)) (hj : l[j]? = some v) : jCt Λ mJx4a65c_get_915e3 0 0 [.ref a, .int (nI j)] σ (fun r σ' => r = some v ∧ σ' = σ) := by
  intro ρ hρ
  obtain ⟨o, ⟨cap, md, f, g1, g2, g3, g4, hm⟩, -⟩ := hρ.opn ha
  have hlt : j < l.length := (List.getElem?_eq_some_iff.mp hj).1
  cases o with
  | none => exact absurd hlt (by have := hm.2; omega)
  | some b => exact (r_get hm.1 hm.2.1 g1 g2 hlt).mono fun r σ' h => ⟨σ, ⟨by rw [h.1, g3 j v hj], rfl⟩, h.2 ▸ hρ⟩
theorem va_cpy_lo {α : Type} {f g : Nat → α} {n i : Nat} (h : i < n) : va_cpy f g 0 0 n i = f i := by rw [va_cpy, if_pos ⟨Nat.zero_le _, by omega⟩, Nat.zero_add, Nat.sub_zero]
theorem va_cpy_hi {α : Type} {f g : Nat → α} {n i : Nat} (h : n ≤ i) : va_cpy f g 0 0 n i = g i := by rw [va_cpy, if_neg (by omega)]
theorem kget_app {l : List Value} {v w : Value} {i : Nat} (h : (l ++ [v])[i]? = some w) : (i < l.length ∧ l[i]? = some w) ∨ (i = l.length ∧ w = v) := by
  by_cases hi : i < l.length
  · rw [List.getElem?_append_left hi] at h
    exact Or.inl ⟨hi, h⟩
  · rw [List.getElem?_append_right (by omega)] at h
    have h9 := (List.getElem?_eq_some_iff.mp h).1
    have e : i = l.length := by simp at h9; omega
    subst e
    simp at h
    exact Or.inr ⟨rfl, h.symm⟩
theorem c_list_add {Λ : kL} {σ : kh} {a v : Nat} {l : List Value} (ha : σ a = some (kLi l)) {ci N : Nat} {C : String} {T : u_T} {ty : Nat → FieldType} (hcl : kCls ci C T N ty) (hca : Cond.castable C "java/lang/Object" ∈ lw_tbl) (hJ : kJd Λ) (hE : kEl σ ci l) {vs : List Value} (hv : σ v = some (.inr (ci, vs))) (hl : l.length ≤ 20000) :
    jCt Λ mJx4a65c_add_9ea2d 1 (2 * l.length + 10) [.ref a, .ref v] σ (fun r σ' => r = some (.int 1) ∧ σ' = kup σ a (kLi (l ++ [.ref v]))) := by
  intro ρ hρ
  obtain ⟨o, ⟨cap, md, f, g1, g2, g3, g4, hm⟩, hcl9⟩ := hρ.opn ha
  have hci : ci ≠ 100 := fun e => by subst e; have := hcl.1; cases this
  have hvρ : ρ v = some (.inr (ci, vs)) := hρ.get hv (by simpa [kIsL] using hci)
  have hel := kLst.el hρ hci hE g3
  have hkn : ∀ (c c' : kc) (x : Nat), kup (kup ρ x c) x c' = kup ρ x c' := fun c c' x => kup_up ρ x c c'
  cases o with
  | none =>
    have e0 : l.length = 0 := by have := hm.2; omega
    have el : l = [] := List.eq_nil_of_length_eq_zero e0
    refine ((r_addE (mc := 1) (ms := 2 * l.length + 10) hm.1 hJ hcl hca hvρ (by omega) (by omega)).mono (Q' := jQ Λ (fun r σ' => r = some (.int 1) ∧ σ' = kup σ a (kLi (l ++ [.ref v])))) fun r ρ' h => ?_)
    obtain ⟨q, -, hq, hr, rfl⟩ := h
    have hqa : q ≠ a := Ne.symm (Nat.ne_of_lt (hq _ _ hm.1))
    refine ⟨_, ⟨hr, rfl⟩, hcl9 _ (some q) _ ⟨10, md + 1, va_up (fun _ => none) 0 (some v), by rw [el]; exact Nat.le_of_ble_eq_true rfl, by decide, fun i w hi => ?_, fun i h1 h2 => ?_, ?_⟩ (fun x h1 h2 h3 => ?_) (Or.inr ⟨q, rfl, hq⟩)⟩
    · rw [el] at hi
      rcases kget_app hi with ⟨h9, -⟩ | ⟨h9, rfl⟩
      · exact absurd h9 (by simp)
      · rw [h9]; rfl
    · rw [el] at h1
      have h1 : 1 ≤ i := h1
      rw [va_up_ne _ _ (by omega)]
    · refine ⟨?_, ?_, by decide⟩
      · rw [kup_s, el]; rfl
      · rw [kup_n _ _ hqa, kup_s]
    · have hxq : x ≠ q := fun e => h3 (by rw [e])
      rw [kup_n _ _ h1, kup_n _ _ hxq, kup_n _ _ h1, kup_n _ _ hxq, kup_n _ _ h1]
  | some b =>
    have hba : b ≠ a := kne_ao hm.2.1 hm.1
    by_cases hfull : l.length < cap
    · refine ((r_addR (mc := 1) (ms := 2 * l.length + 10) hm.1 hm.2.1 hfull g2 hcl hca hvρ).mono (Q' := jQ Λ (fun r σ' => r = some (.int 1) ∧ σ' = kup σ a (kLi (l ++ [.ref v])))) fun r ρ' h => ?_)
      obtain ⟨hr, rfl⟩ := h
      refine ⟨_, ⟨hr, rfl⟩, hcl9 _ (some b) _ ⟨cap, md + 1, va_up f l.length (some v), by rw [List.length_append]; exact hfull, g2, fun i w hi => ?_, fun i h1 h2 => ?_, ?_⟩ (fun x h1 h2 h3 => ?_) (Or.inl rfl)⟩
      · rcases kget_app hi with ⟨h9, h8⟩ | ⟨h9, rfl⟩
        · rw [va_up_ne _ _ (by omega)]; exact g3 i w h8
        · rw [h9, va_up_self]; rfl
      · rw [List.length_append] at h1
        have h1 : l.length + 1 ≤ i := h1
        rw [va_up_ne _ _ (by omega)]
        exact g4 i (by omega) h2
      · refine ⟨?_, ?_, hm.2.2⟩
        · rw [kup_s, List.length_append]; rfl
        · rw [kup_n _ _ hba, kup_s]
      · have hxb : x ≠ b := fun e => h3 (by rw [e])
        rw [kup_n _ _ h1, kup_n _ _ hxb, kup_n _ _ h1]
    · have ec : l.length = cap := by omega
      refine ((r_addF (mc := 1) (ms := 2 * l.length + 10) (n := cap) (by rw [← ec]; exact hm.1) hm.2.1 hm.2.2 (by omega) hJ hcl hca (fun i hi y hy => hel i (by omega) y hy) hvρ (by omega) (by omega)).mono (Q' := jQ Λ (fun r σ' => r = some (.int 1) ∧ σ' = kup σ a (kLi (l ++ [.ref v])))) fun r ρ' h => ?_)
      obtain ⟨q, -, hq, hr, rfl⟩ := h
      have hqa : q ≠ a := Ne.symm (Nat.ne_of_lt (hq _ _ hm.1))
      refine ⟨_, ⟨hr, rfl⟩, hcl9 _ (some q) _ ⟨cap + cap / 2, md + 1, va_up (va_cpy f (fun _ => none) 0 0 cap) cap (some v), by rw [List.length_append]; have := hm.2.2; show l.length + 1 ≤ _; omega, by omega, fun i w hi => ?_, fun i h1 h2 => ?_, ?_⟩ (fun x h1 h2 h3 => ?_) (Or.inr ⟨q, rfl, hq⟩)⟩
      · rcases kget_app hi with ⟨h9, h8⟩ | ⟨h9, rfl⟩
        · rw [va_up_ne _ _ (by omega), va_cpy_lo (by omega)]; exact g3 i w h8
        · rw [h9, ec, va_up_self]; rfl
      · rw [List.length_append] at h1
        have h1 : l.length + 1 ≤ i := h1
        rw [va_up_ne _ _ (by omega), va_cpy_hi (by omega)]
      · refine ⟨?_, ?_, by have := hm.2.2; omega⟩
        · rw [kup_s, List.length_append, ec]; rfl
        · rw [kup_n _ _ hqa, kup_s]
      · have hxq : x ≠ q := fun e => h3 (by rw [e])
        rw [kup_n _ _ h1, kup_n _ _ hxq, kup_n _ _ h1, kup_n _ _ hxq, kup_n _ _ h1]
theorem c_list_remove {Λ : kL} {σ : kh} {a y : Nat} {l : List Value} (ha : σ a = some (kLi (.ref y :: l))) {ci N : Nat} {C : String} {T : u_T} {ty : Nat → FieldType} (hcl : kCls ci C T N ty) (hca : Cond.castable C "java/lang/Object" ∈ lw_tbl) (hE : kEl σ ci (.ref y :: l)) :
    jCt Λ mJx4a65c_remove_915e3 0 0 [.ref a, .int 0] σ (fun r σ' => r = some (.ref y) ∧ σ' = kup σ a (kLi l)) := by
  intro ρ hρ
  obtain ⟨o, ⟨cap, md, f, g1, g2, g3, g4, hm⟩, hcl9⟩ := hρ.opn ha
  have hci : ci ≠ 100 := fun e => by subst e; have := hcl.1; cases this
  have hel := kLst.el hρ hci hE g3
  have hlen : (Value.ref y :: l).length = l.length + 1 := rfl
  rw [hlen] at g1 g4 hel
  cases o with
  | none => exact absurd hm.2 (by omega)
  | some b =>
    have hba : b ≠ a := kne_ao hm.2.1 hm.1
    have hf0 : f 0 = some y := va_rf_ref (g3 0 _ rfl)
    refine (r_remove (c := l.length + 1) hm.1 hm.2.1 g1 g2 (by omega) hcl hca hel hf0).mono fun r ρ' h => ?_
    obtain ⟨hr, rfl⟩ := h
    unfold kfr
    rw [Nat.add_sub_cancel]
    refine ⟨_, ⟨hr, rfl⟩, hcl9 _ (some b) _ ⟨cap, md + 1, va_up (va_cpy f f 1 0 l.length) l.length none, by omega, g2, fun i w hi => ?_, fun i h1 h2 => ?_, ?_, ?_, hm.2.2⟩ (fun x h1 h2 h3 => ?_) (Or.inl rfl)⟩
    · have hil : i < l.length := (List.getElem?_eq_some_iff.mp hi).1
      rw [va_up_ne _ _ (by omega), va_cpy, if_pos ⟨by omega, by omega⟩, show 1 + (i - 0) = i + 1 by omega]
      exact g3 (i + 1) w hi
    · by_cases e : i = l.length
      · rw [e, va_up_self]
      · rw [va_up_ne _ _ e, va_cpy, if_neg (by omega)]
        exact g4 i (by omega) h2
    · exact if_pos rfl
    · exact (if_neg hba).trans (if_pos rfl)
    · have hxb : x ≠ b := fun e => h3 (by rw [e])
      exact (if_neg h1).trans (if_neg hxb)
/-- a raw cell becomes a list -/
theorem c_list_init {Λ : kL} {σ : kh} {a : Nat} (ha : σ a = some (.inr (0, [.int 0, .null, .int 0]))) (hJ : kJd Λ) : jCt Λ mJx4a65c_init_da8c8 0 0 [.ref a] σ (fun r σ' => r = none ∧ σ' = kup σ a (kLi [])) := by
  intro ρ hρ
  have haρ : ρ a = some (.inr (0, [.int 0, .null, .int 0])) := hρ.get ha rfl
  refine (r_init haρ hJ).mono fun r ρ' h => ?_
  obtain ⟨hr, rfl⟩ := h
  refine ⟨_, ⟨hr, rfl⟩, ?_⟩
  obtain ⟨ad, h1, h2, h3⟩ := hρ
  have hkey : ∀ (x : Nat) (lx : List Value), kup σ a (kLi []) x = some (kLi lx) → x ≠ a → σ x = some (kLi lx) := fun x lx hx hxa => by rw [kup_n _ _ hxa] at hx; exact hx
  refine ⟨fun x => if x = a then none else ad x, fun x c hx => ?_, fun x y lx hx hy => ?_, fun x x' y lx lx' hx hx' hy hy' => ?_⟩
  · by_cases hxa : x = a
    · rw [hxa, kup_s] at hx
      have hx := Option.some.inj hx
      subst hx
      refine ⟨fun h => (by cases h), fun l9 e => ?_⟩
      have e : [] = l9 := congrArg Prod.snd (Sum.inr.inj e)
      subst e
      dsimp only
      rw [if_pos hxa, hxa]
      exact ⟨0, 0, fun _ => none, Nat.le_refl _, by decide, fun i v hi => (by cases hi), fun i _ h => absurd h (by omega), kup_s _ _ _, rfl⟩
    · rw [kup_n _ _ hxa] at hx
      refine ⟨fun hc => by rw [kup_n _ _ hxa]; exact (h1 x c hx).1 hc, fun l9 e => ?_⟩
      subst e
      dsimp only
      rw [if_neg hxa]
      refine ((h1 x _ hx).2 l9 rfl).keep (kup_n _ _ hxa) (fun y hy => kup_n _ _ fun e => ?_)
      have := h2 x y l9 hx hy
      rw [e, ha] at this
      cases this
  · dsimp only at hy
    by_cases hxa : x = a
    · rw [if_pos hxa] at hy
      cases hy
    · rw [if_neg hxa] at hy
      have hx9 := hkey x lx hx hxa
      have hn := h2 x y lx hx9 hy
      have hya : y ≠ a := fun e => by rw [e, ha] at hn; cases hn
      rw [kup_n _ _ hya]
      exact hn
  · dsimp only at hy hy'
    by_cases hxa : x = a
    · rw [if_pos hxa] at hy
      cases hy
    · by_cases hxa' : x' = a
      · rw [if_pos hxa'] at hy'
        cases hy'
      · rw [if_neg hxa] at hy
        rw [if_neg hxa'] at hy'
        exact h3 x x' y lx lx' (hkey x lx hx hxa) (hkey x' lx' hx' hxa') hy hy'
