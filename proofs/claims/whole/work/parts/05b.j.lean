/-! J: as K, over a heap in which an ArrayList is one cell, .inr (100, elements) -/
abbrev kLi (l : List Value) : kc := .inr (100, l)
def kIsL (c : kc) : Bool := match c with
  | .inr o => o.1 == 100
  | .inl _ => false
/-- the empty array that new ArrayLists share -/
def kEmp (Λ : kL) : Nat := match (Term.static "java/util/ArrayList" "DEFAULTCAPACITY_EMPTY_ELEMENTDATA" "[Ljava/lang/Object;").eval Λ.2.2.1 (kS Λ) none [] (kS Λ) with
  | some (.ref a) => a
  | _ => 0
abbrev oAL (b : Nat) (n md : Int32) : kc := .inr (0, [.int md, .ref b, .int n])
def kLst (Λ : kL) (ρ : kh) (a : Nat) (o : Option Nat) (l : List Value) : Prop := ∃ (cap : Nat) (md : Int32) (f : Nat → Option Nat), l.length ≤ cap ∧ cap ≤ 100000 ∧ (∀ (i : Nat) (v : Value), l[i]? = some v → v = va_rf (f i)) ∧ (∀ i, l.length ≤ i → i < cap → f i = none) ∧
  match o with
  | some b => ρ a = some (oAL b (nI l.length) md) ∧ ρ b = some (aO cap f) ∧ 2 ≤ cap
  | none => ρ a = some (oAL (kEmp Λ) 0 md) ∧ cap = 0
def kAbs (Λ : kL) (σ ρ : kh) : Prop := ∃ ad : Nat → Option Nat,
  (∀ (a : Nat) (c : kc), σ a = some c → (kIsL c = false → ρ a = some c) ∧ (∀ l, c = kLi l → kLst Λ ρ a (ad a) l)) ∧
  (∀ (a b : Nat) (l : List Value), σ a = some (kLi l) → ad a = some b → σ b = none) ∧
  (∀ (a a' b : Nat) (l l' : List Value), σ a = some (kLi l) → σ a' = some (kLi l') → ad a = some b → ad a' = some b → a = a')
theorem kAbs.get {Λ : kL} {σ ρ : kh} (h : kAbs Λ σ ρ) {a : Nat} {c : kc} (ha : σ a = some c) (hc : kIsL c = false) : ρ a = some c := by
  obtain ⟨ad, h1, -⟩ := h
  exact (h1 a c ha).1 hc
theorem kLst.ex {Λ : kL} {ρ : kh} {a : Nat} {o : Option Nat} {l : List Value} (h : kLst Λ ρ a o l) : ∃ c, ρ a = some c := by
  obtain ⟨cap, md, f, -, -, -, -, h⟩ := h
  cases o with
  | none => exact ⟨_, h.1⟩
  | some b => exact ⟨_, h.1⟩
theorem kIsL_li {c : kc} (h : kIsL c = true) : ∃ l, c = kLi l := by
  cases c with
  | inl x => cases h
  | inr o =>
    obtain ⟨i, l⟩ := o
    have : i = 100 := by simpa [kIsL] using h
    subst this
    exact ⟨l, rfl⟩
theorem kAbs.ex {Λ : kL} {σ ρ : kh} (h : kAbs Λ σ ρ) {a : Nat} {c : kc} (ha : σ a = some c) : ∃ c', ρ a = some c' := by
  obtain ⟨ad, h1, -⟩ := h
  cases e : kIsL c with
  | false => exact ⟨c, (h1 a c ha).1 e⟩
  | true =>
    obtain ⟨l, rfl⟩ := kIsL_li e
    exact ((h1 a _ ha).2 l rfl).ex
theorem kLst.keep {Λ : kL} {ρ ρ' : kh} {a : Nat} {o : Option Nat} {l : List Value} (h : kLst Λ ρ a o l) (h1 : ρ' a = ρ a) (h2 : ∀ b, o = some b → ρ' b = ρ b) : kLst Λ ρ' a o l := by
  obtain ⟨cap, md, f, g1, g2, g3, g4, h⟩ := h
  refine ⟨cap, md, f, g1, g2, g3, g4, ?_⟩
  cases o with
  | none => exact ⟨h1.trans h.1, h.2⟩
  | some b => exact ⟨h1.trans h.1, (h2 b rfl).trans h.2.1, h.2.2⟩
/-- a plain cell is written -/
theorem kAbs.put {Λ : kL} {σ ρ : kh} (h : kAbs Λ σ ρ) {a : Nat} {c c' : kc} (ha : σ a = some c) (hc : kIsL c = false) (hc' : kIsL c' = false) : kAbs Λ (kup σ a c') (kup ρ a c') := by
  obtain ⟨ad, h1, h2, h3⟩ := h
  have key : ∀ (b : Nat) (l : List Value), kup σ a c' b = some (kLi l) → b ≠ a ∧ σ b = some (kLi l) := by
    intro b l hb
    by_cases e : b = a
    · subst e
      rw [kup_s] at hb
      cases hb
      cases hc'
    · exact ⟨e, by rw [kup_n _ _ e] at hb; exact hb⟩
  refine ⟨ad, fun b d hb => ?_, fun b b' l hb hd => ?_, fun b b' x l l' hb hb' => h3 b b' x l l' (key b l hb).2 (key b' l' hb').2⟩
  · by_cases e : b = a
    · subst e
      rw [kup_s] at hb
      cases hb
      exact ⟨fun _ => kup_s _ _ _, fun l e9 => by rw [e9] at hc'; cases hc'⟩
    · rw [kup_n _ _ e] at hb
      refine ⟨fun hd => by rw [kup_n _ _ e]; exact (h1 b d hb).1 hd, fun l e9 => ?_⟩
      subst e9
      refine ((h1 b _ hb).2 l rfl).keep (kup_n _ _ e) (fun x hx => kup_n _ _ fun q => ?_)
      have := h2 b x l hb hx
      rw [q, ha] at this
      cases this
  · have hk := key b l hb
    have h9 := h2 b b' l hk.2 hd
    by_cases e : b' = a
    · rw [e, ha] at h9
      cases h9
    · rw [kup_n _ _ e]; exact h9
/-- a new plain cell -/
theorem kAbs.mk {Λ : kL} {σ ρ : kh} (h : kAbs Λ σ ρ) {q : Nat} {c' : kc} (hq : ∀ a c, ρ a = some c → a < q) (hc' : kIsL c' = false) : kAbs Λ (kup σ q c') (kup ρ q c') := by
  have hs : ∀ a c, σ a = some c → a < q := fun a c ha => by obtain ⟨c9, h9⟩ := h.ex ha; exact hq a c9 h9
  obtain ⟨ad, h1, h2, h3⟩ := h
  have key : ∀ (b : Nat) (l : List Value), kup σ q c' b = some (kLi l) → b ≠ q ∧ σ b = some (kLi l) := by
    intro b l hb
    by_cases e : b = q
    · subst e
      rw [kup_s] at hb
      cases hb
      cases hc'
    · exact ⟨e, by rw [kup_n _ _ e] at hb; exact hb⟩
  have had : ∀ (b x : Nat) (l : List Value), σ b = some (kLi l) → ad b = some x → x ≠ q := by
    intro b x l hb hx e
    obtain ⟨cap, md, f, -, -, -, -, hm⟩ := (h1 b _ hb).2 l rfl
    rw [hx] at hm
    have := hq x _ hm.2.1
    omega
  refine ⟨ad, fun b d hb => ?_, fun b b' l hb hd => ?_, fun b b' x l l' hb hb' => h3 b b' x l l' (key b l hb).2 (key b' l' hb').2⟩
  · by_cases e : b = q
    · subst e
      rw [kup_s] at hb
      cases hb
      exact ⟨fun _ => kup_s _ _ _, fun l e9 => by rw [e9] at hc'; cases hc'⟩
    · rw [kup_n _ _ e] at hb
      refine ⟨fun hd => by rw [kup_n _ _ e]; exact (h1 b d hb).1 hd, fun l e9 => ?_⟩
      subst e9
      exact ((h1 b _ hb).2 l rfl).keep (kup_n _ _ e) (fun x hx => kup_n _ _ (had b x l hb hx))
  · have hk := key b l hb
    rw [kup_n _ _ (had b b' l hk.2 hd)]
    exact h2 b b' l hk.2 hd
def J (Λ : kL) (X : kX) (μ : kMi) (mc ms : Nat) (Z : State → Prop) (bc bs : Nat) (σ : kh) (pc : Nat) (L : List (Option Value)) (st : List Value) : Prop := ∀ ρ : kh, kAbs Λ σ ρ → K Λ X μ mc ms Z bc bs ρ pc L st
def jQ (Λ : kL) (Q : Option Value → kh → Prop) : Option Value → kh → Prop := fun r ρ' => ∃ σ' : kh, Q r σ' ∧ kAbs Λ σ' ρ'
def jZ (Λ : kL) (X : kX) (Q : Option Value → kh → Prop) (mc ms : Nat) : State → Prop := kZ Λ X (jQ Λ Q) mc ms
def jCt (Λ : kL) (μ : kMi) (mc ms : Nat) (av : List Value) (σ : kh) (Q : Option Value → kh → Prop) : Prop := ∀ ρ : kh, kAbs Λ σ ρ → kCt Λ μ mc ms av ρ (jQ Λ Q)
theorem jCt.of {Λ : kL} {μ : kMi} {mc ms : Nat} {av : List Value} {σ : kh} {Q : Option Value → kh → Prop} (hy : plainName μ.1.cls = true) (L : List (Option Value)) (hL : kAl L = lv_args 0 av) (hn : (lg_sl av).length ≤ μ.2.2.1)
    (body : ∀ X : kX, J Λ X μ mc ms (jZ Λ X Q mc ms) mc ms σ 0 L []) : jCt Λ μ mc ms av σ Q := fun ρ h => kCt.of hy L hL hn fun X => body X ρ h
theorem jCt.mono {Λ : kL} {μ : kMi} {mc ms : Nat} {av : List Value} {σ : kh} {Q Q' : Option Value → kh → Prop} (h : jCt Λ μ mc ms av σ Q) (hq : ∀ r σ', Q r σ' → Q' r σ') : jCt Λ μ mc ms av σ Q' := fun ρ hρ => (h ρ hρ).mono fun r _ ⟨σ', h1, h2⟩ => ⟨σ', hq r σ' h1, h2⟩
theorem kCls.ne {ci N : Nat} {C : String} {T : u_T} {ty : Nat → FieldType} (h : kCls ci C T N ty) (fs : List Value) : kIsL (.inr (ci, fs)) = false := by
  cases e : kIsL (.inr (ci, fs)) with
  | false => rfl
  | true =>
    have : ci = 100 := by simpa [kIsL] using e
    subst this
    have := h.1
    cases this
theorem J.iconst {Λ : kL} {X : kX} {μ : kMi} {mc ms : Nat} {Z : State → Prop} {bc bs : Nat} {σ : kh} {pc : Nat} {L : List (Option Value)} {st : List Value} {j : Int} {v : Int32} (hd : decode μ.2.1 pc = .ok (.iconst j, 1)) (hv : Int32.ofInt j = v) (k : J Λ X μ mc ms Z bc bs σ (pc + 1) L (.int v :: st)) : J Λ X μ mc ms Z bc bs σ pc L st := fun ρ hρ => K.iconst hd hv (k ρ hρ)
theorem J.bipush {Λ : kL} {X : kX} {μ : kMi} {mc ms : Nat} {Z : State → Prop} {bc bs : Nat} {σ : kh} {pc : Nat} {L : List (Option Value)} {st : List Value} {j : Int} {v : Int32} (hd : decode μ.2.1 pc = .ok (.bipush j, 2)) (hv : (Int8.ofInt j).toInt32 = v) (k : J Λ X μ mc ms Z bc bs σ (pc + 2) L (.int v :: st)) : J Λ X μ mc ms Z bc bs σ pc L st := fun ρ hρ => K.bipush hd hv (k ρ hρ)
theorem J.sipush {Λ : kL} {X : kX} {μ : kMi} {mc ms : Nat} {Z : State → Prop} {bc bs : Nat} {σ : kh} {pc : Nat} {L : List (Option Value)} {st : List Value} {j : Int} {v : Int32} (hd : decode μ.2.1 pc = .ok (.sipush j, 3)) (hv : (Int16.ofInt j).toInt32 = v) (k : J Λ X μ mc ms Z bc bs σ (pc + 3) L (.int v :: st)) : J Λ X μ mc ms Z bc bs σ pc L st := fun ρ hρ => K.sipush hd hv (k ρ hρ)
theorem J.lconst {Λ : kL} {X : kX} {μ : kMi} {mc ms : Nat} {Z : State → Prop} {bc bs : Nat} {σ : kh} {pc : Nat} {L : List (Option Value)} {st : List Value} {j : Fin 2} {v : Int64} (hd : decode μ.2.1 pc = .ok (.lconst j, 1)) (hv : Int64.ofNat (j : Nat) = v) (k : J Λ X μ mc ms Z bc bs σ (pc + 1) L (.long v :: st)) : J Λ X μ mc ms Z bc bs σ pc L st := fun ρ hρ => K.lconst hd hv (k ρ hρ)
theorem J.iload {Λ : kL} {X : kX} {μ : kMi} {mc ms : Nat} {Z : State → Prop} {bc bs : Nat} {σ : kh} {pc : Nat} {L : List (Option Value)} {st : List Value} {i : Nat} {x : Int32} (hd : decode μ.2.1 pc = .ok (.iload i, 2)) (hl : L[i]? = some (some (.int x))) (k : J Λ X μ mc ms Z bc bs σ (pc + 2) L (.int x :: st)) : J Λ X μ mc ms Z bc bs σ pc L st := fun ρ hρ => K.iload hd hl (k ρ hρ)
theorem J.iload_n {Λ : kL} {X : kX} {μ : kMi} {mc ms : Nat} {Z : State → Prop} {bc bs : Nat} {σ : kh} {pc : Nat} {L : List (Option Value)} {st : List Value} {i : Fin 4} {x : Int32} (hd : decode μ.2.1 pc = .ok (.iload_n i, 1)) (hl : L[(i : Nat)]? = some (some (.int x))) (k : J Λ X μ mc ms Z bc bs σ (pc + 1) L (.int x :: st)) : J Λ X μ mc ms Z bc bs σ pc L st := fun ρ hρ => K.iload_n hd hl (k ρ hρ)
theorem J.lload {Λ : kL} {X : kX} {μ : kMi} {mc ms : Nat} {Z : State → Prop} {bc bs : Nat} {σ : kh} {pc : Nat} {L : List (Option Value)} {st : List Value} {i : Nat} {x : Int64} (hd : decode μ.2.1 pc = .ok (.lload i, 2)) (hl : L[i]? = some (some (.long x))) (k : J Λ X μ mc ms Z bc bs σ (pc + 2) L (.long x :: st)) : J Λ X μ mc ms Z bc bs σ pc L st := fun ρ hρ => K.lload hd hl (k ρ hρ)
theorem J.lload_n {Λ : kL} {X : kX} {μ : kMi} {mc ms : Nat} {Z : State → Prop} {bc bs : Nat} {σ : kh} {pc : Nat} {L : List (Option Value)} {st : List Value} {i : Fin 4} {x : Int64} (hd : decode μ.2.1 pc = .ok (.lload_n i, 1)) (hl : L[(i : Nat)]? = some (some (.long x))) (k : J Λ X μ mc ms Z bc bs σ (pc + 1) L (.long x :: st)) : J Λ X μ mc ms Z bc bs σ pc L st := fun ρ hρ => K.lload_n hd hl (k ρ hρ)
theorem J.aload {Λ : kL} {X : kX} {μ : kMi} {mc ms : Nat} {Z : State → Prop} {bc bs : Nat} {σ : kh} {pc : Nat} {L : List (Option Value)} {st : List Value} {i : Nat} {r : Option Nat} (hd : decode μ.2.1 pc = .ok (.aload i, 2)) (hl : L[i]? = some (some (va_rf r))) (k : J Λ X μ mc ms Z bc bs σ (pc + 2) L (va_rf r :: st)) : J Λ X μ mc ms Z bc bs σ pc L st := fun ρ hρ => K.aload hd hl (k ρ hρ)
theorem J.aload_n {Λ : kL} {X : kX} {μ : kMi} {mc ms : Nat} {Z : State → Prop} {bc bs : Nat} {σ : kh} {pc : Nat} {L : List (Option Value)} {st : List Value} {i : Fin 4} {r : Option Nat} (hd : decode μ.2.1 pc = .ok (.aload_n i, 1)) (hl : L[(i : Nat)]? = some (some (va_rf r))) (k : J Λ X μ mc ms Z bc bs σ (pc + 1) L (va_rf r :: st)) : J Λ X μ mc ms Z bc bs σ pc L st := fun ρ hρ => K.aload_n hd hl (k ρ hρ)
theorem J.aloadR {Λ : kL} {X : kX} {μ : kMi} {mc ms : Nat} {Z : State → Prop} {bc bs : Nat} {σ : kh} {pc : Nat} {L : List (Option Value)} {st : List Value} {i : Nat} {x : Nat} (hd : decode μ.2.1 pc = .ok (.aload i, 2)) (hl : L[i]? = some (some (.ref x))) (k : J Λ X μ mc ms Z bc bs σ (pc + 2) L ((.ref x) :: st)) : J Λ X μ mc ms Z bc bs σ pc L st := fun ρ hρ => K.aloadR hd hl (k ρ hρ)
theorem J.aloadN {Λ : kL} {X : kX} {μ : kMi} {mc ms : Nat} {Z : State → Prop} {bc bs : Nat} {σ : kh} {pc : Nat} {L : List (Option Value)} {st : List Value} {i : Nat} (hd : decode μ.2.1 pc = .ok (.aload i, 2)) (hl : L[i]? = some (some .null)) (k : J Λ X μ mc ms Z bc bs σ (pc + 2) L (.null :: st)) : J Λ X μ mc ms Z bc bs σ pc L st := fun ρ hρ => K.aloadN hd hl (k ρ hρ)
theorem J.aload_nR {Λ : kL} {X : kX} {μ : kMi} {mc ms : Nat} {Z : State → Prop} {bc bs : Nat} {σ : kh} {pc : Nat} {L : List (Option Value)} {st : List Value} {i : Fin 4} {x : Nat} (hd : decode μ.2.1 pc = .ok (.aload_n i, 1)) (hl : L[(i : Nat)]? = some (some (.ref x))) (k : J Λ X μ mc ms Z bc bs σ (pc + 1) L ((.ref x) :: st)) : J Λ X μ mc ms Z bc bs σ pc L st := fun ρ hρ => K.aload_nR hd hl (k ρ hρ)
theorem J.aload_nN {Λ : kL} {X : kX} {μ : kMi} {mc ms : Nat} {Z : State → Prop} {bc bs : Nat} {σ : kh} {pc : Nat} {L : List (Option Value)} {st : List Value} {i : Fin 4} (hd : decode μ.2.1 pc = .ok (.aload_n i, 1)) (hl : L[(i : Nat)]? = some (some .null)) (k : J Λ X μ mc ms Z bc bs σ (pc + 1) L (.null :: st)) : J Λ X μ mc ms Z bc bs σ pc L st := fun ρ hρ => K.aload_nN hd hl (k ρ hρ)
theorem J.istore {Λ : kL} {X : kX} {μ : kMi} {mc ms : Nat} {Z : State → Prop} {bc bs : Nat} {σ : kh} {pc : Nat} {L : List (Option Value)} {st : List Value} {i : Nat} {x : Int32} {L' : List (Option Value)} (hd : decode μ.2.1 pc = .ok (.istore i, 2)) (hi : i < μ.2.2.1) (hp : kprev L i = true) (hL : L.set i (some (.int x)) = L') (k : J Λ X μ mc ms Z bc bs σ (pc + 2) L' st) : J Λ X μ mc ms Z bc bs σ pc L (.int x :: st) := fun ρ hρ => K.istore hd hi hp hL (k ρ hρ)
theorem J.istore_n {Λ : kL} {X : kX} {μ : kMi} {mc ms : Nat} {Z : State → Prop} {bc bs : Nat} {σ : kh} {pc : Nat} {L : List (Option Value)} {st : List Value} {i : Fin 4} {x : Int32} {L' : List (Option Value)} (hd : decode μ.2.1 pc = .ok (.istore_n i, 1)) (hi : (i : Nat) < μ.2.2.1) (hp : kprev L (i : Nat) = true) (hL : L.set (i : Nat) (some (.int x)) = L') (k : J Λ X μ mc ms Z bc bs σ (pc + 1) L' st) : J Λ X μ mc ms Z bc bs σ pc L (.int x :: st) := fun ρ hρ => K.istore_n hd hi hp hL (k ρ hρ)
theorem J.astore {Λ : kL} {X : kX} {μ : kMi} {mc ms : Nat} {Z : State → Prop} {bc bs : Nat} {σ : kh} {pc : Nat} {L : List (Option Value)} {st : List Value} {i : Nat} {x : Nat} {L' : List (Option Value)} (hd : decode μ.2.1 pc = .ok (.astore i, 2)) (hi : i < μ.2.2.1) (hp : kprev L i = true) (hL : L.set i (some (.ref x)) = L') (k : J Λ X μ mc ms Z bc bs σ (pc + 2) L' st) : J Λ X μ mc ms Z bc bs σ pc L (.ref x :: st) := fun ρ hρ => K.astore hd hi hp hL (k ρ hρ)
theorem J.astore_n {Λ : kL} {X : kX} {μ : kMi} {mc ms : Nat} {Z : State → Prop} {bc bs : Nat} {σ : kh} {pc : Nat} {L : List (Option Value)} {st : List Value} {i : Fin 4} {x : Nat} {L' : List (Option Value)} (hd : decode μ.2.1 pc = .ok (.astore_n i, 1)) (hi : (i : Nat) < μ.2.2.1) (hp : kprev L (i : Nat) = true) (hL : L.set (i : Nat) (some (.ref x)) = L') (k : J Λ X μ mc ms Z bc bs σ (pc + 1) L' st) : J Λ X μ mc ms Z bc bs σ pc L (.ref x :: st) := fun ρ hρ => K.astore_n hd hi hp hL (k ρ hρ)
theorem J.astoreN {Λ : kL} {X : kX} {μ : kMi} {mc ms : Nat} {Z : State → Prop} {bc bs : Nat} {σ : kh} {pc : Nat} {L : List (Option Value)} {st : List Value} {i : Nat} {L' : List (Option Value)} (hd : decode μ.2.1 pc = .ok (.astore i, 2)) (hi : i < μ.2.2.1) (hp : kprev L i = true) (hL : L.set i (some (.null)) = L') (k : J Λ X μ mc ms Z bc bs σ (pc + 2) L' st) : J Λ X μ mc ms Z bc bs σ pc L (.null :: st) := fun ρ hρ => K.astoreN hd hi hp hL (k ρ hρ)
theorem J.astore_nN {Λ : kL} {X : kX} {μ : kMi} {mc ms : Nat} {Z : State → Prop} {bc bs : Nat} {σ : kh} {pc : Nat} {L : List (Option Value)} {st : List Value} {i : Fin 4} {L' : List (Option Value)} (hd : decode μ.2.1 pc = .ok (.astore_n i, 1)) (hi : (i : Nat) < μ.2.2.1) (hp : kprev L (i : Nat) = true) (hL : L.set (i : Nat) (some (.null)) = L') (k : J Λ X μ mc ms Z bc bs σ (pc + 1) L' st) : J Λ X μ mc ms Z bc bs σ pc L (.null :: st) := fun ρ hρ => K.astore_nN hd hi hp hL (k ρ hρ)
theorem J.lstore {Λ : kL} {X : kX} {μ : kMi} {mc ms : Nat} {Z : State → Prop} {bc bs : Nat} {σ : kh} {pc : Nat} {L : List (Option Value)} {st : List Value} {i : Nat} {x : Int64} {L' : List (Option Value)} (hd : decode μ.2.1 pc = .ok (.lstore i, 2)) (hi : i + 1 < μ.2.2.1) (hp : kprev L i = true) (hL : (L.set i (some (.long x))).set (i + 1) none = L') (k : J Λ X μ mc ms Z bc bs σ (pc + 2) L' st) : J Λ X μ mc ms Z bc bs σ pc L (.long x :: st) := fun ρ hρ => K.lstore hd hi hp hL (k ρ hρ)
theorem J.lstore_n {Λ : kL} {X : kX} {μ : kMi} {mc ms : Nat} {Z : State → Prop} {bc bs : Nat} {σ : kh} {pc : Nat} {L : List (Option Value)} {st : List Value} {i : Fin 4} {x : Int64} {L' : List (Option Value)} (hd : decode μ.2.1 pc = .ok (.lstore_n i, 1)) (hi : (i : Nat) + 1 < μ.2.2.1) (hp : kprev L (i : Nat) = true) (hL : (L.set (i : Nat) (some (.long x))).set ((i : Nat) + 1) none = L') (k : J Λ X μ mc ms Z bc bs σ (pc + 1) L' st) : J Λ X μ mc ms Z bc bs σ pc L (.long x :: st) := fun ρ hρ => K.lstore_n hd hi hp hL (k ρ hρ)
theorem J.iinc {Λ : kL} {X : kX} {μ : kMi} {mc ms : Nat} {Z : State → Prop} {bc bs : Nat} {σ : kh} {pc : Nat} {L : List (Option Value)} {st : List Value} {i : Nat} {j : Int} {x v : Int32} {L' : List (Option Value)} (hd : decode μ.2.1 pc = .ok (.iinc i j, 3)) (hx : L[i]? = some (some (.int x))) (hv : x + Int32.ofInt j = v) (hi : i < μ.2.2.1) (hp : kprev L i = true) (hL : L.set i (some (.int v)) = L') (k : J Λ X μ mc ms Z bc bs σ (pc + 3) L' st) : J Λ X μ mc ms Z bc bs σ pc L st := fun ρ hρ => K.iinc hd hx hv hi hp hL (k ρ hρ)
theorem J.iadd {Λ : kL} {X : kX} {μ : kMi} {mc ms : Nat} {Z : State → Prop} {bc bs : Nat} {σ : kh} {pc : Nat} {L : List (Option Value)} {st : List Value} {x y : Int32} (hd : decode μ.2.1 pc = .ok (.iadd, 1))  (k : J Λ X μ mc ms Z bc bs σ (pc + 1) L (.int (x + y) :: st)) : J Λ X μ mc ms Z bc bs σ pc L (.int y :: .int x :: st) := fun ρ hρ => K.iadd hd (k ρ hρ)
theorem J.isub {Λ : kL} {X : kX} {μ : kMi} {mc ms : Nat} {Z : State → Prop} {bc bs : Nat} {σ : kh} {pc : Nat} {L : List (Option Value)} {st : List Value} {x y : Int32} (hd : decode μ.2.1 pc = .ok (.isub, 1))  (k : J Λ X μ mc ms Z bc bs σ (pc + 1) L (.int (x - y) :: st)) : J Λ X μ mc ms Z bc bs σ pc L (.int y :: .int x :: st) := fun ρ hρ => K.isub hd (k ρ hρ)
theorem J.imul {Λ : kL} {X : kX} {μ : kMi} {mc ms : Nat} {Z : State → Prop} {bc bs : Nat} {σ : kh} {pc : Nat} {L : List (Option Value)} {st : List Value} {x y : Int32} (hd : decode μ.2.1 pc = .ok (.imul, 1))  (k : J Λ X μ mc ms Z bc bs σ (pc + 1) L (.int (x * y) :: st)) : J Λ X μ mc ms Z bc bs σ pc L (.int y :: .int x :: st) := fun ρ hρ => K.imul hd (k ρ hρ)
theorem J.iand {Λ : kL} {X : kX} {μ : kMi} {mc ms : Nat} {Z : State → Prop} {bc bs : Nat} {σ : kh} {pc : Nat} {L : List (Option Value)} {st : List Value} {x y : Int32} (hd : decode μ.2.1 pc = .ok (.iand, 1))  (k : J Λ X μ mc ms Z bc bs σ (pc + 1) L (.int (x &&& y) :: st)) : J Λ X μ mc ms Z bc bs σ pc L (.int y :: .int x :: st) := fun ρ hρ => K.iand hd (k ρ hρ)
theorem J.ior {Λ : kL} {X : kX} {μ : kMi} {mc ms : Nat} {Z : State → Prop} {bc bs : Nat} {σ : kh} {pc : Nat} {L : List (Option Value)} {st : List Value} {x y : Int32} (hd : decode μ.2.1 pc = .ok (.ior, 1))  (k : J Λ X μ mc ms Z bc bs σ (pc + 1) L (.int (x ||| y) :: st)) : J Λ X μ mc ms Z bc bs σ pc L (.int y :: .int x :: st) := fun ρ hρ => K.ior hd (k ρ hρ)
theorem J.ixor {Λ : kL} {X : kX} {μ : kMi} {mc ms : Nat} {Z : State → Prop} {bc bs : Nat} {σ : kh} {pc : Nat} {L : List (Option Value)} {st : List Value} {x y : Int32} (hd : decode μ.2.1 pc = .ok (.ixor, 1))  (k : J Λ X μ mc ms Z bc bs σ (pc + 1) L (.int (x ^^^ y) :: st)) : J Λ X μ mc ms Z bc bs σ pc L (.int y :: .int x :: st) := fun ρ hρ => K.ixor hd (k ρ hρ)
theorem J.ishl {Λ : kL} {X : kX} {μ : kMi} {mc ms : Nat} {Z : State → Prop} {bc bs : Nat} {σ : kh} {pc : Nat} {L : List (Option Value)} {st : List Value} {x y : Int32} (hd : decode μ.2.1 pc = .ok (.ishl, 1))  (k : J Λ X μ mc ms Z bc bs σ (pc + 1) L (.int (x <<< (y &&& 31)) :: st)) : J Λ X μ mc ms Z bc bs σ pc L (.int y :: .int x :: st) := fun ρ hρ => K.ishl hd (k ρ hρ)
theorem J.ishr {Λ : kL} {X : kX} {μ : kMi} {mc ms : Nat} {Z : State → Prop} {bc bs : Nat} {σ : kh} {pc : Nat} {L : List (Option Value)} {st : List Value} {x y : Int32} (hd : decode μ.2.1 pc = .ok (.ishr, 1))  (k : J Λ X μ mc ms Z bc bs σ (pc + 1) L (.int (x >>> (y &&& 31)) :: st)) : J Λ X μ mc ms Z bc bs σ pc L (.int y :: .int x :: st) := fun ρ hρ => K.ishr hd (k ρ hρ)
theorem J.iushr {Λ : kL} {X : kX} {μ : kMi} {mc ms : Nat} {Z : State → Prop} {bc bs : Nat} {σ : kh} {pc : Nat} {L : List (Option Value)} {st : List Value} {x y v : Int32} (hd : decode μ.2.1 pc = .ok (.iushr, 1)) (hv : (x.toUInt32 >>> (y.toUInt32 &&& Int32.toUInt32 31)).toInt32 = v) (k : J Λ X μ mc ms Z bc bs σ (pc + 1) L (.int v :: st)) : J Λ X μ mc ms Z bc bs σ pc L (.int y :: .int x :: st) := fun ρ hρ => K.iushr hd hv (k ρ hρ)
theorem J.idiv {Λ : kL} {X : kX} {μ : kMi} {mc ms : Nat} {Z : State → Prop} {bc bs : Nat} {σ : kh} {pc : Nat} {L : List (Option Value)} {st : List Value} {x y : Int32} (hd : decode μ.2.1 pc = .ok (.idiv, 1)) (hne : ¬ y = 0) (k : J Λ X μ mc ms Z bc bs σ (pc + 1) L (.int (x / y) :: st)) : J Λ X μ mc ms Z bc bs σ pc L (.int y :: .int x :: st) := fun ρ hρ => K.idiv hd hne (k ρ hρ)
theorem J.irem {Λ : kL} {X : kX} {μ : kMi} {mc ms : Nat} {Z : State → Prop} {bc bs : Nat} {σ : kh} {pc : Nat} {L : List (Option Value)} {st : List Value} {x y : Int32} (hd : decode μ.2.1 pc = .ok (.irem, 1)) (hne : ¬ y = 0) (k : J Λ X μ mc ms Z bc bs σ (pc + 1) L (.int (x - x / y * y) :: st)) : J Λ X μ mc ms Z bc bs σ pc L (.int y :: .int x :: st) := fun ρ hρ => K.irem hd hne (k ρ hρ)
theorem J.ladd {Λ : kL} {X : kX} {μ : kMi} {mc ms : Nat} {Z : State → Prop} {bc bs : Nat} {σ : kh} {pc : Nat} {L : List (Option Value)} {st : List Value} {x y : Int64} (hd : decode μ.2.1 pc = .ok (.ladd, 1))  (k : J Λ X μ mc ms Z bc bs σ (pc + 1) L (.long (x + y) :: st)) : J Λ X μ mc ms Z bc bs σ pc L (.long y :: .long x :: st) := fun ρ hρ => K.ladd hd (k ρ hρ)
theorem J.land {Λ : kL} {X : kX} {μ : kMi} {mc ms : Nat} {Z : State → Prop} {bc bs : Nat} {σ : kh} {pc : Nat} {L : List (Option Value)} {st : List Value} {x y : Int64} (hd : decode μ.2.1 pc = .ok (.land, 1))  (k : J Λ X μ mc ms Z bc bs σ (pc + 1) L (.long (x &&& y) :: st)) : J Λ X μ mc ms Z bc bs σ pc L (.long y :: .long x :: st) := fun ρ hρ => K.land hd (k ρ hρ)
theorem J.lor {Λ : kL} {X : kX} {μ : kMi} {mc ms : Nat} {Z : State → Prop} {bc bs : Nat} {σ : kh} {pc : Nat} {L : List (Option Value)} {st : List Value} {x y : Int64} (hd : decode μ.2.1 pc = .ok (.lor, 1))  (k : J Λ X μ mc ms Z bc bs σ (pc + 1) L (.long (x ||| y) :: st)) : J Λ X μ mc ms Z bc bs σ pc L (.long y :: .long x :: st) := fun ρ hρ => K.lor hd (k ρ hρ)
theorem J.lshl {Λ : kL} {X : kX} {μ : kMi} {mc ms : Nat} {Z : State → Prop} {bc bs : Nat} {σ : kh} {pc : Nat} {L : List (Option Value)} {st : List Value} {x v : Int64} {y : Int32} (hd : decode μ.2.1 pc = .ok (.lshl, 1)) (hv : x <<< (y.toInt64 &&& 63) = v) (k : J Λ X μ mc ms Z bc bs σ (pc + 1) L (.long v :: st)) : J Λ X μ mc ms Z bc bs σ pc L (.int y :: .long x :: st) := fun ρ hρ => K.lshl hd hv (k ρ hρ)
theorem J.lushr {Λ : kL} {X : kX} {μ : kMi} {mc ms : Nat} {Z : State → Prop} {bc bs : Nat} {σ : kh} {pc : Nat} {L : List (Option Value)} {st : List Value} {x v : Int64} {y : Int32} (hd : decode μ.2.1 pc = .ok (.lushr, 1)) (hv : (x.toUInt64 >>> (y.toInt64.toUInt64 &&& Int64.toUInt64 63)).toInt64 = v) (k : J Λ X μ mc ms Z bc bs σ (pc + 1) L (.long v :: st)) : J Λ X μ mc ms Z bc bs σ pc L (.int y :: .long x :: st) := fun ρ hρ => K.lushr hd hv (k ρ hρ)
theorem J.i2l {Λ : kL} {X : kX} {μ : kMi} {mc ms : Nat} {Z : State → Prop} {bc bs : Nat} {σ : kh} {pc : Nat} {L : List (Option Value)} {st : List Value} {x : Int32} (hd : decode μ.2.1 pc = .ok (.i2l, 1))  (k : J Λ X μ mc ms Z bc bs σ (pc + 1) L (.long x.toInt64 :: st)) : J Λ X μ mc ms Z bc bs σ pc L (.int x :: st) := fun ρ hρ => K.i2l hd (k ρ hρ)
theorem J.l2i {Λ : kL} {X : kX} {μ : kMi} {mc ms : Nat} {Z : State → Prop} {bc bs : Nat} {σ : kh} {pc : Nat} {L : List (Option Value)} {st : List Value} {x : Int64} (hd : decode μ.2.1 pc = .ok (.l2i, 1))  (k : J Λ X μ mc ms Z bc bs σ (pc + 1) L (.int x.toInt32 :: st)) : J Λ X μ mc ms Z bc bs σ pc L (.long x :: st) := fun ρ hρ => K.l2i hd (k ρ hρ)
theorem J.i2b {Λ : kL} {X : kX} {μ : kMi} {mc ms : Nat} {Z : State → Prop} {bc bs : Nat} {σ : kh} {pc : Nat} {L : List (Option Value)} {st : List Value} {x : Int32} (hd : decode μ.2.1 pc = .ok (.i2b, 1))  (k : J Λ X μ mc ms Z bc bs σ (pc + 1) L (.int x.toInt8.toInt32 :: st)) : J Λ X μ mc ms Z bc bs σ pc L (.int x :: st) := fun ρ hρ => K.i2b hd (k ρ hρ)
theorem J.dup {Λ : kL} {X : kX} {μ : kMi} {mc ms : Nat} {Z : State → Prop} {bc bs : Nat} {σ : kh} {pc : Nat} {L : List (Option Value)} {st : List Value} {v : Value} (hd : decode μ.2.1 pc = .ok (.dup, 1)) (hv : v.category = 1) (k : J Λ X μ mc ms Z bc bs σ (pc + 1) L (v :: v :: st)) : J Λ X μ mc ms Z bc bs σ pc L (v :: st) := fun ρ hρ => K.dup hd hv (k ρ hρ)
theorem J.pop {Λ : kL} {X : kX} {μ : kMi} {mc ms : Nat} {Z : State → Prop} {bc bs : Nat} {σ : kh} {pc : Nat} {L : List (Option Value)} {st : List Value} {v : Value} (hd : decode μ.2.1 pc = .ok (.pop, 1)) (hv : v.category = 1) (k : J Λ X μ mc ms Z bc bs σ (pc + 1) L st) : J Λ X μ mc ms Z bc bs σ pc L (v :: st) := fun ρ hρ => K.pop hd hv (k ρ hρ)
theorem J.dup_x1 {Λ : kL} {X : kX} {μ : kMi} {mc ms : Nat} {Z : State → Prop} {bc bs : Nat} {σ : kh} {pc : Nat} {L : List (Option Value)} {st : List Value} {v w : Value} (hd : decode μ.2.1 pc = .ok (.dup_x1, 1)) (hv : v.category = 1) (hw : w.category = 1) (k : J Λ X μ mc ms Z bc bs σ (pc + 1) L (v :: w :: v :: st)) : J Λ X μ mc ms Z bc bs σ pc L (v :: w :: st) := fun ρ hρ => K.dup_x1 hd hv hw (k ρ hρ)
theorem J.dup2 {Λ : kL} {X : kX} {μ : kMi} {mc ms : Nat} {Z : State → Prop} {bc bs : Nat} {σ : kh} {pc : Nat} {L : List (Option Value)} {st : List Value} {v w : Value} (hd : decode μ.2.1 pc = .ok (.dup2, 1)) (hv : v.category = 1) (hw : w.category = 1) (k : J Λ X μ mc ms Z bc bs σ (pc + 1) L (v :: w :: v :: w :: st)) : J Λ X μ mc ms Z bc bs σ pc L (v :: w :: st) := fun ρ hρ => K.dup2 hd hv hw (k ρ hρ)
theorem J.goto {Λ : kL} {X : kX} {μ : kMi} {mc ms : Nat} {Z : State → Prop} {bc bs : Nat} {σ : kh} {pc : Nat} {L : List (Option Value)} {st : List Value} {off : Int} {tgt : Nat} (hd : decode μ.2.1 pc = .ok (.goto off, 3)) (ht : (pc : Int) + off = (tgt : Int)) (k : J Λ X μ mc ms Z bc bs σ tgt L st) : J Λ X μ mc ms Z bc bs σ pc L st := fun ρ hρ => K.goto hd ht (k ρ hρ)
theorem J.if_eq {Λ : kL} {X : kX} {μ : kMi} {mc ms : Nat} {Z : State → Prop} {bc bs : Nat} {σ : kh} {pc : Nat} {L : List (Option Value)} {st : List Value} {x : Int32} {off : Int} {tgt : Nat} (hd : decode μ.2.1 pc = .ok (.ifCond .eq off, 3)) (ht : (pc : Int) + off = (tgt : Int)) (kt : x = 0 → J Λ X μ mc ms Z bc bs σ tgt L st) (kf : ¬ (x = 0) → J Λ X μ mc ms Z bc bs σ (pc + 3) L st) : J Λ X μ mc ms Z bc bs σ pc L (.int x :: st) := fun ρ hρ => K.if_eq hd ht (fun h9 => kt h9 ρ hρ) (fun h9 => kf h9 ρ hρ)
theorem J.if_ne {Λ : kL} {X : kX} {μ : kMi} {mc ms : Nat} {Z : State → Prop} {bc bs : Nat} {σ : kh} {pc : Nat} {L : List (Option Value)} {st : List Value} {x : Int32} {off : Int} {tgt : Nat} (hd : decode μ.2.1 pc = .ok (.ifCond .ne off, 3)) (ht : (pc : Int) + off = (tgt : Int)) (kt : ¬ x = 0 → J Λ X μ mc ms Z bc bs σ tgt L st) (kf : x = 0 → J Λ X μ mc ms Z bc bs σ (pc + 3) L st) : J Λ X μ mc ms Z bc bs σ pc L (.int x :: st) := fun ρ hρ => K.if_ne hd ht (fun h9 => kt h9 ρ hρ) (fun h9 => kf h9 ρ hρ)
theorem J.if_lt {Λ : kL} {X : kX} {μ : kMi} {mc ms : Nat} {Z : State → Prop} {bc bs : Nat} {σ : kh} {pc : Nat} {L : List (Option Value)} {st : List Value} {x : Int32} {off : Int} {tgt : Nat} (hd : decode μ.2.1 pc = .ok (.ifCond .lt off, 3)) (ht : (pc : Int) + off = (tgt : Int)) (kt : x < 0 → J Λ X μ mc ms Z bc bs σ tgt L st) (kf : ¬ (x < 0) → J Λ X μ mc ms Z bc bs σ (pc + 3) L st) : J Λ X μ mc ms Z bc bs σ pc L (.int x :: st) := fun ρ hρ => K.if_lt hd ht (fun h9 => kt h9 ρ hρ) (fun h9 => kf h9 ρ hρ)
theorem J.if_ge {Λ : kL} {X : kX} {μ : kMi} {mc ms : Nat} {Z : State → Prop} {bc bs : Nat} {σ : kh} {pc : Nat} {L : List (Option Value)} {st : List Value} {x : Int32} {off : Int} {tgt : Nat} (hd : decode μ.2.1 pc = .ok (.ifCond .ge off, 3)) (ht : (pc : Int) + off = (tgt : Int)) (kt : 0 ≤ x → J Λ X μ mc ms Z bc bs σ tgt L st) (kf : ¬ (0 ≤ x) → J Λ X μ mc ms Z bc bs σ (pc + 3) L st) : J Λ X μ mc ms Z bc bs σ pc L (.int x :: st) := fun ρ hρ => K.if_ge hd ht (fun h9 => kt h9 ρ hρ) (fun h9 => kf h9 ρ hρ)
theorem J.if_gt {Λ : kL} {X : kX} {μ : kMi} {mc ms : Nat} {Z : State → Prop} {bc bs : Nat} {σ : kh} {pc : Nat} {L : List (Option Value)} {st : List Value} {x : Int32} {off : Int} {tgt : Nat} (hd : decode μ.2.1 pc = .ok (.ifCond .gt off, 3)) (ht : (pc : Int) + off = (tgt : Int)) (kt : 0 < x → J Λ X μ mc ms Z bc bs σ tgt L st) (kf : ¬ (0 < x) → J Λ X μ mc ms Z bc bs σ (pc + 3) L st) : J Λ X μ mc ms Z bc bs σ pc L (.int x :: st) := fun ρ hρ => K.if_gt hd ht (fun h9 => kt h9 ρ hρ) (fun h9 => kf h9 ρ hρ)
theorem J.if_le {Λ : kL} {X : kX} {μ : kMi} {mc ms : Nat} {Z : State → Prop} {bc bs : Nat} {σ : kh} {pc : Nat} {L : List (Option Value)} {st : List Value} {x : Int32} {off : Int} {tgt : Nat} (hd : decode μ.2.1 pc = .ok (.ifCond .le off, 3)) (ht : (pc : Int) + off = (tgt : Int)) (kt : x ≤ 0 → J Λ X μ mc ms Z bc bs σ tgt L st) (kf : ¬ (x ≤ 0) → J Λ X μ mc ms Z bc bs σ (pc + 3) L st) : J Λ X μ mc ms Z bc bs σ pc L (.int x :: st) := fun ρ hρ => K.if_le hd ht (fun h9 => kt h9 ρ hρ) (fun h9 => kf h9 ρ hρ)
theorem J.icmp_eq {Λ : kL} {X : kX} {μ : kMi} {mc ms : Nat} {Z : State → Prop} {bc bs : Nat} {σ : kh} {pc : Nat} {L : List (Option Value)} {st : List Value} {x y : Int32} {off : Int} {tgt : Nat} (hd : decode μ.2.1 pc = .ok (.if_icmp .eq off, 3)) (ht : (pc : Int) + off = (tgt : Int)) (kt : x = y → J Λ X μ mc ms Z bc bs σ tgt L st) (kf : ¬ (x = y) → J Λ X μ mc ms Z bc bs σ (pc + 3) L st) : J Λ X μ mc ms Z bc bs σ pc L (.int y :: .int x :: st) := fun ρ hρ => K.icmp_eq hd ht (fun h9 => kt h9 ρ hρ) (fun h9 => kf h9 ρ hρ)
theorem J.icmp_ne {Λ : kL} {X : kX} {μ : kMi} {mc ms : Nat} {Z : State → Prop} {bc bs : Nat} {σ : kh} {pc : Nat} {L : List (Option Value)} {st : List Value} {x y : Int32} {off : Int} {tgt : Nat} (hd : decode μ.2.1 pc = .ok (.if_icmp .ne off, 3)) (ht : (pc : Int) + off = (tgt : Int)) (kt : ¬ x = y → J Λ X μ mc ms Z bc bs σ tgt L st) (kf : x = y → J Λ X μ mc ms Z bc bs σ (pc + 3) L st) : J Λ X μ mc ms Z bc bs σ pc L (.int y :: .int x :: st) := fun ρ hρ => K.icmp_ne hd ht (fun h9 => kt h9 ρ hρ) (fun h9 => kf h9 ρ hρ)
theorem J.icmp_lt {Λ : kL} {X : kX} {μ : kMi} {mc ms : Nat} {Z : State → Prop} {bc bs : Nat} {σ : kh} {pc : Nat} {L : List (Option Value)} {st : List Value} {x y : Int32} {off : Int} {tgt : Nat} (hd : decode μ.2.1 pc = .ok (.if_icmp .lt off, 3)) (ht : (pc : Int) + off = (tgt : Int)) (kt : x < y → J Λ X μ mc ms Z bc bs σ tgt L st) (kf : ¬ (x < y) → J Λ X μ mc ms Z bc bs σ (pc + 3) L st) : J Λ X μ mc ms Z bc bs σ pc L (.int y :: .int x :: st) := fun ρ hρ => K.icmp_lt hd ht (fun h9 => kt h9 ρ hρ) (fun h9 => kf h9 ρ hρ)
theorem J.icmp_ge {Λ : kL} {X : kX} {μ : kMi} {mc ms : Nat} {Z : State → Prop} {bc bs : Nat} {σ : kh} {pc : Nat} {L : List (Option Value)} {st : List Value} {x y : Int32} {off : Int} {tgt : Nat} (hd : decode μ.2.1 pc = .ok (.if_icmp .ge off, 3)) (ht : (pc : Int) + off = (tgt : Int)) (kt : y ≤ x → J Λ X μ mc ms Z bc bs σ tgt L st) (kf : ¬ (y ≤ x) → J Λ X μ mc ms Z bc bs σ (pc + 3) L st) : J Λ X μ mc ms Z bc bs σ pc L (.int y :: .int x :: st) := fun ρ hρ => K.icmp_ge hd ht (fun h9 => kt h9 ρ hρ) (fun h9 => kf h9 ρ hρ)
theorem J.icmp_gt {Λ : kL} {X : kX} {μ : kMi} {mc ms : Nat} {Z : State → Prop} {bc bs : Nat} {σ : kh} {pc : Nat} {L : List (Option Value)} {st : List Value} {x y : Int32} {off : Int} {tgt : Nat} (hd : decode μ.2.1 pc = .ok (.if_icmp .gt off, 3)) (ht : (pc : Int) + off = (tgt : Int)) (kt : y < x → J Λ X μ mc ms Z bc bs σ tgt L st) (kf : ¬ (y < x) → J Λ X μ mc ms Z bc bs σ (pc + 3) L st) : J Λ X μ mc ms Z bc bs σ pc L (.int y :: .int x :: st) := fun ρ hρ => K.icmp_gt hd ht (fun h9 => kt h9 ρ hρ) (fun h9 => kf h9 ρ hρ)
theorem J.icmp_le {Λ : kL} {X : kX} {μ : kMi} {mc ms : Nat} {Z : State → Prop} {bc bs : Nat} {σ : kh} {pc : Nat} {L : List (Option Value)} {st : List Value} {x y : Int32} {off : Int} {tgt : Nat} (hd : decode μ.2.1 pc = .ok (.if_icmp .le off, 3)) (ht : (pc : Int) + off = (tgt : Int)) (kt : x ≤ y → J Λ X μ mc ms Z bc bs σ tgt L st) (kf : ¬ (x ≤ y) → J Λ X μ mc ms Z bc bs σ (pc + 3) L st) : J Λ X μ mc ms Z bc bs σ pc L (.int y :: .int x :: st) := fun ρ hρ => K.icmp_le hd ht (fun h9 => kt h9 ρ hρ) (fun h9 => kf h9 ρ hρ)
theorem J.ifnullR {Λ : kL} {X : kX} {μ : kMi} {mc ms : Nat} {Z : State → Prop} {bc bs : Nat} {σ : kh} {pc : Nat} {L : List (Option Value)} {st : List Value} {x : Nat} {off : Int} (hd : decode μ.2.1 pc = .ok (.ifnull off, 3)) (k : J Λ X μ mc ms Z bc bs σ (pc + 3) L st) : J Λ X μ mc ms Z bc bs σ pc L (.ref x :: st) := fun ρ hρ => K.ifnullR hd (k ρ hρ)
theorem J.ifnullN {Λ : kL} {X : kX} {μ : kMi} {mc ms : Nat} {Z : State → Prop} {bc bs : Nat} {σ : kh} {pc : Nat} {L : List (Option Value)} {st : List Value} {off : Int} {tgt : Nat} (hd : decode μ.2.1 pc = .ok (.ifnull off, 3)) (ht : (pc : Int) + off = (tgt : Int)) (k : J Λ X μ mc ms Z bc bs σ tgt L st) : J Λ X μ mc ms Z bc bs σ pc L (.null :: st) := fun ρ hρ => K.ifnullN hd ht (k ρ hρ)
theorem J.ifnonnullR {Λ : kL} {X : kX} {μ : kMi} {mc ms : Nat} {Z : State → Prop} {bc bs : Nat} {σ : kh} {pc : Nat} {L : List (Option Value)} {st : List Value} {x : Nat} {off : Int} {tgt : Nat} (hd : decode μ.2.1 pc = .ok (.ifnonnull off, 3)) (ht : (pc : Int) + off = (tgt : Int)) (k : J Λ X μ mc ms Z bc bs σ tgt L st) : J Λ X μ mc ms Z bc bs σ pc L (.ref x :: st) := fun ρ hρ => K.ifnonnullR hd ht (k ρ hρ)
theorem J.ifnonnullN {Λ : kL} {X : kX} {μ : kMi} {mc ms : Nat} {Z : State → Prop} {bc bs : Nat} {σ : kh} {pc : Nat} {L : List (Option Value)} {st : List Value} {off : Int} (hd : decode μ.2.1 pc = .ok (.ifnonnull off, 3)) (k : J Λ X μ mc ms Z bc bs σ (pc + 3) L st) : J Λ X μ mc ms Z bc bs σ pc L (.null :: st) := fun ρ hρ => K.ifnonnullN hd (k ρ hρ)
theorem J.tableOut {Λ : kL} {X : kX} {μ : kMi} {mc ms : Nat} {Z : State → Prop} {bc bs : Nat} {σ : kh} {pc : Nat} {L : List (Option Value)} {st : List Value} {dflt lo hi : Int} {offs : Array Int} {len : Nat} {x : Int32} {tgt : Nat} (hd : decode μ.2.1 pc = .ok (.tableswitch dflt lo hi offs, len)) (h : x.toInt < lo ∨ hi < x.toInt) (ht : (pc : Int) + dflt = (tgt : Int)) (k : J Λ X μ mc ms Z bc bs σ tgt L st) : J Λ X μ mc ms Z bc bs σ pc L (.int x :: st) := fun ρ hρ => K.tableOut hd h ht (k ρ hρ)
theorem J.tableIn {Λ : kL} {X : kX} {μ : kMi} {mc ms : Nat} {Z : State → Prop} {bc bs : Nat} {σ : kh} {pc : Nat} {L : List (Option Value)} {st : List Value} {dflt lo hi : Int} {offs : Array Int} {len : Nat} {x : Int32} {off : Int} {tgt : Nat} (hd : decode μ.2.1 pc = .ok (.tableswitch dflt lo hi offs, len)) (g1 : ¬ x.toInt < lo) (g2 : ¬ hi < x.toInt) (ho : offs[(x.toInt - lo).toNat]? = some off) (ht : (pc : Int) + off = (tgt : Int)) (k : J Λ X μ mc ms Z bc bs σ tgt L st) : J Λ X μ mc ms Z bc bs σ pc L (.int x :: st) := fun ρ hρ => K.tableIn hd g1 g2 ho ht (k ρ hρ)
theorem J.ldc {Λ : kL} {X : kX} {μ : kMi} {mc ms : Nat} {Z : State → Prop} {bc bs : Nat} {σ : kh} {pc : Nat} {L : List (Option Value)} {st : List Value} {ix : Nat} {v : Int32} (hd : decode μ.2.1 pc = .ok (.ldc ix, 2)) (hw : Cond.constant μ.1.cls ix v ∈ lw_tbl) (k : J Λ X μ mc ms Z bc bs σ (pc + 2) L (.int v :: st)) : J Λ X μ mc ms Z bc bs σ pc L st := fun ρ hρ => K.ldc hd hw (k ρ hρ)
theorem J.ldc2 {Λ : kL} {X : kX} {μ : kMi} {mc ms : Nat} {Z : State → Prop} {bc bs : Nat} {σ : kh} {pc : Nat} {L : List (Option Value)} {st : List Value} {ix : Nat} {v : Int64} (hd : decode μ.2.1 pc = .ok (.ldc2_w ix, 3)) (hw : Cond.constantLong μ.1.cls ix v ∈ lw_tbl) (k : J Λ X μ mc ms Z bc bs σ (pc + 3) L (.long v :: st)) : J Λ X μ mc ms Z bc bs σ pc L st := fun ρ hρ => K.ldc2 hd hw (k ρ hρ)
theorem J.less {Λ : kL} {X : kX} {μ : kMi} {mc ms : Nat} {Z : State → Prop} {bc bs : Nat} {σ : kh} {pc : Nat} {L : List (Option Value)} {st : List Value} {bc' bs' : Nat} (hc : bc' ≤ bc) (hs : bs' ≤ bs) (k : J Λ X μ mc ms Z bc' bs' σ pc L st) : J Λ X μ mc ms Z bc bs σ pc L st := fun ρ hρ => K.less hc hs (k ρ hρ)
theorem J.getf {Λ : kL} {X : kX} {μ : kMi} {mc ms : Nat} {Z : State → Prop} {bc bs : Nat} {σ : kh} {pc : Nat} {L : List (Option Value)} {st : List Value} {ix ci j a : Nat} {fs : List Value} {v : Value}
    (hd : decode μ.2.1 pc = .ok (.getfield ix, 3)) (hf : kFl μ.1.cls ix ci j) (h : σ a = some (.inr (ci, fs))) (hv : fs[j]? = some v) (k : J Λ X μ mc ms Z bc bs σ (pc + 3) L (v :: st)) : J Λ X μ mc ms Z bc bs σ pc L (.ref a :: st) := fun ρ hρ => by
  obtain ⟨C, T, N, ty, ref, hcls, h9⟩ := id hf
  exact K.getf hd hf (hρ.get h (hcls.ne fs)) hv (k ρ hρ)
theorem J.putf {Λ : kL} {X : kX} {μ : kMi} {mc ms : Nat} {Z : State → Prop} {bc bs : Nat} {σ : kh} {pc : Nat} {L : List (Option Value)} {st : List Value} {ix ci j a : Nat} {fs fs' : List Value} {v : Value} {t : FieldType} {fin : Bool}
    (hd : decode μ.2.1 pc = .ok (.putfield ix, 3)) (hf : kFp μ.1.cls ix ci j t fin) (hi : fin = true → μ.1.name = "<init>") (h : σ a = some (.inr (ci, fs))) (hn : narrow t v = v) (hfit : fits t v = true) (hl : j < fs.length) (he : fs.set j v = fs') (k : J Λ X μ mc ms Z bc bs (kup σ a (.inr (ci, fs'))) (pc + 3) L st) : J Λ X μ mc ms Z bc bs σ pc L (v :: .ref a :: st) := fun ρ hρ => by
  obtain ⟨C, T, N, ty, ref, hcls, h9⟩ := id hf
  exact K.putf hd hf hi (hρ.get h (hcls.ne fs)) hn hfit hl he (k _ (hρ.put h (hcls.ne fs) (hcls.ne fs')))
theorem J.new {Λ : kL} {X : kX} {μ : kMi} {mc ms : Nat} {Z : State → Prop} {bc bs : Nat} {σ : kh} {pc : Nat} {L : List (Option Value)} {st : List Value} {ix ci N : Nat} {fs : List Value}
    (hd : decode μ.2.1 pc = .ok (.new ix, 3)) (hw : kNw μ.1.cls ix ci N fs) (k : ∀ q : Nat, kB Λ ≤ q → (∀ a c, σ a = some c → a < q) → J Λ X μ mc ms Z bc bs (kup σ q (.inr (ci, fs))) (pc + 3) L (.ref q :: st)) : J Λ X μ mc ms Z (bc + 1) (bs + N) σ pc L st := fun ρ hρ => by
  obtain ⟨C, T, ty, hcls, h9⟩ := id hw
  refine K.new hd hw fun q hb hq => k q hb (fun a c ha => ?_) _ (hρ.mk hq (hcls.ne fs))
  obtain ⟨c9, h9⟩ := hρ.ex ha
  exact hq a c9 h9
theorem J.baload {Λ : kL} {X : kX} {μ : kMi} {mc ms : Nat} {Z : State → Prop} {bc bs : Nat} {σ : kh} {pc : Nat} {L : List (Option Value)} {st : List Value} {a j n : Nat} {f : Nat → Int32} {x : Int32} (hd : decode μ.2.1 pc = .ok (.baload, 1)) (h : σ a = some (aB n f)) (hx : x = nI j) (hj : j < n) (hn : n < 2 ^ 31) (k : J Λ X μ mc ms Z bc bs σ (pc + 1) L (.int (f j) :: st)) : J Λ X μ mc ms Z bc bs σ pc L (.int x :: .ref a :: st) := fun ρ hρ => K.baload hd (hρ.get h rfl) hx hj hn (k ρ hρ)
theorem J.iaload {Λ : kL} {X : kX} {μ : kMi} {mc ms : Nat} {Z : State → Prop} {bc bs : Nat} {σ : kh} {pc : Nat} {L : List (Option Value)} {st : List Value} {a j n : Nat} {f : Nat → Int32} {x : Int32} (hd : decode μ.2.1 pc = .ok (.iaload, 1)) (h : σ a = some (aI n f)) (hx : x = nI j) (hj : j < n) (hn : n < 2 ^ 31) (k : J Λ X μ mc ms Z bc bs σ (pc + 1) L (.int (f j) :: st)) : J Λ X μ mc ms Z bc bs σ pc L (.int x :: .ref a :: st) := fun ρ hρ => K.iaload hd (hρ.get h rfl) hx hj hn (k ρ hρ)
theorem J.zaload {Λ : kL} {X : kX} {μ : kMi} {mc ms : Nat} {Z : State → Prop} {bc bs : Nat} {σ : kh} {pc : Nat} {L : List (Option Value)} {st : List Value} {a j n : Nat} {f : Nat → Int32} {x : Int32} (hd : decode μ.2.1 pc = .ok (.baload, 1)) (h : σ a = some (aZ n f)) (hx : x = nI j) (hj : j < n) (hn : n < 2 ^ 31) (k : J Λ X μ mc ms Z bc bs σ (pc + 1) L (.int (f j) :: st)) : J Λ X μ mc ms Z bc bs σ pc L (.int x :: .ref a :: st) := fun ρ hρ => K.zaload hd (hρ.get h rfl) hx hj hn (k ρ hρ)
theorem J.laload {Λ : kL} {X : kX} {μ : kMi} {mc ms : Nat} {Z : State → Prop} {bc bs : Nat} {σ : kh} {pc : Nat} {L : List (Option Value)} {st : List Value} {a j n : Nat} {f : Nat → Int64} {x : Int32} (hd : decode μ.2.1 pc = .ok (.laload, 1)) (h : σ a = some (aL n f)) (hx : x = nI j) (hj : j < n) (hn : n < 2 ^ 31) (k : J Λ X μ mc ms Z bc bs σ (pc + 1) L (.long (f j) :: st)) : J Λ X μ mc ms Z bc bs σ pc L (.int x :: .ref a :: st) := fun ρ hρ => K.laload hd (hρ.get h rfl) hx hj hn (k ρ hρ)
theorem J.bastore {Λ : kL} {X : kX} {μ : kMi} {mc ms : Nat} {Z : State → Prop} {bc bs : Nat} {σ : kh} {pc : Nat} {L : List (Option Value)} {st : List Value} {a j n : Nat} {f : Nat → Int32} {i : Int32} {x : Int32} (hd : decode μ.2.1 pc = .ok (.bastore, 1)) (h : σ a = some (aB n f)) (hx : i = nI j) (hj : j < n) (hn : n < 2 ^ 31) (k : J Λ X μ mc ms Z bc bs (kup σ a (aB n (upd f j (vp_nar .byte x)))) (pc + 1) L st) : J Λ X μ mc ms Z bc bs σ pc L (.int x :: .int i :: .ref a :: st) := fun ρ hρ => K.bastore hd (hρ.get h rfl) hx hj hn (k _ (hρ.put h rfl rfl))
theorem J.iastore {Λ : kL} {X : kX} {μ : kMi} {mc ms : Nat} {Z : State → Prop} {bc bs : Nat} {σ : kh} {pc : Nat} {L : List (Option Value)} {st : List Value} {a j n : Nat} {f : Nat → Int32} {i : Int32} {x : Int32} (hd : decode μ.2.1 pc = .ok (.iastore, 1)) (h : σ a = some (aI n f)) (hx : i = nI j) (hj : j < n) (hn : n < 2 ^ 31) (k : J Λ X μ mc ms Z bc bs (kup σ a (aI n (upd f j x))) (pc + 1) L st) : J Λ X μ mc ms Z bc bs σ pc L (.int x :: .int i :: .ref a :: st) := fun ρ hρ => K.iastore hd (hρ.get h rfl) hx hj hn (k _ (hρ.put h rfl rfl))
theorem J.zastore {Λ : kL} {X : kX} {μ : kMi} {mc ms : Nat} {Z : State → Prop} {bc bs : Nat} {σ : kh} {pc : Nat} {L : List (Option Value)} {st : List Value} {a j n : Nat} {f : Nat → Int32} {i : Int32} {x : Int32} (hd : decode μ.2.1 pc = .ok (.bastore, 1)) (h : σ a = some (aZ n f)) (hx : i = nI j) (hj : j < n) (hn : n < 2 ^ 31) (k : J Λ X μ mc ms Z bc bs (kup σ a (aZ n (upd f j (vp_nar .boolean x)))) (pc + 1) L st) : J Λ X μ mc ms Z bc bs σ pc L (.int x :: .int i :: .ref a :: st) := fun ρ hρ => K.zastore hd (hρ.get h rfl) hx hj hn (k _ (hρ.put h rfl rfl))
theorem J.lastore {Λ : kL} {X : kX} {μ : kMi} {mc ms : Nat} {Z : State → Prop} {bc bs : Nat} {σ : kh} {pc : Nat} {L : List (Option Value)} {st : List Value} {a j n : Nat} {f : Nat → Int64} {i : Int32} {x : Int64} (hd : decode μ.2.1 pc = .ok (.lastore, 1)) (h : σ a = some (aL n f)) (hx : i = nI j) (hj : j < n) (hn : n < 2 ^ 31) (k : J Λ X μ mc ms Z bc bs (kup σ a (aL n (vp_updL f j x))) (pc + 1) L st) : J Λ X μ mc ms Z bc bs σ pc L (.long x :: .int i :: .ref a :: st) := fun ρ hρ => K.lastore hd (hρ.get h rfl) hx hj hn (k _ (hρ.put h rfl rfl))
theorem J.alen {Λ : kL} {X : kX} {μ : kMi} {mc ms : Nat} {Z : State → Prop} {bc bs : Nat} {σ : kh} {pc : Nat} {L : List (Option Value)} {st : List Value} {a t : Nat} {x : vp_A} {v : Int32} (hd : decode μ.2.1 pc = .ok (.arraylength, 1)) (h : σ a = some (.inl (t, x))) (ht : t < 5) (hv : nI x.1 = v) (k : J Λ X μ mc ms Z bc bs σ (pc + 1) L (.int v :: st)) : J Λ X μ mc ms Z bc bs σ pc L (.ref a :: st) := fun ρ hρ => K.alen hd (hρ.get h rfl) ht hv (k ρ hρ)
theorem J.newB {Λ : kL} {X : kX} {μ : kMi} {mc ms : Nat} {Z : State → Prop} {bc bs : Nat} {σ : kh} {pc : Nat} {L : List (Option Value)} {st : List Value} {x : Int32} {n : Nat} (hd : decode μ.2.1 pc = .ok (.newarray .byte, 2)) (hw : Cond.arrayClass (kty 0) ∈ lw_tbl) (hx : x = nI n) (hn : n ≤ 1000000) (k : ∀ q : Nat, kB Λ ≤ q → (∀ a c, σ a = some c → a < q) → J Λ X μ mc ms Z bc bs (kup σ q (aB n (fun _ => 0))) (pc + 2) L (.ref q :: st)) : J Λ X μ mc ms Z (bc + 1) (bs + n) σ pc L (.int x :: st) := fun ρ hρ => by
  refine K.newB hd hw hx hn fun q hb hq => k q hb (fun a c ha => ?_) _ (hρ.mk hq rfl)
  obtain ⟨c9, h9⟩ := hρ.ex ha
  exact hq a c9 h9
theorem J.newI {Λ : kL} {X : kX} {μ : kMi} {mc ms : Nat} {Z : State → Prop} {bc bs : Nat} {σ : kh} {pc : Nat} {L : List (Option Value)} {st : List Value} {x : Int32} {n : Nat} (hd : decode μ.2.1 pc = .ok (.newarray .int, 2)) (hw : Cond.arrayClass (kty 1) ∈ lw_tbl) (hx : x = nI n) (hn : n ≤ 1000000) (k : ∀ q : Nat, kB Λ ≤ q → (∀ a c, σ a = some c → a < q) → J Λ X μ mc ms Z bc bs (kup σ q (aI n (fun _ => 0))) (pc + 2) L (.ref q :: st)) : J Λ X μ mc ms Z (bc + 1) (bs + n) σ pc L (.int x :: st) := fun ρ hρ => by
  refine K.newI hd hw hx hn fun q hb hq => k q hb (fun a c ha => ?_) _ (hρ.mk hq rfl)
  obtain ⟨c9, h9⟩ := hρ.ex ha
  exact hq a c9 h9
theorem J.newZ {Λ : kL} {X : kX} {μ : kMi} {mc ms : Nat} {Z : State → Prop} {bc bs : Nat} {σ : kh} {pc : Nat} {L : List (Option Value)} {st : List Value} {x : Int32} {n : Nat} (hd : decode μ.2.1 pc = .ok (.newarray .boolean, 2)) (hw : Cond.arrayClass (kty 2) ∈ lw_tbl) (hx : x = nI n) (hn : n ≤ 1000000) (k : ∀ q : Nat, kB Λ ≤ q → (∀ a c, σ a = some c → a < q) → J Λ X μ mc ms Z bc bs (kup σ q (aZ n (fun _ => 0))) (pc + 2) L (.ref q :: st)) : J Λ X μ mc ms Z (bc + 1) (bs + n) σ pc L (.int x :: st) := fun ρ hρ => by
  refine K.newZ hd hw hx hn fun q hb hq => k q hb (fun a c ha => ?_) _ (hρ.mk hq rfl)
  obtain ⟨c9, h9⟩ := hρ.ex ha
  exact hq a c9 h9
theorem J.newL {Λ : kL} {X : kX} {μ : kMi} {mc ms : Nat} {Z : State → Prop} {bc bs : Nat} {σ : kh} {pc : Nat} {L : List (Option Value)} {st : List Value} {x : Int32} {n : Nat} (hd : decode μ.2.1 pc = .ok (.newarray .long, 2)) (hw : Cond.arrayClass (kty 3) ∈ lw_tbl) (hx : x = nI n) (hn : n ≤ 1000000) (k : ∀ q : Nat, kB Λ ≤ q → (∀ a c, σ a = some c → a < q) → J Λ X μ mc ms Z bc bs (kup σ q (aL n (fun _ => 0))) (pc + 2) L (.ref q :: st)) : J Λ X μ mc ms Z (bc + 1) (bs + n) σ pc L (.int x :: st) := fun ρ hρ => by
  refine K.newL hd hw hx hn fun q hb hq => k q hb (fun a c ha => ?_) _ (hρ.mk hq rfl)
  obtain ⟨c9, h9⟩ := hρ.ex ha
  exact hq a c9 h9
theorem J.callS {Λ : kL} {X : kX} {μ : kMi} {mc ms : Nat} {Z : State → Prop} {bc bs : Nat} {σ : kh} {pc : Nat} {L : List (Option Value)} {st : List Value} {ν : kMi} {ix n c1 s1 b : Nat} {rest : List Value} {Q : Option Value → kh → Prop} (As : List Value) (hd : decode μ.2.1 pc = .ok (.invokestatic ix, 3)) (hm : kMd ν n) (hs : Cond.static ν.1 ∈ lw_tbl) (hlk : kLk μ.1.cls ix ν.1) (hfr : kFit ν μ = true) (hn : As.length = n) (hst : As.reverse ++ rest = st) (hc : kCat rest = true)
    (hct : jCt Λ ν c1 s1 As σ Q) (kk : ∀ (r : Option Value) (σ' : kh), Q r σ' → J Λ X μ mc ms Z bc bs σ' (pc + 3) L (r.toList ++ rest)) : J Λ X μ mc ms Z (bc + c1) (bs + s1) σ pc L st := fun ρ hρ =>
  K.callS (b := b) As hd hm hs hlk hfr hn hst hc (hct ρ hρ) fun r ρ' ⟨σ', hq, h'⟩ => kk r σ' hq ρ' h'
theorem J.callI {Λ : kL} {X : kX} {μ : kMi} {mc ms : Nat} {Z : State → Prop} {bc bs : Nat} {σ : kh} {pc : Nat} {L : List (Option Value)} {st : List Value} {ν : kMi} {ix n c1 s1 b : Nat} {rest : List Value} {Q : Option Value → kh → Prop} (As : List Value) (hd : decode μ.2.1 pc = .ok (.invokespecial ix, 3)) (hm : kMd ν n) (hs : ν.1.name = "<init>" ∧ ν.2.2.2.1 = none) (hi : Cond.instanceMethod ν.1 ∈ lw_tbl) (hlk : kLk μ.1.cls ix ν.1) (hfr : kFit ν μ = true) (hn : As.length = n) (hst : As.reverse ++ .ref b :: rest = st) (hc : kCat rest = true)
    (hct : jCt Λ ν c1 s1 (.ref b :: As) σ Q) (kk : ∀ (r : Option Value) (σ' : kh), Q r σ' → J Λ X μ mc ms Z bc bs σ' (pc + 3) L (r.toList ++ rest)) : J Λ X μ mc ms Z (bc + c1) (bs + s1) σ pc L st := fun ρ hρ =>
  K.callI (b := b) As hd hm hs hi hlk hfr hn hst hc (hct ρ hρ) fun r ρ' ⟨σ', hq, h'⟩ => kk r σ' hq ρ' h'
theorem J.callV {Λ : kL} {X : kX} {μ : kMi} {mc ms : Nat} {Z : State → Prop} {bc bs : Nat} {σ : kh} {pc : Nat} {L : List (Option Value)} {st : List Value} {ν : kMi} {ix n c1 s1 b : Nat} {rest : List Value} {Q : Option Value → kh → Prop} (As : List Value) (hd : decode μ.2.1 pc = .ok (.invokevirtual ix, 3)) (hm : kMd ν n) {C : String} {T : u_T} {N ci : Nat} {fs : List Value} (hi : Cond.instanceMethod ν.1 ∈ lw_tbl) (hsel : Cond.selects C ν.1 ν.1 ∈ lw_tbl) {ty : Nat → FieldType} (hcl : kCls ci C T N ty) (hb : σ b = some (.inr (ci, fs))) (hlk : kLk μ.1.cls ix ν.1) (hfr : kFit ν μ = true) (hn : As.length = n) (hst : As.reverse ++ .ref b :: rest = st) (hc : kCat rest = true)
    (hct : jCt Λ ν c1 s1 (.ref b :: As) σ Q) (kk : ∀ (r : Option Value) (σ' : kh), Q r σ' → J Λ X μ mc ms Z bc bs σ' (pc + 3) L (r.toList ++ rest)) : J Λ X μ mc ms Z (bc + c1) (bs + s1) σ pc L st := fun ρ hρ =>
  K.callV As hd hm hi hsel hcl.1 (hρ.get hb (hcl.ne fs)) hlk hfr hn hst hc (hct ρ hρ) fun r ρ' ⟨σ', hq, h'⟩ => kk r σ' hq ρ' h'
/-- a call on an ArrayList -/
theorem J.callL {Λ : kL} {X : kX} {μ : kMi} {mc ms : Nat} {Z : State → Prop} {bc bs : Nat} {σ : kh} {pc : Nat} {L : List (Option Value)} {st : List Value} {ν : kMi} {ix n c1 s1 b : Nat} {rest : List Value} {Q : Option Value → kh → Prop} (As : List Value) (hd : decode μ.2.1 pc = .ok (.invokevirtual ix, 3)) (hm : kMd ν n) {l : List Value} (hi : Cond.instanceMethod ν.1 ∈ lw_tbl) (hsel : Cond.selects RJx4a65c ν.1 ν.1 ∈ lw_tbl) (hb : σ b = some (kLi l)) (hlk : kLk μ.1.cls ix ν.1) (hfr : kFit ν μ = true) (hn : As.length = n) (hst : As.reverse ++ .ref b :: rest = st) (hc : kCat rest = true)
    (hct : jCt Λ ν c1 s1 (.ref b :: As) σ Q) (kk : ∀ (r : Option Value) (σ' : kh), Q r σ' → J Λ X μ mc ms Z bc bs σ' (pc + 3) L (r.toList ++ rest)) : J Λ X μ mc ms Z (bc + c1) (bs + s1) σ pc L st := fun ρ hρ => by
  have hfs : ∃ fs, ρ b = some (.inr (0, fs)) := by
    obtain ⟨ad, h1, -⟩ := id hρ
    obtain ⟨cap, md, f, -, -, -, -, hm9⟩ := (h1 b _ hb).2 l rfl
    cases e : ad b with
    | none => rw [e] at hm9; exact ⟨_, hm9.1⟩
    | some x => rw [e] at hm9; exact ⟨_, hm9.1⟩
  obtain ⟨fs, hfs⟩ := hfs
  exact K.callV As hd hm hi hsel (C := RJx4a65c) (T := TJx4a65c) (N := 3) (ci := 0) rfl hfs hlk hfr hn hst hc (hct ρ hρ) fun r ρ' ⟨σ', hq, h'⟩ => kk r σ' hq ρ' h'
theorem J.objInit {Λ : kL} {X : kX} {μ : kMi} {mc ms : Nat} {Z : State → Prop} {bc bs : Nat} {σ : kh} {pc : Nat} {L : List (Option Value)} {st : List Value} {ix a : Nat} (hd : decode μ.2.1 pc = .ok (.invokespecial ix, 3)) (hl : Cond.methodLink μ.1.cls ix objectInit ∈ lw_tbl) (hi : Cond.instanceMethod objectInit ∈ lw_tbl) (hco : Cond.code objectInit ⟨#[0xb1]⟩ 1 none ∈ lw_tbl) (hfr : Nat.ble 1 μ.2.2.2.2.1 = true) (hlo : Nat.ble ((st.map fun v => v.category).sum + 12) μ.2.2.2.2.2 = true) (k : J Λ X μ mc ms Z bc bs σ (pc + 3) L st) : J Λ X μ mc ms Z bc bs σ pc L (.ref a :: st) := fun ρ hρ => K.objInit hd hl hi hco hfr hlo (k ρ hρ)
theorem J.iret {Λ : kL} {X : kX} {μ : kMi} {mc ms : Nat} {Q : Option Value → kh → Prop} {bc bs : Nat} {σ : kh} {pc : Nat} {L : List (Option Value)} {x : Int32} (hd : decode μ.2.1 pc = .ok (.ireturn, 1)) (hr : μ.2.2.2.1 = some .int) (hq : Q (some (.int x)) σ) : J Λ X μ mc ms (jZ Λ X Q mc ms) bc bs σ pc L [.int x] := fun _ hρ => K.iret hd hr ⟨σ, hq, hρ⟩
theorem J.zret {Λ : kL} {X : kX} {μ : kMi} {mc ms : Nat} {Q : Option Value → kh → Prop} {bc bs : Nat} {σ : kh} {pc : Nat} {L : List (Option Value)} {x : Int32} {ty : FieldType} (hd : decode μ.2.1 pc = .ok (.ireturn, 1)) (hr : μ.2.2.2.1 = some ty) (hn : narrow ty (.int x) = .int x) (hq : Q (some (.int x)) σ) : J Λ X μ mc ms (jZ Λ X Q mc ms) bc bs σ pc L [.int x] := fun _ hρ => K.zret hd hr hn ⟨σ, hq, hρ⟩
theorem J.vret {Λ : kL} {X : kX} {μ : kMi} {mc ms : Nat} {Q : Option Value → kh → Prop} {bc bs : Nat} {σ : kh} {pc : Nat} {L : List (Option Value)}  (hd : decode μ.2.1 pc = .ok (.return_, 1)) (hr : μ.2.2.2.1 = none) (hq : Q none σ) : J Λ X μ mc ms (jZ Λ X Q mc ms) bc bs σ pc L [] := fun _ hρ => K.vret hd hr ⟨σ, hq, hρ⟩
theorem J.aret {Λ : kL} {X : kX} {μ : kMi} {mc ms : Nat} {Q : Option Value → kh → Prop} {bc bs : Nat} {σ : kh} {pc : Nat} {L : List (Option Value)} {r : Option Nat} {rt : FieldType} (hd : decode μ.2.1 pc = .ok (.areturn, 1)) (hr : μ.2.2.2.1 = some rt) (hrt : (∃ n, rt = .object n) ∨ ∃ t, rt = .array t) (hq : Q (some (va_rf r)) σ) : J Λ X μ mc ms (jZ Λ X Q mc ms) bc bs σ pc L [va_rf r] := fun _ hρ => K.aret hd hr hrt ⟨σ, hq, hρ⟩
