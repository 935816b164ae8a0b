/-! K: walks over a heap that is a function from addresses to cells; the machine's own parts are hidden.
A launch's constants: the launch, the law's start and arguments, class numbers, slots, array classes by kind (0 byte, 1 int, 2 boolean, 3 long, 4 Object). -/
abbrev kL : Type := Launch × State × Array Value × (Nat → ClassId) × (Nat → Nat → Nat) × (Nat → ClassId)
abbrev kc : Type := (Nat × vp_A) ⊕ (Nat × List Value)
abbrev kh : Type := Nat → Option kc
def kS (Λ : kL) : State := Λ.2.1
def kB (Λ : kL) : Nat := Λ.2.1.heap.size
def kD (Λ : kL) : va_G := (Λ.2.2.2.1, Λ.2.2.2.2.1)
def kac (Λ : kL) (t : Nat) : ClassId := Λ.2.2.2.2.2 t
def kty (t : Nat) : FieldType := match t with
  | 0 => .byte
  | 1 => .int
  | 2 => .boolean
  | 3 => .long
  | _ => .object "java/lang/Object"
def kT (Λ : kL) : List (ClassId × FieldType) := [(kac Λ 0, kty 0), (kac Λ 1, kty 1), (kac Λ 2, kty 2), (kac Λ 3, kty 3), (kac Λ 4, kty 4)]
theorem kT_at (Λ : kL) {t : Nat} (h : t < 5) : (kT Λ)[t]? = some (kac Λ t, kty t) := by
  rcases (show t = 0 ∨ t = 1 ∨ t = 2 ∨ t = 3 ∨ t = 4 by omega) with rfl | rfl | rfl | rfl | rfl <;> rfl
def kE (Λ : kL) (c : kc) : va_E := match c with
  | .inl x => .inl (kac Λ x.1, x.2)
  | .inr o => .inr o
def kRep (Λ : kL) (σ : kh) (H : Heap) : Prop := ∀ (a : Nat) (c : kc), σ a = some c → kB Λ ≤ a ∧ va_at (kD Λ) vwCl (a, kE Λ c) H
def kOld (Λ : kL) (H : Heap) : Prop := kB Λ ≤ H.size ∧ ∀ q : Nat, q < kB Λ → H[q]? = (kS Λ).heap[q]?
def kOK (Λ : kL) : Prop := (∀ w ∈ lw_tbl, w.before Λ.2.2.1 (kS Λ) = true) ∧ va_K (kD Λ) vwCl (kT Λ) (kS Λ) ∧ (Jvm.Cond.and given_1 narrow_1).before Λ.2.2.1 (kS Λ) = true
def kG (Λ : kL) (σ : kh) (U : State) : Prop := kOK Λ ∧ (kS Λ).WarmedH U.vm ∧ kOld Λ U.heap ∧ kRep Λ σ U.heap
def kup (σ : kh) (a : Nat) (c : kc) : kh := fun q => if q = a then some c else σ q
theorem kup_s (σ : kh) (a : Nat) (c : kc) : kup σ a c a = some c := if_pos rfl
theorem kup_n (σ : kh) {a b : Nat} (c : kc) (h : b ≠ a) : kup σ a c b = σ b := if_neg h
theorem kup_i {σ : kh} {a b : Nat} {c d : kc} (h : b ≠ a) (hb : σ b = some d) : kup σ a c b = some d := (kup_n σ c h).trans hb
theorem kup_up (σ : kh) (a : Nat) (c d : kc) : kup (kup σ a c) a d = kup σ a d := by
  funext q
  by_cases h : q = a
  · rw [h, kup_s, kup_s]
  · rw [kup_n _ _ h, kup_n _ _ h, kup_n _ _ h]
theorem kRep.lt {Λ : kL} {σ : kh} {H : Heap} (h : kRep Λ σ H) {a : Nat} {c : kc} (ha : σ a = some c) : a < H.size := (h a c ha).2.lt
/-- a cell is written -/
theorem kRep.up {Λ : kL} {σ : kh} {H H1 : Heap} {a : Nat} {c : kc} (h : kRep Λ σ H) (ha : kB Λ ≤ a) (hc : va_at (kD Λ) vwCl (a, kE Λ c) H1) (ho : ∀ q : Nat, q ≠ a → q < H.size → H1[q]? = H[q]?) : kRep Λ (kup σ a c) H1 := by
  intro b d hb
  by_cases e : b = a
  · subst e
    rw [kup_s] at hb
    cases hb
    exact ⟨ha, hc⟩
  · rw [kup_n _ _ e] at hb
    exact ⟨(h b d hb).1, (h b d hb).2.kept (ho b e (h.lt hb))⟩
theorem kOld.up {Λ : kL} {H H1 : Heap} {a : Nat} (h : kOld Λ H) (ha : kB Λ ≤ a) (hz : H.size ≤ H1.size) (ho : ∀ q : Nat, q ≠ a → q < H.size → H1[q]? = H[q]?) : kOld Λ H1 :=
  ⟨Nat.le_trans h.1 hz, fun q hq => (ho q (by omega) (Nat.lt_of_lt_of_le hq h.1)).trans (h.2 q hq)⟩
theorem kG.heap {Λ : kL} {σ : kh} {U V : State} (h : kG Λ σ U) (hv : V.vm = U.vm) (hh : V.heap = U.heap) : kG Λ σ V := by
  obtain ⟨h1, h2, h3, h4⟩ := h
  exact ⟨h1, by rw [hv]; exact h2, by rw [hh]; exact h3, by rw [hh]; exact h4⟩
/-- a method: its name, code, locals, what it returns, how many frames and words of locals its callees need -/
abbrev kMi : Type := MethodName × ByteArray × Nat × Option FieldType × Nat × Nat
def kRm (μ : kMi) (mc ms : Nat) : Room := { frames := μ.2.2.2.2.1, cells := mc, slots := ms, locals := μ.2.2.2.2.2 }
def kQc (Λ : kL) (Q : Option Value → kh → Prop) : Array Value → State → Outcome → State → Prop := fun _ _ o t => ∃ (r : Option Value) (σ' : kh), o = .returned r ∧ Q r σ' ∧ kG Λ σ' t
def kPc (Λ : kL) (av : List Value) (σ : kh) : Array Value → State → Prop := fun a U => a = av.toArray ∧ kG Λ σ U
/-- THE CONTRACT: called with av on a heap σ, the method returns r and leaves σ' with Q r σ'; at most mc cells of ms slots are new -/
def kCt (Λ : kL) (μ : kMi) (mc ms : Nat) (av : List Value) (σ : kh) (Q : Option Value → kh → Prop) : Prop :=
  Met Λ.1 μ.1 [.code μ.1 μ.2.1 μ.2.2.1 μ.2.2.2.1] (kRm μ mc ms) (kPc Λ av σ) (kQc Λ Q) mc ms (fun q => kB Λ ≤ q)
theorem kPc.blind (Λ : kL) (av : List Value) (σ : kh) : FrameBlind (kPc Λ av σ) := fun _ _ _ _ h => ⟨h.1, h.2.heap rfl rfl⟩
/-- the locals -/
def kLs (ls : Array Slot) (nL : Nat) (L : List (Option Value)) : Prop := ls.size = nL ∧ lv_wf ls ∧ ∀ (i : Nat) (v : Value), L[i]? = some (some v) → ls[i]? = some (.val v)
def kAl (L : List (Option Value)) : List (Nat × Value) := (List.range L.length).filterMap fun i => ((L[i]?).bind id).map fun v => (i, v)
theorem kAl_mem {L : List (Option Value)} {q : Nat × Value} : q ∈ kAl L ↔ L[q.1]? = some (some q.2) := by
  unfold kAl
  constructor
  · intro h
    obtain ⟨i, -, hi⟩ := List.mem_filterMap.mp h
    cases hL : L[i]? with
    | none => rw [hL] at hi; cases hi
    | some o =>
      rw [hL] at hi
      cases o with
      | none => cases hi
      | some v => cases hi; exact hL
  · intro h
    refine List.mem_filterMap.mpr ⟨q.1, List.mem_range.mpr (List.getElem?_eq_some_iff.mp h).1, ?_⟩
    rw [h]
    rfl
theorem kLs.has {ls : Array Slot} {nL : Nat} {L : List (Option Value)} (h : kLs ls nL L) : lv_has ls nL (kAl L) := ⟨h.1, h.2.1, fun q hq => h.2.2 q.1 q.2 (kAl_mem.mp hq)⟩
theorem kLs.at {ls : Array Slot} {nL : Nat} {L : List (Option Value)} (h : kLs ls nL L) {i : Nat} {v : Value} (hi : L[i]? = some (some v)) : ls[i]? = some (.val v) := h.2.2 i v hi
theorem kLs.place {L : List (Option Value)} {i : Nat} {v : Value} (hi : L[i]? = some (some v)) : ∃ k : Nat, (kAl L)[k]? = some (i, v) := List.getElem?_of_mem (kAl_mem (q := (i, v)).mpr hi)
def kprev (L : List (Option Value)) (i : Nat) : Bool := match i with
  | 0 => true
  | j + 1 => match L[j]? with
    | some (some v) => decide (v.category = 1)
    | _ => true
theorem kprev_ok {L : List (Option Value)} {i j : Nat} {v : Value} (h : kprev L i = true) (hj : j + 1 = i) (hv : L[j]? = some (some v)) : v.category = 1 := by
  subst hj
  simp [kprev, hv] at h
  exact h
theorem kLs.st {ls : Array Slot} {nL i : Nat} {v : Value} {L L' : List (Option Value)} (h : lv_has ls nL ((i, v) :: (kAl L).filter (fun q => !(q.1 == i) && !(q.1 + 1 == i && q.2.category == 2)))) (hp : kprev L i = true) (hL : L.set i (some v) = L') : kLs ls nL L' := by
  subst hL
  refine ⟨h.1, h.2.1, fun j w hj => ?_⟩
  by_cases e : i = j
  · subst e
    rw [List.getElem?_set] at hj
    by_cases hl : i < L.length
    · simp [hl] at hj
      subst hj
      exact h.2.2 (i, v) List.mem_cons_self
    · simp [hl] at hj
  · rw [List.getElem?_set_ne e] at hj
    refine h.2.2 (j, w) (List.mem_cons_of_mem _ (List.mem_filter.mpr ⟨kAl_mem.mpr hj, ?_⟩))
    have h1 : ¬ j = i := fun q => e q.symm
    by_cases h2 : j + 1 = i
    · have h3 := kprev_ok hp h2 hj
      simp [h1, h3]
    · simp [h1, h2]
theorem kLs.stl {ls : Array Slot} {nL i : Nat} {v : Value} {L L' : List (Option Value)} (h : lv_has ls nL ((i, v) :: (kAl L).filter (fun q => !(q.1 == i) && (!(q.1 == i + 1) && !(q.1 + 1 == i && q.2.category == 2))))) (hp : kprev L i = true) (hL : (L.set i (some v)).set (i + 1) none = L') : kLs ls nL L' := by
  subst hL
  refine ⟨h.1, h.2.1, fun j w hj => ?_⟩
  by_cases e1 : i + 1 = j
  · subst e1
    rw [List.getElem?_set] at hj
    by_cases hl : i + 1 < (L.set i (some v)).length
    · simp [hl] at hj
    · simp [hl] at hj
  · rw [List.getElem?_set_ne e1] at hj
    by_cases e : i = j
    · subst e
      rw [List.getElem?_set] at hj
      by_cases hl : i < L.length
      · simp [hl] at hj
        subst hj
        exact h.2.2 (i, v) List.mem_cons_self
      · simp [hl] at hj
    · rw [List.getElem?_set_ne e] at hj
      refine h.2.2 (j, w) (List.mem_cons_of_mem _ (List.mem_filter.mpr ⟨kAl_mem.mpr hj, ?_⟩))
      have h1 : ¬ j = i := fun q => e q.symm
      have h0 : ¬ j = i + 1 := fun q => e1 q.symm
      by_cases h2 : j + 1 = i
      · have h3 := kprev_ok hp h2 hj
        simp [h1, h0, h3]
      · simp [h1, h0, h2]
/-- the frame in which a method runs -/
abbrev kX : Type := Program × Env × Room × State × MethodId × Array Value × List Frame × Method × Code
def kF (Λ : kL) (X : kX) (μ : kMi) (mc ms : Nat) : Prop := match X with
  | (p, _, R, s, m, _, _, meth, c) => p.tables.exec = Jvm.exec ∧ c.code = μ.2.1 ∧ c.maxLocals = μ.2.2.1 ∧ s.vm.findClass μ.1.cls = some m.cls ∧ meth.sig.returnType = μ.2.2.2.1 ∧ meth.locks = false ∧ meth.name = μ.1.name ∧ R = kRm μ mc ms ∧ kOK Λ ∧ (kS Λ).WarmedH s.vm
def kW (Λ : kL) (X : kX) (H : Heap) (locs : List Loc) (k n : Nat) (Z : State → Prop) (pc : Nat) (ls : Array Slot) (st : List Value) : Prop := match X with
  | (p, e, R, s, m, args, below, meth, c) => W p Λ.1 e R s m args below meth c H locs k n Z (F0 m pc ls st)
/-- THE JUDGEMENT: at pc with locals L, operands st, heap σ, and bc cells of bs slots left, the method comes to Z -/
def K (Λ : kL) (X : kX) (μ : kMi) (mc ms : Nat) (Z : State → Prop) (bc bs : Nat) (σ : kh) (pc : Nat) (L : List (Option Value)) (st : List Value) : Prop :=
  kF Λ X μ mc ms → ∀ (H : Heap) (locs : List Loc) (k n : Nat) (ls : Array Slot), kOld Λ H → (∀ z ∈ locs, kB Λ ≤ z.base) → kRep Λ σ H → k + bc ≤ mc → n + bs ≤ ms → kLs ls μ.2.2.1 L → kW Λ X H locs k n Z pc ls st
def kZ (Λ : kL) (X : kX) (Q : Option Value → kh → Prop) (mc ms : Nat) : State → Prop := match X with
  | (_, _, _, s, _, args, below, _, _) => MQ below (kQc Λ Q) args s mc ms (fun q => kB Λ ≤ q)
theorem kOK.w {Λ : kL} (h : kOK Λ) {w : Cond} (hw : w ∈ lw_tbl) (hg : goodWord w = true) {s : State} {args : Array Value} (hW : (kS Λ).WarmedH s.vm) : w.before args s = true := word_at hW (good_of_word hg) (h.1 w hw)
theorem kOK.K {Λ : kL} (h : kOK Λ) {s : State} (hW : (kS Λ).WarmedH s.vm) : va_K (kD Λ) vwCl (kT Λ) s := va_K.moved hW.alike h.2.1
/-- a method's contract out of the walk of its body -/
theorem kCt.of {Λ : kL} {μ : kMi} {mc ms : Nat} {av : List Value} {σ : kh} {Q : Option Value → kh → Prop} (hy : plainName μ.1.cls = true) (L : List (Option Value)) (hL : kAl L = lv_args 0 av) (hn : (lg_sl av).length ≤ μ.2.2.1)
    (body : ∀ X : kX, K Λ X μ mc ms (kZ Λ X Q mc ms) mc ms σ 0 L []) : kCt Λ μ mc ms av σ Q := by
  refine Met.ofW (cc := μ.2.1) (maxL := μ.2.2.1) (ret := μ.2.2.2.1) hy rfl ?_
  intro p e s m args below meth c s₁ B hml hv
  obtain ⟨rfl, h1, h2, h3, h4⟩ := hv
  have hl := lv_entry av (n := μ.2.2.1) hn
  rw [lg_entry_eq]
  have hin : meth.name = μ.1.name := (name_of_methodNamed B.named B.method).1
  refine body (p, e, _, s, m, av.toArray, below, meth, c) ⟨B.exec, B.bytes, hml, findClass_of_methodNamed B.named, B.returns, B.notSynchronized, hin, rfl, h1, h2⟩ s.heap [] 0 0 _ h3 (fun z hz => by cases hz) h4 (by omega) (by omega) ⟨hl.1, hl.2.1, fun i v hi => ?_⟩
  exact hl.2.2 (i, v) (by rw [← hL]; exact kAl_mem.mpr hi)
