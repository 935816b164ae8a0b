/-! methods with handlers, and calls that may throw -/
/-- a method's contract whose code has the table hh -/
def kWt (Λ : kL) (μ : kMi) (hh : List (Nat × Nat × Nat × Nat)) (mc ms : Nat) (av : List Value) (σ : kh) (Q : Option Value → kh → Prop) : Prop :=
  Met Λ.1 μ.1 [.codeWith μ.1 μ.2.1 μ.2.2.1 μ.2.2.2.1 hh] (kRm μ mc ms) (kPc Λ av σ) (kQc Λ Q) mc ms (fun q => kB Λ ≤ q)
def kTab (X : kX) (hh : List (Nat × Nat × Nat × Nat)) : Prop := match X with
  | (_, _, _, _, _, _, _, _, c) => c.exceptionTable.toList = tableOf hh
theorem kWt.of {Λ : kL} {μ : kMi} {hh : List (Nat × Nat × Nat × Nat)} {mc ms : Nat} {av : List Value} {σ : kh} {Q : Option Value → kh → Prop} (hy : plainName μ.1.cls = true) (L : List (Option Value)) (hL : kAl L = lv_args 0 av) (hn : (lg_sl av).length ≤ μ.2.2.1)
    (body : ∀ X : kX, kTab X hh → K Λ X μ mc ms (kZ Λ X Q mc ms) mc ms σ 0 L []) : kWt Λ μ hh mc ms av σ Q := by
  have h : vx_Met Λ.1 μ.1 [.codeWith μ.1 μ.2.1 μ.2.2.1 μ.2.2.2.1 hh] (kRm μ mc ms) (kPc Λ av σ) (kQc Λ Q) (fun _ _ _ => False) mc ms (fun q => kB Λ ≤ q) := by
    refine vx_ofWH (cc := μ.2.1) (maxL := μ.2.2.1) (ret := μ.2.2.2.1) (hh := hh) hy rfl ?_
    intro p e s m args below meth c s₁ B hml hv
    obtain ⟨rfl, h1, h2, h3, h4⟩ := hv
    have ht : c.exceptionTable.toList = tableOf hh := vx_table (x := μ.1) B (atoms_spec (ws := [Cond.codeWith μ.1 μ.2.1 μ.2.2.1 μ.2.2.2.1 hh]) B.pre _ List.mem_cons_self)
    have hl := lv_entry av (n := μ.2.2.1) hn
    rw [lg_entry_eq]
    have hin : meth.name = μ.1.name := (name_of_methodNamed B.named B.method).1
    refine vx_ret (body (p, e, _, s, m, av.toArray, below, meth, c) ht ⟨B.exec, B.bytes, hml, findClass_of_methodNamed B.named, B.returns, B.notSynchronized, hin, rfl, h1, h2⟩ s.heap [] 0 0 _ h3 (fun z hz => by cases hz) h4 (by omega) (by omega) ⟨hl.1, hl.2.1, fun i v hi => ?_⟩)
    exact hl.2.2 (i, v) (by rw [← hL]; exact kAl_mem.mpr hi)
  intro p e ha hc hk s m args below hf happ hP hK
  obtain ⟨k, o, h1, h2, h3, h4⟩ := h p e ha hc hk s m args below hf happ hP hK
  rcases h4 with h4 | ⟨q, -, E, ce, L, hx, -⟩
  · exact ⟨k, o, h1, h2, h3, h4⟩
  · exact hx.elim
/-- where a throw of E at pc is caught -/
def kHd (Λ : kL) (own : String) (hh : List (Nat × Nat × Nat × Nat)) (E : String) (pc hp : Nat) : Prop := ∃ (pre : List ExceptionTableEntry) (x : ExceptionTableEntry) (suf : List ExceptionTableEntry) (nm : String), tableOf hh = pre ++ x :: suf ∧ (∀ z ∈ pre, covers z pc = false ∨ (z.catchType ≠ 0 ∧ ∃ n : String, Cond.classLink own z.catchType n ∈ lw_tbl ∧ va_Nc E n (kS Λ))) ∧ covers x pc = true ∧ x.catchType ≠ 0 ∧ Cond.classLink own x.catchType nm ∈ lw_tbl ∧ Cond.castable E nm ∈ lw_tbl ∧ x.handlerPc = hp
theorem K.callX {Λ : kL} {X : kX} {μ : kMi} {mc ms : Nat} {Z : State → Prop} {bc bs : Nat} {σ : kh} {pc : Nat} {L : List (Option Value)} {st : List Value} {ν : kMi} {ix n c1 s1 b : Nat} {rest : List Value} {Q : Option Value → kh → Prop} {QX : String → kh → Prop} {hh : List (Nat × Nat × Nat × Nat)} (As : List Value) (hd : decode μ.2.1 pc = .ok (.invokevirtual ix, 3)) (hm : kMd ν n) {C : String} {T : u_T} {N ci : Nat} {fs : List Value} (hi : Cond.instanceMethod ν.1 ∈ lw_tbl) (hsel : Cond.selects C ν.1 ν.1 ∈ lw_tbl) (hcl : vwCl[ci]? = some (C, T, N)) (hb : σ b = some (.inr (ci, fs))) (hlk : Cond.methodLink μ.1.cls ix ν.1 ∈ lw_tbl) (hfr : kFit ν μ = true) (hn : As.length = n) (hst : As.reverse ++ .ref b :: rest = st) (hc : kCat rest = true) (hT : kTab X hh)
    (hct : kXt Λ ν c1 s1 (.ref b :: As) σ Q QX) (kk : ∀ (r : Option Value) (σ' : kh), Q r σ' → K Λ X μ mc ms Z bc bs σ' (pc + 3) L (r.toList ++ rest)) (kx : ∀ (E : String) (σ' : kh), QX E σ' → ∃ hp, kHd Λ μ.1.cls hh E pc hp ∧ ∀ q : Nat, K Λ X μ mc ms Z bc bs σ' hp L [.ref q]) : K Λ X μ mc ms Z (bc + c1) (bs + s1) σ pc L st := by
  subst hst
  obtain ⟨p, e, R, s, m, args, below, meth, c⟩ := X
  intro F H locs k1 n1 ls h1 h2 h3 h4 h5 h6
  have hok := F.2.2.2.2.2.2.2.2.1
  have hW := F.2.2.2.2.2.2.2.2.2
  obtain ⟨hm1, hm2, hm3, hm4⟩ := hm
  have hR : R = kRm μ mc ms := F.2.2.2.2.2.2.2.1
  have hcode : ∀ w ∈ [Cond.code ν.1 ν.2.1 ν.2.2.1 ν.2.2.2.1], ∀ (a' : Array Value) (U : State), s.WarmedH U.vm → w.before a' U = true := by
    intro w hw a' U hU
    rcases List.mem_singleton.mp hw with rfl
    exact word_at hU (good_of_word rfl) (hok.w (args := args) hm1 rfl hW)
  have hdesc : ∀ sig, parseMethodDescriptor ν.1.desc = some sig → As.length = sig.parameters.length := fun sig hs => by
    rw [hs] at hm4
    exact hn.trans (Option.some.inj hm4).symm
  have hfit := kFit.ok (c1 := c1) (s1 := s1) (mc := mc) (ms := ms) hfr
  have hcat : 2 * (F0 m pc ls (As.reverse ++ .ref b :: rest)).monitorRoom + (rest.map fun v => v.category).sum ≤ 8 := by
    simp only [kCat, Nat.ble_eq] at hc
    show 2 * 0 + _ ≤ 8
    omega
  have hS : CallFix p m c μ.2.1 μ.2.2.1 s args [] μ.1.cls := ⟨F.1, F.2.1, F.2.2.1, F.2.2.2.1, fun w h => by cases h⟩
  have hf : k1 + c1 ≤ R.cells ∧ n1 + s1 ≤ R.slots := by rw [hR]; exact ⟨show k1 + c1 ≤ mc by omega, show n1 + s1 ≤ ms by omega⟩
  have hrec : ∃ cellB : Cell, H[b]? = some cellB ∧ cellB.vm.isStatics = false ∧ s.vm.findClass C = some cellB.cls := by
    obtain ⟨r, g1, cell, q1, q2, q3, -⟩ := (h3 b _ hb).2
    have hr : r = (C, T, N) := Option.some.inj (g1.symm.trans hcl)
    subst hr
    refine ⟨cell, q1, by rw [q3]; rfl, ?_⟩
    rw [q2]
    exact ((hok.K hW).1 ci _ hcl).2.1
  have hps : PreV s H C b (kPc Λ (.ref b :: As) σ) As := ⟨kPc.blind Λ (.ref b :: As) σ, hrec, kPc.mk hok hW h1 h3 (.ref b :: As)⟩
  have hr := vx_runV (e := e) (below := below) (meth := meth) (locs := locs) (cells := k1) (slots := n1) hS hct (⟨⟨rfl, rfl, by rw [hR]; exact hfit.1, by rw [hR]; exact hfit.2, hcode, List.mem_singleton.mpr rfl, hok.w hm1 rfl hW, hok.w hm2 rfl hW, hm3, hdesc, hok.w hlk rfl hW⟩, hok.w hi rfl hW, hok.w hsel rfl hW⟩ : CallW R s args μ.1.cls C ix ν.1 ν.2.1 ν.2.2.1 ν.2.2.2.1 [Cond.code ν.1 ν.2.1 ν.2.2.1 ν.2.2.2.1] (kRm ν c1 s1) c1 s1 As.length) hps (g := F0 m pc ls (As.reverse ++ .ref b :: rest)) rfl rfl h6.1 rfl hcat hd hf
  intro T9 hT9 Y
  rcases hr T9 hT9 Y with ⟨v, st₀, t, T', L', h0, X', hL, e1, e2, ⟨r, σ', ho, hq, hg⟩, hgo⟩ | ⟨q, st₀, t, T', L', E, ce, h0, X', hL, e1, e2, ⟨σ', hq, hg1, hg2⟩, hce, hcv, hcl9, hst9⟩
  · cases ho
    obtain ⟨t2, a1, b1⟩ := kk v σ' hq F T'.heap (locs ++ L') (k1 + c1) (n1 + s1) ls (by rw [e1]; exact hg.2.2.1) (fun z hz => (List.mem_append.mp hz).elim (h2 z) (hL z)) (by rw [e1]; exact hg.2.2.2) (by omega) (by omega) h6 T' rfl X'
    exact ⟨t2, hgo t2 a1, b1⟩
  · obtain ⟨hp, ⟨pre, x, suf, nm, g1, g2, g3, g4, g5, g6, g7⟩, hK9⟩ := kx E σ' hq
    subst g7
    have hw : W p Λ.1 e R s m args below meth c T'.heap (locs ++ L') (k1 + c1) (n1 + s1) Z (F0 m x.handlerPc ls [.ref q]) := hK9 q F T'.heap (locs ++ L') (k1 + c1) (n1 + s1) ls (by rw [e1]; exact hg1) (fun z hz => (List.mem_append.mp hz).elim (h2 z) (hL z)) (by rw [e1]; exact hg2) (by omega) (by omega) h6
    obtain ⟨t2, a1, b1⟩ := vx_catch (own := μ.1.cls) (name := nm) (E := E) (ce := ce) (q := q) F.2.2.2.1 pre x suf (hT.trans g1) (fun z hz => (g2 z hz).imp id fun ⟨z0, n9, z1, z2⟩ => ⟨z0, n9, hok.w z1 rfl hW, z2.moved hW.alike⟩) g3 g4 (hok.w g5 rfl hW) (va_Nw.use rfl (hok.cast g6 hW)) (by rw [e1]; exact hce) hcv hcl9 hw T' rfl X'
    exact ⟨t2, hst9.trans a1, b1⟩
def kMdW (ν : kMi) (hh : List (Nat × Nat × Nat × Nat)) (n : Nat) : Prop := Cond.codeWith ν.1 ν.2.1 ν.2.2.1 ν.2.2.2.1 hh ∈ lw_tbl ∧ Cond.initialized ν.1.cls ∈ lw_tbl ∧ (ν.1.cls ≠ "java/lang/invoke/MethodHandle" ∧ ν.1.cls ≠ "java/lang/invoke/VarHandle") ∧ (parseMethodDescriptor ν.1.desc).map (fun d => d.parameters.length) = some n
theorem K.callW {Λ : kL} {X : kX} {μ : kMi} {mc ms : Nat} {Z : State → Prop} {bc bs : Nat} {σ : kh} {pc : Nat} {L : List (Option Value)} {st : List Value} {ν : kMi} {ix n c1 s1 : Nat} {rest : List Value} {Q : Option Value → kh → Prop} {hh : List (Nat × Nat × Nat × Nat)} (As : List Value) (hd : decode μ.2.1 pc = .ok (.invokestatic ix, 3)) (hm : kMdW ν hh n) (hs : Cond.static ν.1 ∈ lw_tbl) (hlk : Cond.methodLink μ.1.cls ix ν.1 ∈ lw_tbl) (hfr : kFit ν μ = true) (hn : As.length = n) (hst : As.reverse ++ rest = st) (hc : kCat rest = true)
    (hct : kWt Λ ν hh c1 s1 As σ Q) (kk : ∀ (r : Option Value) (σ' : kh), Q r σ' → K Λ X μ mc ms Z bc bs σ' (pc + 3) L (r.toList ++ rest)) : K Λ X μ mc ms Z (bc + c1) (bs + s1) σ pc L st := by
  subst hst
  obtain ⟨p, e, R, s, m, args, below, meth, c⟩ := X
  intro F H locs k1 n1 ls h1 h2 h3 h4 h5 h6
  have hok := F.2.2.2.2.2.2.2.2.1
  have hW := F.2.2.2.2.2.2.2.2.2
  obtain ⟨hm1, hm2, hm3, hm4⟩ := hm
  have hR : R = kRm μ mc ms := F.2.2.2.2.2.2.2.1
  have hcode : ∀ w ∈ [Cond.codeWith ν.1 ν.2.1 ν.2.2.1 ν.2.2.2.1 hh], ∀ (a' : Array Value) (U : State), s.WarmedH U.vm → w.before a' U = true := by
    intro w hw a' U hU
    rcases List.mem_singleton.mp hw with rfl
    exact word_at hU (good_of_word rfl) (hok.w (args := args) hm1 rfl hW)
  have hdesc : ∀ sig, parseMethodDescriptor ν.1.desc = some sig → As.length = sig.parameters.length := fun sig hs => by
    rw [hs] at hm4
    exact hn.trans (Option.some.inj hm4).symm
  have hfit := kFit.ok (c1 := c1) (s1 := s1) (mc := mc) (ms := ms) hfr
  have hcat : 2 * (F0 m pc ls (As.reverse ++ rest)).monitorRoom + (rest.map fun v => v.category).sum ≤ 8 := by
    simp only [kCat, Nat.ble_eq] at hc
    show 2 * 0 + _ ≤ 8
    omega
  have hS : CallFix p m c μ.2.1 μ.2.2.1 s args [] μ.1.cls := ⟨F.1, F.2.1, F.2.2.1, F.2.2.2.1, fun w h => by cases h⟩
  have hf : k1 + c1 ≤ R.cells ∧ n1 + s1 ≤ R.slots := by rw [hR]; exact ⟨show k1 + c1 ≤ mc by omega, show n1 + s1 ≤ ms by omega⟩
  have hgo : ∀ (r : Option Value) (σ' : kh) (H' : Heap) (L' : List Loc), Q r σ' → kOld Λ H' → kRep Λ σ' H' → (∀ z ∈ L', kB Λ ≤ z.base) → W p Λ.1 e R s m args below meth c H' (locs ++ L') (k1 + c1) (n1 + s1) Z (F0 m (pc + 3) ls (r.toList ++ rest)) := fun r σ' H' L' hq g1 g3 gL =>
    kk r σ' hq F H' (locs ++ L') (k1 + c1) (n1 + s1) ls g1 (fun z hz => (List.mem_append.mp hz).elim (h2 z) (gL z)) g3 (by omega) (by omega) h6
  have hps : PreS s H (kPc Λ As σ) As := ⟨kPc.blind Λ As σ, kPc.mk hok hW h1 h3 As⟩
  exact kcont (vx_runSW hS hct ⟨⟨rfl, rfl, by rw [hR]; exact hfit.1, by rw [hR]; exact hfit.2, hcode, List.mem_singleton.mpr rfl⟩, hok.w hm1 rfl hW, hok.w hm2 rfl hW, hm3, hdesc, hok.w hlk rfl hW, hok.w hs rfl hW⟩ hps rfl rfl h6.1 rfl hcat hd hf) hgo
def jWt (Λ : kL) (μ : kMi) (hh : List (Nat × Nat × Nat × Nat)) (mc ms : Nat) (av : List Value) (σ : kh) (Q : Option Value → kh → Prop) : Prop := ∀ ρ : kh, kAbs Λ σ ρ → kWt Λ μ hh mc ms av ρ (jQ Λ Q)
theorem jWt.of {Λ : kL} {μ : kMi} {hh : List (Nat × Nat × Nat × Nat)} {mc ms : Nat} {av : List Value} {σ : kh} {Q : Option Value → kh → Prop} (hy : plainName μ.1.cls = true) (L : List (Option Value)) (hL : kAl L = lv_args 0 av) (hn : (lg_sl av).length ≤ μ.2.2.1) (body : ∀ X : kX, kTab X hh → J Λ X μ mc ms (jZ Λ X Q mc ms) mc ms σ 0 L []) : jWt Λ μ hh mc ms av σ Q := fun ρ hρ => kWt.of hy L hL hn fun X hT => body X hT ρ hρ
theorem J.callX {Λ : kL} {X : kX} {μ : kMi} {mc ms : Nat} {Z : State → Prop} {bc bs : Nat} {σ : kh} {pc : Nat} {L : List (Option Value)} {st : List Value} {ν : kMi} {ix n c1 s1 b : Nat} {rest : List Value} {Q : Option Value → kh → Prop} {QX : String → kh → Prop} {hh : List (Nat × Nat × Nat × Nat)} (As : List Value) (hd : decode μ.2.1 pc = .ok (.invokevirtual ix, 3)) (hm : kMd ν n) {C : String} {T : u_T} {N ci : Nat} {fs : List Value} {ty : Nat → FieldType} (hi : Cond.instanceMethod ν.1 ∈ lw_tbl) (hsel : Cond.selects C ν.1 ν.1 ∈ lw_tbl) (hcl : kCls ci C T N ty) (hb : σ b = some (.inr (ci, fs))) (hlk : Cond.methodLink μ.1.cls ix ν.1 ∈ lw_tbl) (hfr : kFit ν μ = true) (hn : As.length = n) (hst : As.reverse ++ .ref b :: rest = st) (hc : kCat rest = true) (hT : kTab X hh)
    (hct : jXt Λ ν c1 s1 (.ref b :: As) σ Q QX) (kk : ∀ (r : Option Value) (σ' : kh), Q r σ' → J Λ X μ mc ms Z bc bs σ' (pc + 3) L (r.toList ++ rest)) (kx : ∀ (E : String) (σ' : kh), QX E σ' → ∃ hp, kHd Λ μ.1.cls hh E pc hp ∧ ∀ q : Nat, J Λ X μ mc ms Z bc bs σ' hp L [.ref q]) : J Λ X μ mc ms Z (bc + c1) (bs + s1) σ pc L st := fun ρ hρ =>
  K.callX As hd hm hi hsel hcl.1 (hρ.get hb (hcl.ne fs)) hlk hfr hn hst hc hT (hct ρ hρ) (fun r ρ' ⟨σ', h1, h2⟩ => kk r σ' h1 ρ' h2) (fun E ρ' ⟨σ', h1, h2⟩ => by
    obtain ⟨hp, g1, g2⟩ := kx E σ' h1
    exact ⟨hp, g1, fun q => g2 q ρ' h2⟩)
theorem J.callW {Λ : kL} {X : kX} {μ : kMi} {mc ms : Nat} {Z : State → Prop} {bc bs : Nat} {σ : kh} {pc : Nat} {L : List (Option Value)} {st : List Value} {ν : kMi} {ix n c1 s1 : Nat} {rest : List Value} {Q : Option Value → kh → Prop} {hh : List (Nat × Nat × Nat × Nat)} (As : List Value) (hd : decode μ.2.1 pc = .ok (.invokestatic ix, 3)) (hm : kMdW ν hh n) (hs : Cond.static ν.1 ∈ lw_tbl) (hlk : Cond.methodLink μ.1.cls ix ν.1 ∈ lw_tbl) (hfr : kFit ν μ = true) (hn : As.length = n) (hst : As.reverse ++ rest = st) (hc : kCat rest = true)
    (hct : jWt Λ ν hh c1 s1 As σ Q) (kk : ∀ (r : Option Value) (σ' : kh), Q r σ' → J Λ X μ mc ms Z bc bs σ' (pc + 3) L (r.toList ++ rest)) : J Λ X μ mc ms Z (bc + c1) (bs + s1) σ pc L st := fun ρ hρ => K.callW As hd hm hs hlk hfr hn hst hc (hct ρ hρ) fun r ρ' ⟨σ', h1, h2⟩ => kk r σ' h1 ρ' h2
