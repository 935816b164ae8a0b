/-! constants: Strings, static fields and arrays that lie below the law's start -/
def kA (Λ : kL) : Nat → Prop := fun q => kB Λ ≤ q
theorem kOld.kp {Λ : kL} {H : Heap} (h : kOld Λ H) : ∀ a : Nat, a < (kS Λ).heap.size → ¬ kA Λ a → H[a]? = (kS Λ).heap[a]? := fun a h1 _ => h.2 a h1
theorem K.ldcw {Λ : kL} {X : kX} {μ : kMi} {mc ms : Nat} {Z : State → Prop} {bc bs : Nat} {σ : kh} {pc : Nat} {L : List (Option Value)} {st : List Value} {ix : Nat} {v : Int32} (hd : decode μ.2.1 pc = .ok (.ldc_w ix, 3)) (hw : Cond.constant μ.1.cls ix v ∈ lw_tbl) (k : K Λ X μ mc ms Z bc bs σ (pc + 3) L (.int v :: st)) : K Λ X μ mc ms Z bc bs σ pc L st := by
  obtain ⟨p, e, R, s, m, args, below, meth, c⟩ := X
  intro F H locs k1 n1 ls h1 h2 h3 h4 h5 h6
  exact lv_ldcw F.1 F.2.1 F.2.2.2.1 (F.2.2.2.2.2.2.2.2.1.w hw rfl F.2.2.2.2.2.2.2.2.2) hd (k F H locs k1 n1 ls h1 h2 h3 h4 h5 h6)
theorem J.ldcw {Λ : kL} {X : kX} {μ : kMi} {mc ms : Nat} {Z : State → Prop} {bc bs : Nat} {σ : kh} {pc : Nat} {L : List (Option Value)} {st : List Value} {ix : Nat} {v : Int32} (hd : decode μ.2.1 pc = .ok (.ldc_w ix, 3)) (hw : Cond.constant μ.1.cls ix v ∈ lw_tbl) (k : J Λ X μ mc ms Z bc bs σ (pc + 3) L (.int v :: st)) : J Λ X μ mc ms Z bc bs σ pc L st := fun ρ hρ => K.ldcw hd hw (k ρ hρ)
/-- a field of a constant object -/
theorem K.getfC {Λ : kL} {X : kX} {μ : kMi} {mc ms : Nat} {Z : State → Prop} {bc bs : Nat} {σ : kh} {pc : Nat} {L : List (Option Value)} {st : List Value} {ix q : Nat} {o n d : String} {v : Value} (hd : decode μ.2.1 pc = .ok (.getfield ix, 3)) (hE : va_OF o n d v q (kA Λ) (kS Λ) (kS Λ).heap) (hw : Cond.fieldLink μ.1.cls ix o n d ∈ lw_tbl) (k : K Λ X μ mc ms Z bc bs σ (pc + 3) L (v :: st)) : K Λ X μ mc ms Z bc bs σ pc L (.ref q :: st) := by
  obtain ⟨p, e, R, s, m, args, below, meth, c⟩ := X
  intro F H locs k1 n1 ls h1 h2 h3 h4 h5 h6
  have hok := F.2.2.2.2.2.2.2.2.1
  have hW := F.2.2.2.2.2.2.2.2.2
  obtain ⟨cf, kf, fi, f, cell, g1, g2, g3, g4, g5, g6⟩ := (hE.moved hW.alike).kept h1.kp
  exact W.getf F.1 F.2.1 F.2.2.2.1 (hok.w hw rfl hW) g1 g2 g3 g4 (v := v) g5 rfl rfl hd (k F H locs k1 n1 ls h1 h2 h3 h4 h5 h6)
/-- a static field that nobody writes -/
theorem K.getsC {Λ : kL} {X : kX} {μ : kMi} {mc ms : Nat} {Z : State → Prop} {bc bs : Nat} {σ : kh} {pc : Nat} {L : List (Option Value)} {st : List Value} {ix : Nat} {C n d : String} {v : Value} (hd : decode μ.2.1 pc = .ok (.getstatic ix, 3)) (hZ : va_Z C n d v (kA Λ) (kS Λ) (kS Λ).heap) (hw : Cond.fieldLink μ.1.cls ix C n d ∈ lw_tbl) (k : K Λ X μ mc ms Z bc bs σ (pc + 3) L (v :: st)) : K Λ X μ mc ms Z bc bs σ pc L st := by
  obtain ⟨p, e, R, s, m, args, below, meth, c⟩ := X
  intro F H locs k1 n1 ls h1 h2 h3 h4 h5 h6
  have hok := F.2.2.2.2.2.2.2.2.1
  have hW := F.2.2.2.2.2.2.2.2.2
  obtain ⟨cf, kf, fi, f, a, cell, g1, g2, g3, g4, g5, g6, g7, g8⟩ := (hZ.moved hW.alike).kept h1.kp
  exact W.gets F.1 F.2.1 F.2.2.2.1 (hok.w hw rfl hW) g1 g2 g3 g4 g5 (fun e => by rw [e] at g6; cases g6) g7 rfl hd (k F H locs k1 n1 ls h1 h2 h3 h4 h5 h6)
/-- a constant array: a place, its length -/
theorem K.tb {Λ : kL} {X : kX} {μ : kMi} {mc ms : Nat} {Z : State → Prop} {bc bs : Nat} {σ : kh} {pc : Nat} {L : List (Option Value)} {st : List Value} {t N j : Nat} {f : Nat → Value} {x : Int32} (hd : decode μ.2.1 pc = .ok (.baload, 1)) (hT : va_T .byte t N f (kA Λ) (kS Λ) (kS Λ).heap) (hx : x = nI j) (hj : j < N) (hn : N < 2 ^ 31) (k : K Λ X μ mc ms Z bc bs σ (pc + 1) L (f j :: st)) : K Λ X μ mc ms Z bc bs σ pc L (.int x :: .ref t :: st) := by
  subst hx
  obtain ⟨p, e, R, s, m, args, below, meth, c⟩ := X
  intro F H locs k1 n1 ls h1 h2 h3 h4 h5 h6
  have hW := F.2.2.2.2.2.2.2.2.2
  obtain ⟨cell, g1, g2, g3, g4, g5, g6, g7⟩ := (hT.moved hW.alike).kept h1.kp
  have hcl : (nI j).toNatClampNeg = j := nI_clamp (by omega)
  exact W.bald (v := f j) F.1 F.2.1 g1 g2 g3 (by rw [hcl]; rintro (q | q); exact nI_pos (by omega) q; omega) (by rw [hcl]; exact g6 j hj) rfl rfl hd (k F H locs k1 n1 ls h1 h2 h3 h4 h5 h6)
theorem K.ti {Λ : kL} {X : kX} {μ : kMi} {mc ms : Nat} {Z : State → Prop} {bc bs : Nat} {σ : kh} {pc : Nat} {L : List (Option Value)} {st : List Value} {t N j : Nat} {f : Nat → Value} {x : Int32} (hd : decode μ.2.1 pc = .ok (.iaload, 1)) (hT : va_T .int t N f (kA Λ) (kS Λ) (kS Λ).heap) (hx : x = nI j) (hj : j < N) (hn : N < 2 ^ 31) (k : K Λ X μ mc ms Z bc bs σ (pc + 1) L (f j :: st)) : K Λ X μ mc ms Z bc bs σ pc L (.int x :: .ref t :: st) := by
  subst hx
  obtain ⟨p, e, R, s, m, args, below, meth, c⟩ := X
  intro F H locs k1 n1 ls h1 h2 h3 h4 h5 h6
  have hW := F.2.2.2.2.2.2.2.2.2
  obtain ⟨cell, g1, g2, g3, g4, g5, g6, g7⟩ := (hT.moved hW.alike).kept h1.kp
  have hcl : (nI j).toNatClampNeg = j := nI_clamp (by omega)
  exact W.iald (v := f j) F.1 F.2.1 g1 g2 g3 (by rw [hcl]; rintro (q | q); exact nI_pos (by omega) q; omega) (by rw [hcl]; exact g6 j hj) rfl rfl hd (k F H locs k1 n1 ls h1 h2 h3 h4 h5 h6)
theorem K.tlen {Λ : kL} {X : kX} {μ : kMi} {mc ms : Nat} {Z : State → Prop} {bc bs : Nat} {σ : kh} {pc : Nat} {L : List (Option Value)} {st : List Value} {t N : Nat} {ty : FieldType} {f : Nat → Value} (hd : decode μ.2.1 pc = .ok (.arraylength, 1)) (hT : va_T ty t N f (kA Λ) (kS Λ) (kS Λ).heap) (k : K Λ X μ mc ms Z bc bs σ (pc + 1) L (.int (nI N) :: st)) : K Λ X μ mc ms Z bc bs σ pc L (.ref t :: st) := by
  obtain ⟨p, e, R, s, m, args, below, meth, c⟩ := X
  intro F H locs k1 n1 ls h1 h2 h3 h4 h5 h6
  have hW := F.2.2.2.2.2.2.2.2.2
  obtain ⟨cell, g1, g2, g3, g4, g5, g6, g7⟩ := (hT.moved hW.alike).kept h1.kp
  exact W.alen (n := nI N) F.1 F.2.1 g1 g2 g5 rfl rfl hd (k F H locs k1 n1 ls h1 h2 h3 h4 h5 h6)
/-- where a String constant lies -/
def kSa (Λ : kL) (own : String) (ix : Nat) : Nat := match (Term.string own ix).eval Λ.2.2.1 (kS Λ) none [] (kS Λ) with
  | some (.ref a) => a
  | _ => 0
/-- the String at a has the characters bs -/
def kStr (Λ : kL) (a : Nat) (bs : List Int32) : Prop := ∃ v : Nat, va_O "java/lang/String" a (kA Λ) (kS Λ) (kS Λ).heap ∧ va_OF "java/lang/String" "coder" "B" (.int 0) a (kA Λ) (kS Λ) (kS Λ).heap ∧ va_OF "java/lang/String" "value" "[B" (.ref v) a (kA Λ) (kS Λ) (kS Λ).heap ∧ va_T .byte v bs.length (fun j => .int (bs.getD j 0)) (kA Λ) (kS Λ) (kS Λ).heap ∧ bs.length < 1000 ∧ va_Z "java/lang/String" "COMPACT_STRINGS" "Z" (.int 1) (kA Λ) (kS Λ) (kS Λ).heap ∧ ∃ w : Value, va_Z "jdk/internal/util/Preconditions" "SIOOBE_FORMATTER" "Ljava/util/function/BiFunction;" w (kA Λ) (kS Λ) (kS Λ).heap ∧ (w = .null ∨ ∃ b : Nat, w = .ref b)
theorem va_ldcwS {p : Program} {l : Launch} {e : Env} {R : Room} {s : State} {m : MethodId} {args : Array Value} {below : List Frame} {meth : Method} {c : Code} {T : State} {locs : List Loc} {cells slots : Nat} (X : Stand p l e R s m args below meth c T locs cells slots) (hexec : p.tables.exec = Jvm.exec) {own text : String} {index : Nat} {a : Addr} (hown : s.vm.findClass own = some m.cls)
    (hR : vk_R own index text a s) {g : JFrame} (hg : g.method = m) (hdg : decode c.code g.pc = .ok (.ldc_w index, 3)) :
    ∀ target, Steps p.tables e below (T.setTop { g with pc := g.pc + 3, stack := .ref a :: g.stack }) target → Steps p.tables e below (T.setTop g) target := by
  obtain ⟨k, cf, i, a', hk, hcf, hcp, -, hr, hev'⟩ := Cond.stringRef_spec hown hR.1
  cases hR.2.symm.trans hev'
  obtain ⟨k', hk', he⟩ := X.warmed.alike.2.2 _ _ hk
  have hr' : k'.resolved[index]? = some (some (.string a)) := by
    rcases X.warmed.entry hk hk' index with h | ⟨h, -⟩
    · rw [h]; exact hr
    · rw [hr] at h; cases h
  intro target hrest
  subst hg
  jvm_step X.here [hexec, hdg, ldc_w.wp_string (e := e) (s := T) (f := g) X.here.top hk' (by rw [he]; exact hcf) hcp hr']
  exact hrest
/-- the String constant ix of own's pool lies at kSa -/
theorem kSa.R {Λ : kL} (h : kOK Λ) {own tx : String} {ix cur : Nat} (hcur : (kS Λ).vm.findClass own = some cur) (hw : Cond.stringRef own ix tx ∈ lw_tbl) : vk_R own ix tx (kSa Λ own ix) (kS Λ) := by
  obtain ⟨k, cf, i, a, -, -, -, -, -, hev⟩ := Cond.stringRef_spec hcur (h.1 _ hw)
  exact vk_R.of (h.1 _ hw) (by rw [kSa, hev])
theorem K.ldcS {Λ : kL} {X : kX} {μ : kMi} {mc ms : Nat} {Z : State → Prop} {bc bs : Nat} {σ : kh} {pc : Nat} {L : List (Option Value)} {st : List Value} {ix : Nat} {tx : String} (hd : decode μ.2.1 pc = .ok (.ldc ix, 2)) (hw : Cond.stringRef μ.1.cls ix tx ∈ lw_tbl) (k : K Λ X μ mc ms Z bc bs σ (pc + 2) L (.ref (kSa Λ μ.1.cls ix) :: st)) : K Λ X μ mc ms Z bc bs σ pc L st := by
  obtain ⟨p, e, R, s, m, args, below, meth, c⟩ := X
  intro F H locs k1 n1 ls h1 h2 h3 h4 h5 h6
  exact va_ldcS F.1 F.2.1 F.2.2.2.1 (vk_R.warm F.2.2.2.2.2.2.2.2.2 (kSa.R F.2.2.2.2.2.2.2.2.1 (by rw [← F.2.2.2.2.2.2.2.2.2.alike.findClass]; exact F.2.2.2.1) hw)) hd (k F H locs k1 n1 ls h1 h2 h3 h4 h5 h6)
theorem K.ldcwS {Λ : kL} {X : kX} {μ : kMi} {mc ms : Nat} {Z : State → Prop} {bc bs : Nat} {σ : kh} {pc : Nat} {L : List (Option Value)} {st : List Value} {ix : Nat} {tx : String} (hd : decode μ.2.1 pc = .ok (.ldc_w ix, 3)) (hw : Cond.stringRef μ.1.cls ix tx ∈ lw_tbl) (k : K Λ X μ mc ms Z bc bs σ (pc + 3) L (.ref (kSa Λ μ.1.cls ix) :: st)) : K Λ X μ mc ms Z bc bs σ pc L st := by
  obtain ⟨p, e, R, s, m, args, below, meth, c⟩ := X
  intro F H locs k1 n1 ls h1 h2 h3 h4 h5 h6 T hT Y
  obtain ⟨t, a, b⟩ := k F H locs k1 n1 ls h1 h2 h3 h4 h5 h6 T hT Y
  exact ⟨t, va_ldcwS Y F.1 F.2.2.2.1 (vk_R.warm F.2.2.2.2.2.2.2.2.2 (kSa.R F.2.2.2.2.2.2.2.2.1 (by rw [← F.2.2.2.2.2.2.2.2.2.alike.findClass]; exact F.2.2.2.1) hw)) (g := F0 m pc ls st) rfl (by rw [F.2.1]; exact hd) t a, b⟩
/-- a virtual call on a String -/
theorem K.callC {Λ : kL} {X : kX} {μ : kMi} {mc ms : Nat} {Z : State → Prop} {bc bs : Nat} {σ : kh} {pc : Nat} {L : List (Option Value)} {st : List Value} {ν : kMi} {ix n c1 s1 b : Nat} {rest : List Value} {Q : Option Value → kh → Prop} {C : String} (As : List Value) (hd : decode μ.2.1 pc = .ok (.invokevirtual ix, 3)) (hm : kMd ν n) (hi : Cond.instanceMethod ν.1 ∈ lw_tbl) (hsel : Cond.selects C ν.1 ν.1 ∈ lw_tbl) (hb : va_O C b (kA Λ) (kS Λ) (kS Λ).heap) (hlk : Cond.methodLink μ.1.cls ix ν.1 ∈ lw_tbl) (hfr : kFit ν μ = true) (hn : As.length = n) (hst : As.reverse ++ .ref b :: rest = st) (hc : kCat rest = true)
    (hct : kCt Λ ν c1 s1 (.ref b :: As) σ Q) (kk : ∀ (r : Option Value) (σ' : kh), Q r σ' → K Λ X μ mc ms Z bc bs σ' (pc + 3) L (r.toList ++ rest)) : K Λ X μ mc ms Z (bc + c1) (bs + s1) σ pc L st := by
  subst hst
  obtain ⟨p, e, R, s, m, args, below, meth, c⟩ := X
  intro F H locs k1 n1 ls h1 h2 h3 h4 h5 h6
  have hok := F.2.2.2.2.2.2.2.2.1
  have hW := F.2.2.2.2.2.2.2.2.2
  obtain ⟨hm1, hm2, hm3, hm4⟩ := hm
  have hR : R = kRm μ mc ms := F.2.2.2.2.2.2.2.1
  have hcode : ∀ w ∈ [Cond.code ν.1 ν.2.1 ν.2.2.1 ν.2.2.2.1], ∀ (a' : Array Value) (U : State), s.WarmedH U.vm → w.before a' U = true := by
    intro w hw a' U hU
    rcases List.mem_singleton.mp hw with rfl
    exact word_at hU (good_of_word rfl) (hok.w (args := args) hm1 rfl hW)
  have hdesc : ∀ sig, parseMethodDescriptor ν.1.desc = some sig → As.length = sig.parameters.length := fun sig hs => by
    rw [hs] at hm4
    exact hn.trans (Option.some.inj hm4).symm
  have hfit := kFit.ok (c1 := c1) (s1 := s1) (mc := mc) (ms := ms) hfr
  have hcat : 2 * (F0 m pc ls (As.reverse ++ .ref b :: rest)).monitorRoom + (rest.map fun v => v.category).sum ≤ 8 := by
    simp only [kCat, Nat.ble_eq] at hc
    show 2 * 0 + _ ≤ 8
    omega
  have hS : CallFix p m c μ.2.1 μ.2.2.1 s args [] μ.1.cls := ⟨F.1, F.2.1, F.2.2.1, F.2.2.2.1, fun w h => by cases h⟩
  have hf : k1 + c1 ≤ R.cells ∧ n1 + s1 ≤ R.slots := by rw [hR]; exact ⟨show k1 + c1 ≤ mc by omega, show n1 + s1 ≤ ms by omega⟩
  have hgo : ∀ (r : Option Value) (σ' : kh) (H' : Heap) (L' : List Loc), Q r σ' → kOld Λ H' → kRep Λ σ' H' → (∀ z ∈ L', kB Λ ≤ z.base) → W p Λ.1 e R s m args below meth c H' (locs ++ L') (k1 + c1) (n1 + s1) Z (F0 m (pc + 3) ls (r.toList ++ rest)) := fun r σ' H' L' hq g1 g3 gL =>
    kk r σ' hq F H' (locs ++ L') (k1 + c1) (n1 + s1) ls g1 (fun z hz => (List.mem_append.mp hz).elim (h2 z) (gL z)) g3 (by omega) (by omega) h6
  have hrec : ∃ cellB : Cell, H[b]? = some cellB ∧ cellB.vm.isStatics = false ∧ s.vm.findClass C = some cellB.cls := by
    obtain ⟨cell, g1, g2, g3, g4⟩ := hb
    have hlt : b < (kS Λ).heap.size := (Array.getElem?_eq_some_iff.mp g1).1
    exact ⟨cell, (h1.2 b hlt).trans g1, g2, by rw [hW.alike.findClass]; exact g3⟩
  have hps : PreV s H C b (kPc Λ (.ref b :: As) σ) As := ⟨kPc.blind Λ (.ref b :: As) σ, hrec, kPc.mk hok hW h1 h3 (.ref b :: As)⟩
  exact kcont (va_runV hS hct ⟨⟨rfl, rfl, by rw [hR]; exact hfit.1, by rw [hR]; exact hfit.2, hcode, List.mem_singleton.mpr rfl, hok.w hm1 rfl hW, hok.w hm2 rfl hW, hm3, hdesc, hok.w hlk rfl hW⟩, hok.w hi rfl hW, hok.w hsel rfl hW⟩ hps rfl rfl h6.1 rfl hcat hd hf) hgo
theorem J.getfC {Λ : kL} {X : kX} {μ : kMi} {mc ms : Nat} {Z : State → Prop} {bc bs : Nat} {σ : kh} {pc : Nat} {L : List (Option Value)} {st : List Value} {ix q : Nat} {o n d : String} {v : Value} (hd : decode μ.2.1 pc = .ok (.getfield ix, 3)) (hE : va_OF o n d v q (kA Λ) (kS Λ) (kS Λ).heap) (hw : Cond.fieldLink μ.1.cls ix o n d ∈ lw_tbl) (k : J Λ X μ mc ms Z bc bs σ (pc + 3) L (v :: st)) : J Λ X μ mc ms Z bc bs σ pc L (.ref q :: st) := fun ρ hρ => K.getfC hd hE hw (k ρ hρ)
theorem J.getsC {Λ : kL} {X : kX} {μ : kMi} {mc ms : Nat} {Z : State → Prop} {bc bs : Nat} {σ : kh} {pc : Nat} {L : List (Option Value)} {st : List Value} {ix : Nat} {C n d : String} {v : Value} (hd : decode μ.2.1 pc = .ok (.getstatic ix, 3)) (hZ : va_Z C n d v (kA Λ) (kS Λ) (kS Λ).heap) (hw : Cond.fieldLink μ.1.cls ix C n d ∈ lw_tbl) (k : J Λ X μ mc ms Z bc bs σ (pc + 3) L (v :: st)) : J Λ X μ mc ms Z bc bs σ pc L st := fun ρ hρ => K.getsC hd hZ hw (k ρ hρ)
theorem J.tb {Λ : kL} {X : kX} {μ : kMi} {mc ms : Nat} {Z : State → Prop} {bc bs : Nat} {σ : kh} {pc : Nat} {L : List (Option Value)} {st : List Value} {t N j : Nat} {f : Nat → Value} {x : Int32} (hd : decode μ.2.1 pc = .ok (.baload, 1)) (hT : va_T .byte t N f (kA Λ) (kS Λ) (kS Λ).heap) (hx : x = nI j) (hj : j < N) (hn : N < 2 ^ 31) (k : J Λ X μ mc ms Z bc bs σ (pc + 1) L (f j :: st)) : J Λ X μ mc ms Z bc bs σ pc L (.int x :: .ref t :: st) := fun ρ hρ => K.tb hd hT hx hj hn (k ρ hρ)
theorem J.ti {Λ : kL} {X : kX} {μ : kMi} {mc ms : Nat} {Z : State → Prop} {bc bs : Nat} {σ : kh} {pc : Nat} {L : List (Option Value)} {st : List Value} {t N j : Nat} {f : Nat → Value} {x : Int32} (hd : decode μ.2.1 pc = .ok (.iaload, 1)) (hT : va_T .int t N f (kA Λ) (kS Λ) (kS Λ).heap) (hx : x = nI j) (hj : j < N) (hn : N < 2 ^ 31) (k : J Λ X μ mc ms Z bc bs σ (pc + 1) L (f j :: st)) : J Λ X μ mc ms Z bc bs σ pc L (.int x :: .ref t :: st) := fun ρ hρ => K.ti hd hT hx hj hn (k ρ hρ)
theorem J.tlen {Λ : kL} {X : kX} {μ : kMi} {mc ms : Nat} {Z : State → Prop} {bc bs : Nat} {σ : kh} {pc : Nat} {L : List (Option Value)} {st : List Value} {t N : Nat} {ty : FieldType} {f : Nat → Value} (hd : decode μ.2.1 pc = .ok (.arraylength, 1)) (hT : va_T ty t N f (kA Λ) (kS Λ) (kS Λ).heap) (k : J Λ X μ mc ms Z bc bs σ (pc + 1) L (.int (nI N) :: st)) : J Λ X μ mc ms Z bc bs σ pc L (.ref t :: st) := fun ρ hρ => K.tlen hd hT (k ρ hρ)
theorem J.ldcS {Λ : kL} {X : kX} {μ : kMi} {mc ms : Nat} {Z : State → Prop} {bc bs : Nat} {σ : kh} {pc : Nat} {L : List (Option Value)} {st : List Value} {ix : Nat} {tx : String} (hd : decode μ.2.1 pc = .ok (.ldc ix, 2)) (hw : Cond.stringRef μ.1.cls ix tx ∈ lw_tbl) (k : J Λ X μ mc ms Z bc bs σ (pc + 2) L (.ref (kSa Λ μ.1.cls ix) :: st)) : J Λ X μ mc ms Z bc bs σ pc L st := fun ρ hρ => K.ldcS hd hw (k ρ hρ)
theorem J.ldcwS {Λ : kL} {X : kX} {μ : kMi} {mc ms : Nat} {Z : State → Prop} {bc bs : Nat} {σ : kh} {pc : Nat} {L : List (Option Value)} {st : List Value} {ix : Nat} {tx : String} (hd : decode μ.2.1 pc = .ok (.ldc_w ix, 3)) (hw : Cond.stringRef μ.1.cls ix tx ∈ lw_tbl) (k : J Λ X μ mc ms Z bc bs σ (pc + 3) L (.ref (kSa Λ μ.1.cls ix) :: st)) : J Λ X μ mc ms Z bc bs σ pc L st := fun ρ hρ => K.ldcwS hd hw (k ρ hρ)
theorem J.callC {Λ : kL} {X : kX} {μ : kMi} {mc ms : Nat} {Z : State → Prop} {bc bs : Nat} {σ : kh} {pc : Nat} {L : List (Option Value)} {st : List Value} {ν : kMi} {ix n c1 s1 b : Nat} {rest : List Value} {Q : Option Value → kh → Prop} {C : String} (As : List Value) (hd : decode μ.2.1 pc = .ok (.invokevirtual ix, 3)) (hm : kMd ν n) (hi : Cond.instanceMethod ν.1 ∈ lw_tbl) (hsel : Cond.selects C ν.1 ν.1 ∈ lw_tbl) (hb : va_O C b (kA Λ) (kS Λ) (kS Λ).heap) (hlk : Cond.methodLink μ.1.cls ix ν.1 ∈ lw_tbl) (hfr : kFit ν μ = true) (hn : As.length = n) (hst : As.reverse ++ .ref b :: rest = st) (hc : kCat rest = true)
    (hct : jCt Λ ν c1 s1 (.ref b :: As) σ Q) (kk : ∀ (r : Option Value) (σ' : kh), Q r σ' → J Λ X μ mc ms Z bc bs σ' (pc + 3) L (r.toList ++ rest)) : J Λ X μ mc ms Z (bc + c1) (bs + s1) σ pc L st := fun ρ hρ => K.callC As hd hm hi hsel hb hlk hfr hn hst hc (hct ρ hρ) fun r ρ' ⟨σ', hq, h'⟩ => kk r σ' hq ρ' h'
