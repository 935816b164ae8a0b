/-! heap rules -/
theorem k1P {D : va_G} {cl : List vw_C} {a : Nat} {e : va_E} {H : Heap} (h : va_at D cl (a, e) H) : va_P D cl [(a, e)] H := by
  intro k q hk
  have hz : k < 1 := (List.getElem?_eq_some_iff.mp hk).1
  rw [show k = 0 by omega] at hk
  cases hk
  exact h
theorem ku_good {C : String} {T : u_T} {N : Nat} : ∀ w ∈ u_ws C T N, goodWord w = true := by
  intro w hw
  obtain ⟨k, -, rfl⟩ := List.mem_map.mp hw
  unfold u_lay
  split <;> rfl
/-- what is known of a class of the list -/
def kCls (ci : Nat) (C : String) (T : u_T) (N : Nat) (ty : Nat → FieldType) : Prop := vwCl[ci]? = some (C, T, N) ∧ (∀ w ∈ u_ws C T N, w ∈ lw_tbl) ∧ (∀ k, k < N → parseFieldDescriptor (T k).2.2.1 = some (ty k)) ∧ (∀ a, a < N → ∀ b, b < N → a ≠ b → (T a).2.1 ≠ (T b).2.1)
def kFw (own : String) (ix : Nat) (ref n d : String) : Prop := Cond.fieldLink own ix ref n d ∈ lw_tbl ∨ ∃ host : String, Cond.fieldLinkNest own ix ref n d host ∈ lw_tbl
/-- entry ix of own's pool is field k of class ci -/
def kFl (own : String) (ix ci k : Nat) : Prop := ∃ (C : String) (T : u_T) (N : Nat) (ty : Nat → FieldType) (ref : String), kCls ci C T N ty ∧ k < N ∧ kFw own ix ref (T k).2.1 (T k).2.2.1 ∧ (ref = (T k).1 ∨ Cond.sameField ref (T k).1 (T k).2.1 (T k).2.2.1 ∈ lw_tbl)
/-- the same for writing: its type; not final, or of the writer's own class -/
def kFp (own : String) (ix ci k : Nat) (t : FieldType) (fin : Bool) : Prop := ∃ (C : String) (T : u_T) (N : Nat) (ty : Nat → FieldType) (ref : String), kCls ci C T N ty ∧ k < N ∧ kFw own ix ref (T k).2.1 (T k).2.2.1 ∧ (ref = (T k).1 ∨ Cond.sameField ref (T k).1 (T k).2.1 (T k).2.2.1 ∈ lw_tbl) ∧ parseFieldDescriptor (T k).2.2.1 = some t ∧ (T k).2.2.2 = fin ∧ (fin = true → (T k).1 = own ∧ Cond.fieldLink own ix ref (T k).2.1 (T k).2.2.1 ∈ lw_tbl)
theorem kOK.nestF {Λ : kL} (h : kOK Λ) {own ref n d host : String} {ix : Nat} (hw : Cond.fieldLinkNest own ix ref n d host ∈ lw_tbl) {s : State} {args : Array Value} (hW : (kS Λ).WarmedH s.vm) : (Cond.fieldLinkNest own ix ref n d host).before args s = true :=
  va_Nw.use rfl (va_Nw.warmF hW (va_Nw.of rfl (h.1 _ hw)))
theorem kOK.nestM {Λ : kL} (h : kOK Λ) {own host : String} {y : MethodName} {ix : Nat} (hw : Cond.methodLinkNest own ix y host ∈ lw_tbl) {s : State} {args : Array Value} (hW : (kS Λ).WarmedH s.vm) : (Cond.methodLinkNest own ix y host).before args s = true :=
  va_Nw.use rfl (va_Nw.warmM hW (va_Nw.of rfl (h.1 _ hw)))
theorem K.getf {Λ : kL} {X : kX} {μ : kMi} {mc ms : Nat} {Z : State → Prop} {bc bs : Nat} {σ : kh} {pc : Nat} {L : List (Option Value)} {st : List Value} {ix ci j a : Nat} {fs : List Value} {v : Value}
    (hd : decode μ.2.1 pc = .ok (.getfield ix, 3)) (hf : kFl μ.1.cls ix ci j) (h : σ a = some (.inr (ci, fs))) (hv : fs[j]? = some v) (k : K Λ X μ mc ms Z bc bs σ (pc + 3) L (v :: st)) : K Λ X μ mc ms Z bc bs σ pc L (.ref a :: st) := by
  obtain ⟨p, e, R, s, m, args, below, meth, c⟩ := X
  intro F H locs k1 n1 ls h1 h2 h3 h4 h5 h6
  obtain ⟨C, T, N, ty, ref, ⟨hc, hin, hty, hnm⟩, hk, hw, hs⟩ := hf
  have hok := F.2.2.2.2.2.2.2.2.1
  have hW := F.2.2.2.2.2.2.2.2.2
  have hP := k1P (h3 a _ h).2
  have hts : ∀ w ∈ u_ws C T N, w.before args s = true := fun w hw => hok.w (hin w hw) (ku_good w hw) hW
  have hsame : ∀ x, s.fieldFound? (T j).1 (T j).2.1 (T j).2.2.1 = some x → s.fieldFound? ref (T j).2.1 (T j).2.2.1 = some x := by
    intro x hx
    rcases hs with rfl | hs
    · exact hx
    · exact u_same (hok.w (args := args) hs rfl hW) x hx
  rcases hw with hw | ⟨host, hw⟩
  · exact va_get F.1 F.2.1 hts (fun _ h => h) F.2.2.2.1 (hok.K hW) hP 0 rfl hc j hk (hok.w hw rfl hW) hsame hv hd (k F H locs k1 n1 ls h1 h2 h3 h4 h5 h6)
  · exact va_getN F.1 F.2.1 hts (fun _ h => h) F.2.2.2.1 (hok.K hW) hP 0 rfl hc j hk (hok.nestF hw hW) hsame hv hd (k F H locs k1 n1 ls h1 h2 h3 h4 h5 h6)
theorem K.putf {Λ : kL} {X : kX} {μ : kMi} {mc ms : Nat} {Z : State → Prop} {bc bs : Nat} {σ : kh} {pc : Nat} {L : List (Option Value)} {st : List Value} {ix ci j a : Nat} {fs fs' : List Value} {v : Value} {t : FieldType} {fin : Bool}
    (hd : decode μ.2.1 pc = .ok (.putfield ix, 3)) (hf : kFp μ.1.cls ix ci j t fin) (hi : fin = true → μ.1.name = "<init>") (h : σ a = some (.inr (ci, fs))) (hn : narrow t v = v) (hfit : fits t v = true) (hl : j < fs.length) (he : fs.set j v = fs') (k : K Λ X μ mc ms Z bc bs (kup σ a (.inr (ci, fs'))) (pc + 3) L st) : K Λ X μ mc ms Z bc bs σ pc L (v :: .ref a :: st) := by
  subst he
  obtain ⟨p, e, R, s, m, args, below, meth, c⟩ := X
  intro F H locs k1 n1 ls h1 h2 h3 h4 h5 h6
  obtain ⟨C, T, N, ty, ref, ⟨hc, hin, hty, hnm⟩, hk, hw, hs, hpd, hfin, hft⟩ := hf
  have hok := F.2.2.2.2.2.2.2.2.1
  have hW := F.2.2.2.2.2.2.2.2.2
  have hK := hok.K hW
  have hts : ∀ w ∈ u_ws C T N, w.before args s = true := fun w hw => hok.w (hin w hw) (ku_good w hw) hW
  have hsame : ∀ x, s.fieldFound? (T j).1 (T j).2.1 (T j).2.2.1 = some x → s.fieldFound? ref (T j).2.1 (T j).2.2.1 = some x := by
    intro x hx
    rcases hs with rfl | hs
    · exact hx
    · exact u_same (hok.w (args := args) hs rfl hW) x hx
  have hap := va_apart (own := μ.1.cls) hts (fun _ h => h) ty hty hnm hK hc
  obtain ⟨r, g1, cell, q1, q2, q3, q4⟩ := (h3 a _ h).2
  have hr : r = (C, T, N) := Option.some.inj (g1.symm.trans hc)
  subst hr
  obtain ⟨hS, hfc, kC, hkC, hkind⟩ := hK.1 ci _ hc
  obtain ⟨cf, kf, fi, f, hi9, hsl⟩ := hS j hk
  have hlay := hts _ (u_in_lay hk)
  have hst := (u_facts hfc hkC (u_lays hts (fun _ h => h) hk) hi9).1
  have fin9 : ∀ (H' : Heap), H'[a]? = some (cell.setSlot f.slot v) → H'.size = H.size → (∀ q, q ≠ a → H'[q]? = H[q]?) → W p Λ.1 e R s m args below meth c H' (locs ++ [⟨a, f.slot⟩]) k1 n1 Z (F0 m (pc + 3) ls st) := by
    intro H' e1 e2 e3
    rw [hsl] at e1
    refine k F H' _ k1 n1 ls (h1.up (h3 a _ h).1 (Nat.le_of_eq e2.symm) (fun q hq _ => e3 q hq)) (fun z hz => ?_) (h3.up (h3 a _ h).1 ?_ (fun q hq _ => e3 q hq)) h4 h5 h6
    · rcases List.mem_append.mp hz with hz | hz
      · exact h2 z hz
      · rcases List.mem_singleton.mp hz with rfl
        exact (h3 a _ h).1
    · exact ⟨_, hc, t_OB.to (V := updV (vp_V fs) j v) ⟨_, e1, q2, q3, t_set q4 hap hk v⟩ (fun i _ => vp_updV_set hl v i)⟩
  unfold u_lay at hlay
  cases fin with
  | false =>
    rw [if_neg (by rw [hfin]; decide)] at hlay
    have h6' := u_store hfc hkC hkind hlay hi9 hpd hn hfit
    rcases hw with hw | ⟨host, hw⟩
    · exact W.putK F.1 F.2.1 (f := f) ⟨F.2.2.2.1, hok.w hw rfl hW, ⟨_, _, _, hsame _ hi9⟩, hst⟩ (by rw [q2]; exact h6') q1 q3 (by rw [hsl]; exact k2_hasslot (q4 j hk)) rfl rfl hd fin9
    · exact va_WputK F.1 F.2.1 (f := f) F.2.2.2.1 (hok.nestF hw hW) (hsame _ hi9) hst (by rw [q2]; exact h6') q1 q3 (by rw [hsl]; exact k2_hasslot (q4 j hk)) rfl rfl hd fin9
  | true =>
    obtain ⟨hdecl, hw2⟩ := hft rfl
    rw [if_pos hfin] at hlay
    have hcf : m.cls = cf := by
      obtain ⟨_, _, c', _, _, _, -, -, hf', -, -, -, hown2, -⟩ := Cond.laysFinal_spec hlay
      have e1 : c' = cf := by have := hi9.symm.trans hf'; simp at this; exact this.1.symm
      rw [hdecl] at hown2
      rw [← e1]; exact Option.some.inj (F.2.2.2.1.symm.trans hown2)
    have h6' := u_fits hfc hkC hkind (Or.inr hlay) hi9 hpd hn hfit
    exact W.putFinK F.1 F.2.1 F.2.2.2.1 (hok.w hw2 rfl hW) (hsame _ hi9) hst hcf (F.2.2.2.2.2.2.1.trans (hi rfl)) (by rw [q2]; exact h6') q1 q3 (by rw [hsl]; exact k2_hasslot (q4 j hk)) rfl rfl hd fin9
/-- entry ix of own's pool is class ci, whose fields begin as fs -/
def kNw (own : String) (ix ci N : Nat) (fs : List Value) : Prop := ∃ (C : String) (T : u_T) (ty : Nat → FieldType), kCls ci C T N ty ∧ Cond.classLink own ix C ∈ lw_tbl ∧ Cond.instantiable C N ∈ lw_tbl ∧ Cond.initialized C ∈ lw_tbl ∧ ∀ j, j < N → defaultValue (ty j) = vp_V fs j
theorem K.new {Λ : kL} {X : kX} {μ : kMi} {mc ms : Nat} {Z : State → Prop} {bc bs : Nat} {σ : kh} {pc : Nat} {L : List (Option Value)} {st : List Value} {ix ci N : Nat} {fs : List Value}
    (hd : decode μ.2.1 pc = .ok (.new ix, 3)) (hw : kNw μ.1.cls ix ci N fs) (k : ∀ q : Nat, kB Λ ≤ q → (∀ a c, σ a = some c → a < q) → K Λ X μ mc ms Z bc bs (kup σ q (.inr (ci, fs))) (pc + 3) L (.ref q :: st)) : K Λ X μ mc ms Z (bc + 1) (bs + N) σ pc L st := by
  obtain ⟨p, e, R, s, m, args, below, meth, c⟩ := X
  intro F H locs k1 n1 ls h1 h2 h3 h4 h5 h6
  obtain ⟨C, T, ty, ⟨hc, hin, hty, hnm⟩, w1, w2, w3, hfs⟩ := hw
  have hok := F.2.2.2.2.2.2.2.2.1
  have hW := F.2.2.2.2.2.2.2.2.2
  have hK := hok.K hW
  have hts : ∀ w ∈ u_ws C T N, w.before args s = true := fun w hw => hok.w (hin w hw) (ku_good w hw) hW
  have hR : R = kRm μ mc ms := F.2.2.2.2.2.2.2.1
  refine W.newcK F.1 F.2.1 F.2.2.2.1 (hok.w w1 rfl hW) (hok.w w2 rfl hW) (hok.w w3 rfl hW) rfl hd (by rw [hR]; show k1 + 1 ≤ mc; omega) (by rw [hR]; show n1 + N ≤ ms; omega) (hK.1 ci _ hc).2.1 rfl fun H1 kC hkC e1 z1 o1 => ?_
  have hq : kB Λ ≤ H.size := h1.1
  refine k H.size hq (fun a c ha => h3.lt ha) F H1 locs (k1 + 1) (n1 + N) ls (h1.up hq (by omega) (fun q _ h => o1 q h)) h2 (h3.up hq ?_ (fun q _ h => o1 q h)) (by omega) (by omega) h6
  exact ⟨_, hc, (u_born ty hts (fun _ h => h) (hK.1 ci _ hc) hkC e1 hty).to hfs⟩
