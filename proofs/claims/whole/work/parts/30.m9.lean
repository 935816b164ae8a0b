/-! SHA-256 -/
def ush (x y : Int32) : Int32 := (x.toUInt32 >>> (y.toUInt32 &&& Int32.toUInt32 31)).toInt32
def sA (p : Int32) : Int32 := (rotr p 7 ^^^ rotr p 18) ^^^ ush p 3
def sB (p : Int32) : Int32 := (rotr p 17 ^^^ rotr p 19) ^^^ ush p 10
def wd (f : Nat → Int32) (a : Nat) : Int32 := (((f a <<< ((24 : Int32) &&& 31)) ||| ((f (a + 1) &&& 255) <<< ((16 : Int32) &&& 31))) ||| ((f (a + 2) &&& 255) <<< ((8 : Int32) &&& 31))) ||| (f (a + 3) &&& 255)
def schG (w b : Nat → Int32) : Nat → Nat → Int32
  | 0 => b
  | k + 1 => upd (schG w b k) k (if k < 16 then w k else ((schG w b k (k - 16) + schG w b k (k - 7)) + sA (schG w b k (k - 15))) + sB (schG w b k (k - 2)))
theorem schG_lo {w b : Nat → Int32} {k : Nat} (h : k < 16) : upd (schG w b k) k (w k) = schG w b (k + 1) := by rw [schG, if_pos h]
theorem schG_hi {w b : Nat → Int32} {k : Nat} (h : ¬ k < 16) : upd (schG w b k) k (((schG w b k (k - 16) + schG w b k (k - 7)) + sA (schG w b k (k - 15))) + sB (schG w b k (k - 2))) = schG w b (k + 1) := by rw [schG, if_neg h]
theorem schG_congr {w w' b b' : Nat → Int32} (hw : ∀ t, t < 16 → w t = w' t) (k : Nat) : ∀ t, t < k → schG w b k t = schG w' b' k t := by
  induction k with
  | zero => intro t h; omega
  | succ k ih =>
    intro t h
    rw [schG, schG]
    by_cases e : t = k
    · subst e
      rw [pk_us, pk_us]
      by_cases h16 : t < 16
      · rw [if_pos h16, if_pos h16, hw t h16]
      · rw [if_neg h16, if_neg h16, ih (t - 16) (by omega), ih (t - 7) (by omega), ih (t - 15) (by omega), ih (t - 2) (by omega)]
    · rw [pk_un e, pk_un e]
      exact ih t (by omega)
abbrev s8 := Int32 × Int32 × Int32 × Int32 × Int32 × Int32 × Int32 × Int32
def one8 (r w : Int32) (s : s8) : Int32 := (((s.2.2.2.2.2.2.2 + ((rotr s.2.2.2.2.1 6 ^^^ rotr s.2.2.2.2.1 11) ^^^ rotr s.2.2.2.2.1 25)) + ((s.2.2.2.2.1 &&& s.2.2.2.2.2.1) ^^^ ((s.2.2.2.2.1 ^^^ (-1)) &&& s.2.2.2.2.2.2.1))) + r) + w
def two8 (s : s8) : Int32 := ((rotr s.1 2 ^^^ rotr s.1 13) ^^^ rotr s.1 22) + (((s.1 &&& s.2.1) ^^^ (s.1 &&& s.2.2.1)) ^^^ (s.2.1 &&& s.2.2.1))
def rd1 (r w : Int32) (s : s8) : s8 := (one8 r w s + two8 s, s.1, s.2.1, s.2.2.1, s.2.2.2.1 + one8 r w s, s.2.2.2.2.1, s.2.2.2.2.2.1, s.2.2.2.2.2.2.1)
def rds (r w : Nat → Int32) : Nat → s8 → s8
  | 0, s => s
  | t + 1, s => rd1 (r t) (w t) (rds r w t s)
theorem rds_congr {r w w' : Nat → Int32} (k : Nat) (s : s8) (h : ∀ t, t < k → w t = w' t) : rds r w k s = rds r w' k s := by
  induction k with
  | zero => rfl
  | succ k ih => rw [rds, rds, ih fun t ht => h t (by omega), h k (by omega)]
def t8 (H : List Int32) : s8 := (H.getD 0 0, H.getD 1 0, H.getD 2 0, H.getD 3 0, H.getD 4 0, H.getD 5 0, H.getD 6 0, H.getD 7 0)
def add8 (H : List Int32) (s : s8) : List Int32 := [H.getD 0 0 + s.1, H.getD 1 0 + s.2.1, H.getD 2 0 + s.2.2.1, H.getD 3 0 + s.2.2.2.1, H.getD 4 0 + s.2.2.2.2.1, H.getD 5 0 + s.2.2.2.2.2.1, H.getD 6 0 + s.2.2.2.2.2.2.1, H.getD 7 0 + s.2.2.2.2.2.2.2]
def shaK : List Int32 := [1116352408, 1899447441, (-1245643825), (-373957723), 961987163, 1508970993, (-1841331548), (-1424204075), (-670586216), 310598401, 607225278, 1426881987, 1925078388, (-2132889090), (-1680079193), (-1046744716), (-459576895), (-272742522), 264347078, 604807628, 770255983, 1249150122, 1555081692, 1996064986, (-1740746414), (-1473132947), (-1341970488), (-1084653625), (-958395405), (-710438585), 113926993, 338241895, 666307205, 773529912, 1294757372, 1396182291, 1695183700, 1986661051, (-2117940946), (-1838011259), (-1564481375), (-1474664885), (-1035236496), (-949202525), (-778901479), (-694614492), (-200395387), 275423344, 430227734, 506948616, 659060556, 883997877, 958139571, 1322822218, 1537002063, 1747873779, 1955562222, 2024104815, (-2067236844), (-1933114872), (-1866530822), (-1538233109), (-1090935817), (-965641998)]
def sha0 : List Int32 := [1779033703, (-1150833019), 1013904242, (-1521486534), 1359893119, (-1694144372), 528734635, 1541459225]
def blk (w : Nat → Int32) (H : List Int32) : List Int32 := add8 H (rds (gD shaK) (schG w (fun _ => 0) 64) 64 (t8 H))
theorem blk_congr {w w' : Nat → Int32} (H : List Int32) (h : ∀ t, t < 16 → w t = w' t) : blk w H = blk w' H := by
  rw [blk, blk, rds_congr 64 _ (schG_congr h 64)]
theorem blk_any (w b : Nat → Int32) (H : List Int32) : add8 H (rds (gD shaK) (schG w b 64) 64 (t8 H)) = blk w H := by
  rw [blk, rds_congr 64 _ (schG_congr (fun _ _ => rfl) 64)]
def hsh (P : Nat → Int32) : Nat → List Int32
  | 0 => sha0
  | j + 1 => blk (fun t => wd P (64 * j + 4 * t)) (hsh P j)
theorem hsh_len (P : Nat → Int32) (j : Nat) : (hsh P j).length = 8 := by cases j <;> rfl
theorem hsh_congr {P P' : Nat → Int32} (j : Nat) (h : ∀ q, q < 64 * j → P q = P' q) : hsh P j = hsh P' j := by
  induction j with
  | zero => rfl
  | succ j ih =>
    rw [hsh, hsh, ih fun q hq => h q (by omega)]
    refine blk_congr _ fun t ht => ?_
    rw [wd, wd, h (64 * j + 4 * t) (by omega), h (64 * j + 4 * t + 1) (by omega), h (64 * j + 4 * t + 2) (by omega), h (64 * j + 4 * t + 3) (by omega)]
def szS (n : Nat) : Nat := (n + 72) / 64 * 64
def pad1 (v : List Int32) (q : Nat) : Int32 := if q < v.length then v.getD q 0 else if q = v.length then (-128) else 0
/-- the bytes that are hashed: the text, 128, noughts, its length in bits -/
def pdB (v : List Int32) (q : Nat) : Int32 := if szS v.length - 4 ≤ q ∧ q < szS v.length then b8 (nI (8 * v.length) >>> (nI (8 * (szS v.length - 1 - q)) &&& 31)) else pad1 v q
def shaL (v : List Int32) : List Int32 := hsh (pdB v) (szS v.length / 64)
theorem shaL_len (v : List Int32) : (shaL v).length = 8 := hsh_len _ _
def pdL (v : List Int32) (k : Nat) : List Int32 := (List.range k).map (pad1 v)
theorem pdL_len (v : List Int32) (k : Nat) : (pdL v k).length = k := by rw [pdL, List.length_map, List.length_range]
theorem pdL_s (v : List Int32) (k : Nat) {x : Int32} (h : pad1 v k = x) : pdL v k ++ [x] = pdL v (k + 1) := by rw [pdL, pdL, List.range_succ, List.map_append, ← h]; rfl
theorem pdL_at {v : List Int32} {k q : Nat} (h : q < k) : (pdL v k).getD q 0 = pad1 v q := by
  rw [pdL, List.getD_eq_getElem?_getD, List.getElem?_map, List.getElem?_range h]
  rfl
def pd2 (v : List Int32) (f : Nat → Int32) (k q : Nat) : Int32 := if szS v.length - k ≤ q ∧ q < szS v.length then b8 (nI (8 * v.length) >>> (nI (8 * (szS v.length - 1 - q)) &&& 31)) else f q
theorem pd2_0 (v : List Int32) (f : Nat → Int32) : pd2 v f 0 = f := funext fun q => if_neg (by omega)
theorem pd2_s {v : List Int32} {f : Nat → Int32} {k : Nat} (hk : k < 4) (hs : 4 ≤ szS v.length) : upd (pd2 v f k) (szS v.length - 1 - k) (b8 (nI (8 * v.length) >>> (nI (8 * k) &&& 31))) = pd2 v f (k + 1) := by
  funext q
  by_cases e : q = szS v.length - 1 - k
  · rw [e, pk_us, pd2, if_pos (by omega), show szS v.length - 1 - (szS v.length - 1 - k) = k by omega]
  · rw [pk_un e, pd2, pd2]
    by_cases h : szS v.length - k ≤ q ∧ q < szS v.length
    · rw [if_pos h, if_pos (by omega)]
    · rw [if_neg h, if_neg (by omega)]
theorem pd2_B {v : List Int32} {f : Nat → Int32} {q : Nat} (h : q < szS v.length) : pd2 v (updl f 0 (pdL v (szS v.length))) 4 q = pdB v q := by
  rw [pd2, pdB]
  have h9 := updl_in (f := f) (i := 0) (l := pdL v (szS v.length)) (j := q) (by rw [pdL_len]; exact h)
  rw [Nat.zero_add] at h9
  rw [h9, pdL_at h]
theorem tl_at0 {f : Nat → Int32} {l : List Int32} {i : Nat} (h : tl f 0 l.length = l) (hi : i < l.length) : f i = l.getD i 0 := by
  have := tl_bs.mp h i hi
  rwa [Nat.zero_add] at this
/-- the numbers that both sides keep for SHA-256 -/
def kCn (Λ : kL) (C n : String) (l : List Int32) : Prop := ∃ a, va_Z C n "[I" (.ref a) (kA Λ) (kS Λ) (kS Λ).heap ∧ va_T .int a l.length (fun j => .int (gD l j)) (kA Λ) (kS Λ) (kS Λ).heap
def kSh (Λ : kL) : Prop := kCn Λ "GrantServerModel" "STARTS" sha0 ∧ kCn Λ "GrantServerModel" "ROUNDS" shaK ∧ kCn Λ "GrantServer$Sha256" "START" sha0 ∧ kCn Λ "GrantServer$Sha256" "ROUNDS" shaK
def sc5 (F : Nat → Nat → Int32) (a b c d e : Nat → Int32) : Nat → Nat → Int32 := setF (setF (setF (setF (setF F 73 a) 72 b) 74 c) 71 d) 69 e

theorem m_block {Λ : kL} {m : Nat} {A : Nat → Nat} {I : Nat → Int32} {F : Nat → Nat → Int32} (hA : mInj A) (hSh : kSh Λ) {a : Nat} (ha : a + 64 ≤ 192) {H : List Int32} (hHl : H.length = 8) (hH : tl (F 74) 0 8 = H) : mCt Λ mX12_block m A [.ref m, .int (nI a)] I F (fun r I' F' => ∃ g h, r = none ∧ I' = I ∧ F' = setF (setF F 72 g) 74 h ∧ tl h 0 8 = blk (fun t => wd (F 73) (a + 4 * t)) H) := by
  refine mCt.of hA pn_X12 [some (.ref m), some (.int (nI a)), none, none, none, none, none, none, none, none, none, none, none] rfl (Nat.le_of_ble_eq_true rfl) fun X => ?_
  have hH8 : tl (F 74) 0 H.length = H := by rw [hHl]; exact hH
  obtain ⟨ra, hr1, hr2⟩ := hSh.2.1
  refine M.iconst (v := 0) dX12_block_0 (by decide) ?_
  refine M.istore_n (L' := [some (.ref m), some (.int (nI a)), some (.int 0), none, none, none, none, none, none, none, none, none, none]) dX12_block_1 (by decide) rfl rfl ?_
  have cut_2 : ∀ (k_2 : Nat) (k : Nat), (k ≤ 64) → (65 ≤ k + k_2) → M Λ X mX12_block m A (fun r I' F' => ∃ g h, r = none ∧ I' = I ∧ F' = setF (setF F 72 g) 74 h ∧ tl h 0 8 = blk (fun t => wd (F 73) (a + 4 * t)) H) I (setF F 72 (schG (fun t => wd (F 73) (a + 4 * t)) (F 72) k)) 2 [some (.ref m), some (.int (nI a)), some (.int (nI k)), none, none, none, none, none, none, none, none, none, none] [] := by
    intro k_2
    induction k_2 with
    | zero => intro k h1 h2; exact absurd h2 (by omega)
    | succ k_2 ih_2 =>
      intro k h1 h2
      refine M.iload_n dX12_block_2 rfl ?_
      refine M.bipush (v := 64) dX12_block_3 (by decide) ?_
      refine M.icmp_ge (tgt := 184) dX12_block_5 (by decide) (fun c_5 => ?_) (fun c_5 => ?_)
      · skip
        have e1 := nI_gen (n := 64) c_5 h1 (by omega); subst e1
        refine M.drop (i := 2) (L' := [some (.ref m), some (.int (nI a)), none, none, none, none, none, none, none, none, none, none, none]) rfl ?_
        refine M.aload_nR dX12_block_184 rfl ?_
        refine M.getr dX12_block_185 fl_X12_185 rfl rfl ?_
        refine M.iconst (v := 0) dX12_block_188 (by decide) ?_
        refine M.ialdv (k9 := 74) (j := 0) (g := F 74) (v := H.getD 0 0) dX12_block_189 rfl rfl rfl rfl (show 0 < 8 by omega) (tl_at0 hH8 (by omega)) ?_
        refine M.istore_n (L' := [some (.ref m), some (.int (nI a)), some (.int (H.getD 0 0)), none, none, none, none, none, none, none, none, none, none]) dX12_block_190 (by decide) rfl rfl ?_
        refine M.aload_nR dX12_block_191 rfl ?_
        refine M.getr dX12_block_192 fl_X12_185 rfl rfl ?_
        refine M.iconst (v := 1) dX12_block_195 (by decide) ?_
        refine M.ialdv (k9 := 74) (j := 1) (g := F 74) (v := H.getD 1 0) dX12_block_196 rfl rfl rfl rfl (show 1 < 8 by omega) (tl_at0 hH8 (by omega)) ?_
        refine M.istore_n (L' := [some (.ref m), some (.int (nI a)), some (.int (H.getD 0 0)), some (.int (H.getD 1 0)), none, none, none, none, none, none, none, none, none]) dX12_block_197 (by decide) rfl rfl ?_
        refine M.aload_nR dX12_block_198 rfl ?_
        refine M.getr dX12_block_199 fl_X12_185 rfl rfl ?_
        refine M.iconst (v := 2) dX12_block_202 (by decide) ?_
        refine M.ialdv (k9 := 74) (j := 2) (g := F 74) (v := H.getD 2 0) dX12_block_203 rfl rfl rfl rfl (show 2 < 8 by omega) (tl_at0 hH8 (by omega)) ?_
        refine M.istore (L' := [some (.ref m), some (.int (nI a)), some (.int (H.getD 0 0)), some (.int (H.getD 1 0)), some (.int (H.getD 2 0)), none, none, none, none, none, none, none, none]) dX12_block_204 (by decide) rfl rfl ?_
        refine M.aload_nR dX12_block_206 rfl ?_
        refine M.getr dX12_block_207 fl_X12_185 rfl rfl ?_
        refine M.iconst (v := 3) dX12_block_210 (by decide) ?_
        refine M.ialdv (k9 := 74) (j := 3) (g := F 74) (v := H.getD 3 0) dX12_block_211 rfl rfl rfl rfl (show 3 < 8 by omega) (tl_at0 hH8 (by omega)) ?_
        refine M.istore (L' := [some (.ref m), some (.int (nI a)), some (.int (H.getD 0 0)), some (.int (H.getD 1 0)), some (.int (H.getD 2 0)), some (.int (H.getD 3 0)), none, none, none, none, none, none, none]) dX12_block_212 (by decide) rfl rfl ?_
        refine M.aload_nR dX12_block_214 rfl ?_
        refine M.getr dX12_block_215 fl_X12_185 rfl rfl ?_
        refine M.iconst (v := 4) dX12_block_218 (by decide) ?_
        refine M.ialdv (k9 := 74) (j := 4) (g := F 74) (v := H.getD 4 0) dX12_block_219 rfl rfl rfl rfl (show 4 < 8 by omega) (tl_at0 hH8 (by omega)) ?_
        refine M.istore (L' := [some (.ref m), some (.int (nI a)), some (.int (H.getD 0 0)), some (.int (H.getD 1 0)), some (.int (H.getD 2 0)), some (.int (H.getD 3 0)), some (.int (H.getD 4 0)), none, none, none, none, none, none]) dX12_block_220 (by decide) rfl rfl ?_
        refine M.aload_nR dX12_block_222 rfl ?_
        refine M.getr dX12_block_223 fl_X12_185 rfl rfl ?_
        refine M.iconst (v := 5) dX12_block_226 (by decide) ?_
        refine M.ialdv (k9 := 74) (j := 5) (g := F 74) (v := H.getD 5 0) dX12_block_227 rfl rfl rfl rfl (show 5 < 8 by omega) (tl_at0 hH8 (by omega)) ?_
        refine M.istore (L' := [some (.ref m), some (.int (nI a)), some (.int (H.getD 0 0)), some (.int (H.getD 1 0)), some (.int (H.getD 2 0)), some (.int (H.getD 3 0)), some (.int (H.getD 4 0)), some (.int (H.getD 5 0)), none, none, none, none, none]) dX12_block_228 (by decide) rfl rfl ?_
        refine M.aload_nR dX12_block_230 rfl ?_
        refine M.getr dX12_block_231 fl_X12_185 rfl rfl ?_
        refine M.bipush (v := 6) dX12_block_234 (by decide) ?_
        refine M.ialdv (k9 := 74) (j := 6) (g := F 74) (v := H.getD 6 0) dX12_block_236 rfl rfl rfl rfl (show 6 < 8 by omega) (tl_at0 hH8 (by omega)) ?_
        refine M.istore (L' := [some (.ref m), some (.int (nI a)), some (.int (H.getD 0 0)), some (.int (H.getD 1 0)), some (.int (H.getD 2 0)), some (.int (H.getD 3 0)), some (.int (H.getD 4 0)), some (.int (H.getD 5 0)), some (.int (H.getD 6 0)), none, none, none, none]) dX12_block_237 (by decide) rfl rfl ?_
        refine M.aload_nR dX12_block_239 rfl ?_
        refine M.getr dX12_block_240 fl_X12_185 rfl rfl ?_
        refine M.bipush (v := 7) dX12_block_243 (by decide) ?_
        refine M.ialdv (k9 := 74) (j := 7) (g := F 74) (v := H.getD 7 0) dX12_block_245 rfl rfl rfl rfl (show 7 < 8 by omega) (tl_at0 hH8 (by omega)) ?_
        refine M.istore (L' := [some (.ref m), some (.int (nI a)), some (.int (H.getD 0 0)), some (.int (H.getD 1 0)), some (.int (H.getD 2 0)), some (.int (H.getD 3 0)), some (.int (H.getD 4 0)), some (.int (H.getD 5 0)), some (.int (H.getD 6 0)), some (.int (H.getD 7 0)), none, none, none]) dX12_block_246 (by decide) rfl rfl ?_
        refine M.iconst (v := 0) dX12_block_248 (by decide) ?_
        refine M.istore (L' := [some (.ref m), some (.int (nI a)), some (.int (H.getD 0 0)), some (.int (H.getD 1 0)), some (.int (H.getD 2 0)), some (.int (H.getD 3 0)), some (.int (H.getD 4 0)), some (.int (H.getD 5 0)), some (.int (H.getD 6 0)), some (.int (H.getD 7 0)), some (.int 0), none, none]) dX12_block_249 (by decide) rfl rfl ?_
        have cut_251 : ∀ (k_251 : Nat) (t : Nat), (t ≤ 64) → (65 ≤ t + k_251) → M Λ X mX12_block m A (fun r I' F' => ∃ g h, r = none ∧ I' = I ∧ F' = setF (setF F 72 g) 74 h ∧ tl h 0 8 = blk (fun t => wd (F 73) (a + 4 * t)) H) I (setF F 72 (schG (fun t => wd (F 73) (a + 4 * t)) (F 72) 64)) 251 [some (.ref m), some (.int (nI a)), some (.int ((rds (gD shaK) (schG (fun t => wd (F 73) (a + 4 * t)) (F 72) 64) t (t8 H)).1)), some (.int ((rds (gD shaK) (schG (fun t => wd (F 73) (a + 4 * t)) (F 72) 64) t (t8 H)).2.1)), some (.int ((rds (gD shaK) (schG (fun t => wd (F 73) (a + 4 * t)) (F 72) 64) t (t8 H)).2.2.1)), some (.int ((rds (gD shaK) (schG (fun t => wd (F 73) (a + 4 * t)) (F 72) 64) t (t8 H)).2.2.2.1)), some (.int ((rds (gD shaK) (schG (fun t => wd (F 73) (a + 4 * t)) (F 72) 64) t (t8 H)).2.2.2.2.1)), some (.int ((rds (gD shaK) (schG (fun t => wd (F 73) (a + 4 * t)) (F 72) 64) t (t8 H)).2.2.2.2.2.1)), some (.int ((rds (gD shaK) (schG (fun t => wd (F 73) (a + 4 * t)) (F 72) 64) t (t8 H)).2.2.2.2.2.2.1)), some (.int ((rds (gD shaK) (schG (fun t => wd (F 73) (a + 4 * t)) (F 72) 64) t (t8 H)).2.2.2.2.2.2.2)), some (.int (nI t)), none, none] [] := by
          intro k_251
          induction k_251 with
          | zero => intro t h3 h4; exact absurd h4 (by omega)
          | succ k_251 ih_251 =>
            intro t h3 h4
            refine M.iload dX12_block_251 rfl ?_
            refine M.bipush (v := 64) dX12_block_253 (by decide) ?_
            refine M.icmp_ge (tgt := 390) dX12_block_255 (by decide) (fun c_255 => ?_) (fun c_255 => ?_)
            · skip
              have e1 := nI_gen (n := 64) c_255 h3 (by omega); subst e1
              refine M.aload_nR dX12_block_390 rfl ?_
              refine M.getr dX12_block_391 fl_X12_185 rfl rfl ?_
              refine M.iconst (v := 0) dX12_block_394 (by decide) ?_
              refine M.dup2 dX12_block_395 rfl rfl ?_
              refine M.ialdv (k9 := 74) (j := 0) (g := F 74) (v := H.getD 0 0) dX12_block_396 rfl rfl rfl rfl (show 0 < 8 by omega) (tl_at0 hH8 (by omega)) ?_
              refine M.iload_n dX12_block_397 rfl ?_
              refine M.iadd dX12_block_398 ?_
              refine M.iast (k9 := 74) (j := 0) dX12_block_399 rfl rfl rfl (show 0 < 8 by omega) ?_
              rw [updF_eq, show setF F 72 (schG (fun t => wd (F 73) (a + 4 * t)) (F 72) 64) 74 = F 74 from rfl, show upd (F 74) 0 (H.getD 0 0 + (rds (gD shaK) (schG (fun t => wd (F 73) (a + 4 * t)) (F 72) 64) 64 (t8 H)).1) = updl (F 74) 0 [H.getD 0 0 + (rds (gD shaK) (schG (fun t => wd (F 73) (a + 4 * t)) (F 72) 64) 64 (t8 H)).1] from (updl_one _ _ _).symm]
              refine M.aload_nR dX12_block_400 rfl ?_
              refine M.getr dX12_block_401 fl_X12_185 rfl rfl ?_
              refine M.iconst (v := 1) dX12_block_404 (by decide) ?_
              refine M.dup2 dX12_block_405 rfl rfl ?_
              refine M.ialdv (k9 := 74) (j := 1) (g := updl (F 74) 0 [H.getD 0 0 + (rds (gD shaK) (schG (fun t => wd (F 73) (a + 4 * t)) (F 72) 64) 64 (t8 H)).1]) (v := H.getD 1 0) dX12_block_406 rfl rfl rfl rfl (show 1 < 8 by omega) ((updl_out (Or.inr (Nat.le_refl 1))).trans (tl_at0 hH8 (by omega))) ?_
              refine M.iload_n dX12_block_407 rfl ?_
              refine M.iadd dX12_block_408 ?_
              refine M.iast (k9 := 74) (j := 1) dX12_block_409 rfl rfl rfl (show 1 < 8 by omega) ?_
              rw [updF_set, show upd (updl (F 74) 0 [H.getD 0 0 + (rds (gD shaK) (schG (fun t => wd (F 73) (a + 4 * t)) (F 72) 64) 64 (t8 H)).1]) 1 (H.getD 1 0 + (rds (gD shaK) (schG (fun t => wd (F 73) (a + 4 * t)) (F 72) 64) 64 (t8 H)).2.1) = updl (F 74) 0 [H.getD 0 0 + (rds (gD shaK) (schG (fun t => wd (F 73) (a + 4 * t)) (F 72) 64) 64 (t8 H)).1, H.getD 1 0 + (rds (gD shaK) (schG (fun t => wd (F 73) (a + 4 * t)) (F 72) 64) 64 (t8 H)).2.1] from updl_snoc (F 74) 0 [H.getD 0 0 + (rds (gD shaK) (schG (fun t => wd (F 73) (a + 4 * t)) (F 72) 64) 64 (t8 H)).1] (H.getD 1 0 + (rds (gD shaK) (schG (fun t => wd (F 73) (a + 4 * t)) (F 72) 64) 64 (t8 H)).2.1)]
              refine M.aload_nR dX12_block_410 rfl ?_
              refine M.getr dX12_block_411 fl_X12_185 rfl rfl ?_
              refine M.iconst (v := 2) dX12_block_414 (by decide) ?_
              refine M.dup2 dX12_block_415 rfl rfl ?_
              refine M.ialdv (k9 := 74) (j := 2) (g := updl (F 74) 0 [H.getD 0 0 + (rds (gD shaK) (schG (fun t => wd (F 73) (a + 4 * t)) (F 72) 64) 64 (t8 H)).1, H.getD 1 0 + (rds (gD shaK) (schG (fun t => wd (F 73) (a + 4 * t)) (F 72) 64) 64 (t8 H)).2.1]) (v := H.getD 2 0) dX12_block_416 rfl rfl rfl rfl (show 2 < 8 by omega) ((updl_out (Or.inr (Nat.le_refl 2))).trans (tl_at0 hH8 (by omega))) ?_
              refine M.iload dX12_block_417 rfl ?_
              refine M.iadd dX12_block_419 ?_
              refine M.iast (k9 := 74) (j := 2) dX12_block_420 rfl rfl rfl (show 2 < 8 by omega) ?_
              rw [updF_set, show upd (updl (F 74) 0 [H.getD 0 0 + (rds (gD shaK) (schG (fun t => wd (F 73) (a + 4 * t)) (F 72) 64) 64 (t8 H)).1, H.getD 1 0 + (rds (gD shaK) (schG (fun t => wd (F 73) (a + 4 * t)) (F 72) 64) 64 (t8 H)).2.1]) 2 (H.getD 2 0 + (rds (gD shaK) (schG (fun t => wd (F 73) (a + 4 * t)) (F 72) 64) 64 (t8 H)).2.2.1) = updl (F 74) 0 [H.getD 0 0 + (rds (gD shaK) (schG (fun t => wd (F 73) (a + 4 * t)) (F 72) 64) 64 (t8 H)).1, H.getD 1 0 + (rds (gD shaK) (schG (fun t => wd (F 73) (a + 4 * t)) (F 72) 64) 64 (t8 H)).2.1, H.getD 2 0 + (rds (gD shaK) (schG (fun t => wd (F 73) (a + 4 * t)) (F 72) 64) 64 (t8 H)).2.2.1] from updl_snoc (F 74) 0 [H.getD 0 0 + (rds (gD shaK) (schG (fun t => wd (F 73) (a + 4 * t)) (F 72) 64) 64 (t8 H)).1, H.getD 1 0 + (rds (gD shaK) (schG (fun t => wd (F 73) (a + 4 * t)) (F 72) 64) 64 (t8 H)).2.1] (H.getD 2 0 + (rds (gD shaK) (schG (fun t => wd (F 73) (a + 4 * t)) (F 72) 64) 64 (t8 H)).2.2.1)]
              refine M.aload_nR dX12_block_421 rfl ?_
              refine M.getr dX12_block_422 fl_X12_185 rfl rfl ?_
              refine M.iconst (v := 3) dX12_block_425 (by decide) ?_
              refine M.dup2 dX12_block_426 rfl rfl ?_
              refine M.ialdv (k9 := 74) (j := 3) (g := updl (F 74) 0 [H.getD 0 0 + (rds (gD shaK) (schG (fun t => wd (F 73) (a + 4 * t)) (F 72) 64) 64 (t8 H)).1, H.getD 1 0 + (rds (gD shaK) (schG (fun t => wd (F 73) (a + 4 * t)) (F 72) 64) 64 (t8 H)).2.1, H.getD 2 0 + (rds (gD shaK) (schG (fun t => wd (F 73) (a + 4 * t)) (F 72) 64) 64 (t8 H)).2.2.1]) (v := H.getD 3 0) dX12_block_427 rfl rfl rfl rfl (show 3 < 8 by omega) ((updl_out (Or.inr (Nat.le_refl 3))).trans (tl_at0 hH8 (by omega))) ?_
              refine M.iload dX12_block_428 rfl ?_
              refine M.iadd dX12_block_430 ?_
              refine M.iast (k9 := 74) (j := 3) dX12_block_431 rfl rfl rfl (show 3 < 8 by omega) ?_
              rw [updF_set, show upd (updl (F 74) 0 [H.getD 0 0 + (rds (gD shaK) (schG (fun t => wd (F 73) (a + 4 * t)) (F 72) 64) 64 (t8 H)).1, H.getD 1 0 + (rds (gD shaK) (schG (fun t => wd (F 73) (a + 4 * t)) (F 72) 64) 64 (t8 H)).2.1, H.getD 2 0 + (rds (gD shaK) (schG (fun t => wd (F 73) (a + 4 * t)) (F 72) 64) 64 (t8 H)).2.2.1]) 3 (H.getD 3 0 + (rds (gD shaK) (schG (fun t => wd (F 73) (a + 4 * t)) (F 72) 64) 64 (t8 H)).2.2.2.1) = updl (F 74) 0 [H.getD 0 0 + (rds (gD shaK) (schG (fun t => wd (F 73) (a + 4 * t)) (F 72) 64) 64 (t8 H)).1, H.getD 1 0 + (rds (gD shaK) (schG (fun t => wd (F 73) (a + 4 * t)) (F 72) 64) 64 (t8 H)).2.1, H.getD 2 0 + (rds (gD shaK) (schG (fun t => wd (F 73) (a + 4 * t)) (F 72) 64) 64 (t8 H)).2.2.1, H.getD 3 0 + (rds (gD shaK) (schG (fun t => wd (F 73) (a + 4 * t)) (F 72) 64) 64 (t8 H)).2.2.2.1] from updl_snoc (F 74) 0 [H.getD 0 0 + (rds (gD shaK) (schG (fun t => wd (F 73) (a + 4 * t)) (F 72) 64) 64 (t8 H)).1, H.getD 1 0 + (rds (gD shaK) (schG (fun t => wd (F 73) (a + 4 * t)) (F 72) 64) 64 (t8 H)).2.1, H.getD 2 0 + (rds (gD shaK) (schG (fun t => wd (F 73) (a + 4 * t)) (F 72) 64) 64 (t8 H)).2.2.1] (H.getD 3 0 + (rds (gD shaK) (schG (fun t => wd (F 73) (a + 4 * t)) (F 72) 64) 64 (t8 H)).2.2.2.1)]
              refine M.aload_nR dX12_block_432 rfl ?_
              refine M.getr dX12_block_433 fl_X12_185 rfl rfl ?_
              refine M.iconst (v := 4) dX12_block_436 (by decide) ?_
              refine M.dup2 dX12_block_437 rfl rfl ?_
              refine M.ialdv (k9 := 74) (j := 4) (g := updl (F 74) 0 [H.getD 0 0 + (rds (gD shaK) (schG (fun t => wd (F 73) (a + 4 * t)) (F 72) 64) 64 (t8 H)).1, H.getD 1 0 + (rds (gD shaK) (schG (fun t => wd (F 73) (a + 4 * t)) (F 72) 64) 64 (t8 H)).2.1, H.getD 2 0 + (rds (gD shaK) (schG (fun t => wd (F 73) (a + 4 * t)) (F 72) 64) 64 (t8 H)).2.2.1, H.getD 3 0 + (rds (gD shaK) (schG (fun t => wd (F 73) (a + 4 * t)) (F 72) 64) 64 (t8 H)).2.2.2.1]) (v := H.getD 4 0) dX12_block_438 rfl rfl rfl rfl (show 4 < 8 by omega) ((updl_out (Or.inr (Nat.le_refl 4))).trans (tl_at0 hH8 (by omega))) ?_
              refine M.iload dX12_block_439 rfl ?_
              refine M.iadd dX12_block_441 ?_
              refine M.iast (k9 := 74) (j := 4) dX12_block_442 rfl rfl rfl (show 4 < 8 by omega) ?_
              rw [updF_set, show upd (updl (F 74) 0 [H.getD 0 0 + (rds (gD shaK) (schG (fun t => wd (F 73) (a + 4 * t)) (F 72) 64) 64 (t8 H)).1, H.getD 1 0 + (rds (gD shaK) (schG (fun t => wd (F 73) (a + 4 * t)) (F 72) 64) 64 (t8 H)).2.1, H.getD 2 0 + (rds (gD shaK) (schG (fun t => wd (F 73) (a + 4 * t)) (F 72) 64) 64 (t8 H)).2.2.1, H.getD 3 0 + (rds (gD shaK) (schG (fun t => wd (F 73) (a + 4 * t)) (F 72) 64) 64 (t8 H)).2.2.2.1]) 4 (H.getD 4 0 + (rds (gD shaK) (schG (fun t => wd (F 73) (a + 4 * t)) (F 72) 64) 64 (t8 H)).2.2.2.2.1) = updl (F 74) 0 [H.getD 0 0 + (rds (gD shaK) (schG (fun t => wd (F 73) (a + 4 * t)) (F 72) 64) 64 (t8 H)).1, H.getD 1 0 + (rds (gD shaK) (schG (fun t => wd (F 73) (a + 4 * t)) (F 72) 64) 64 (t8 H)).2.1, H.getD 2 0 + (rds (gD shaK) (schG (fun t => wd (F 73) (a + 4 * t)) (F 72) 64) 64 (t8 H)).2.2.1, H.getD 3 0 + (rds (gD shaK) (schG (fun t => wd (F 73) (a + 4 * t)) (F 72) 64) 64 (t8 H)).2.2.2.1, H.getD 4 0 + (rds (gD shaK) (schG (fun t => wd (F 73) (a + 4 * t)) (F 72) 64) 64 (t8 H)).2.2.2.2.1] from updl_snoc (F 74) 0 [H.getD 0 0 + (rds (gD shaK) (schG (fun t => wd (F 73) (a + 4 * t)) (F 72) 64) 64 (t8 H)).1, H.getD 1 0 + (rds (gD shaK) (schG (fun t => wd (F 73) (a + 4 * t)) (F 72) 64) 64 (t8 H)).2.1, H.getD 2 0 + (rds (gD shaK) (schG (fun t => wd (F 73) (a + 4 * t)) (F 72) 64) 64 (t8 H)).2.2.1, H.getD 3 0 + (rds (gD shaK) (schG (fun t => wd (F 73) (a + 4 * t)) (F 72) 64) 64 (t8 H)).2.2.2.1] (H.getD 4 0 + (rds (gD shaK) (schG (fun t => wd (F 73) (a + 4 * t)) (F 72) 64) 64 (t8 H)).2.2.2.2.1)]
              refine M.aload_nR dX12_block_443 rfl ?_
              refine M.getr dX12_block_444 fl_X12_185 rfl rfl ?_
              refine M.iconst (v := 5) dX12_block_447 (by decide) ?_
              refine M.dup2 dX12_block_448 rfl rfl ?_
              refine M.ialdv (k9 := 74) (j := 5) (g := updl (F 74) 0 [H.getD 0 0 + (rds (gD shaK) (schG (fun t => wd (F 73) (a + 4 * t)) (F 72) 64) 64 (t8 H)).1, H.getD 1 0 + (rds (gD shaK) (schG (fun t => wd (F 73) (a + 4 * t)) (F 72) 64) 64 (t8 H)).2.1, H.getD 2 0 + (rds (gD shaK) (schG (fun t => wd (F 73) (a + 4 * t)) (F 72) 64) 64 (t8 H)).2.2.1, H.getD 3 0 + (rds (gD shaK) (schG (fun t => wd (F 73) (a + 4 * t)) (F 72) 64) 64 (t8 H)).2.2.2.1, H.getD 4 0 + (rds (gD shaK) (schG (fun t => wd (F 73) (a + 4 * t)) (F 72) 64) 64 (t8 H)).2.2.2.2.1]) (v := H.getD 5 0) dX12_block_449 rfl rfl rfl rfl (show 5 < 8 by omega) ((updl_out (Or.inr (Nat.le_refl 5))).trans (tl_at0 hH8 (by omega))) ?_
              refine M.iload dX12_block_450 rfl ?_
              refine M.iadd dX12_block_452 ?_
              refine M.iast (k9 := 74) (j := 5) dX12_block_453 rfl rfl rfl (show 5 < 8 by omega) ?_
              rw [updF_set, show upd (updl (F 74) 0 [H.getD 0 0 + (rds (gD shaK) (schG (fun t => wd (F 73) (a + 4 * t)) (F 72) 64) 64 (t8 H)).1, H.getD 1 0 + (rds (gD shaK) (schG (fun t => wd (F 73) (a + 4 * t)) (F 72) 64) 64 (t8 H)).2.1, H.getD 2 0 + (rds (gD shaK) (schG (fun t => wd (F 73) (a + 4 * t)) (F 72) 64) 64 (t8 H)).2.2.1, H.getD 3 0 + (rds (gD shaK) (schG (fun t => wd (F 73) (a + 4 * t)) (F 72) 64) 64 (t8 H)).2.2.2.1, H.getD 4 0 + (rds (gD shaK) (schG (fun t => wd (F 73) (a + 4 * t)) (F 72) 64) 64 (t8 H)).2.2.2.2.1]) 5 (H.getD 5 0 + (rds (gD shaK) (schG (fun t => wd (F 73) (a + 4 * t)) (F 72) 64) 64 (t8 H)).2.2.2.2.2.1) = updl (F 74) 0 [H.getD 0 0 + (rds (gD shaK) (schG (fun t => wd (F 73) (a + 4 * t)) (F 72) 64) 64 (t8 H)).1, H.getD 1 0 + (rds (gD shaK) (schG (fun t => wd (F 73) (a + 4 * t)) (F 72) 64) 64 (t8 H)).2.1, H.getD 2 0 + (rds (gD shaK) (schG (fun t => wd (F 73) (a + 4 * t)) (F 72) 64) 64 (t8 H)).2.2.1, H.getD 3 0 + (rds (gD shaK) (schG (fun t => wd (F 73) (a + 4 * t)) (F 72) 64) 64 (t8 H)).2.2.2.1, H.getD 4 0 + (rds (gD shaK) (schG (fun t => wd (F 73) (a + 4 * t)) (F 72) 64) 64 (t8 H)).2.2.2.2.1, H.getD 5 0 + (rds (gD shaK) (schG (fun t => wd (F 73) (a + 4 * t)) (F 72) 64) 64 (t8 H)).2.2.2.2.2.1] from updl_snoc (F 74) 0 [H.getD 0 0 + (rds (gD shaK) (schG (fun t => wd (F 73) (a + 4 * t)) (F 72) 64) 64 (t8 H)).1, H.getD 1 0 + (rds (gD shaK) (schG (fun t => wd (F 73) (a + 4 * t)) (F 72) 64) 64 (t8 H)).2.1, H.getD 2 0 + (rds (gD shaK) (schG (fun t => wd (F 73) (a + 4 * t)) (F 72) 64) 64 (t8 H)).2.2.1, H.getD 3 0 + (rds (gD shaK) (schG (fun t => wd (F 73) (a + 4 * t)) (F 72) 64) 64 (t8 H)).2.2.2.1, H.getD 4 0 + (rds (gD shaK) (schG (fun t => wd (F 73) (a + 4 * t)) (F 72) 64) 64 (t8 H)).2.2.2.2.1] (H.getD 5 0 + (rds (gD shaK) (schG (fun t => wd (F 73) (a + 4 * t)) (F 72) 64) 64 (t8 H)).2.2.2.2.2.1)]
              refine M.aload_nR dX12_block_454 rfl ?_
              refine M.getr dX12_block_455 fl_X12_185 rfl rfl ?_
              refine M.bipush (v := 6) dX12_block_458 (by decide) ?_
              refine M.dup2 dX12_block_460 rfl rfl ?_
              refine M.ialdv (k9 := 74) (j := 6) (g := updl (F 74) 0 [H.getD 0 0 + (rds (gD shaK) (schG (fun t => wd (F 73) (a + 4 * t)) (F 72) 64) 64 (t8 H)).1, H.getD 1 0 + (rds (gD shaK) (schG (fun t => wd (F 73) (a + 4 * t)) (F 72) 64) 64 (t8 H)).2.1, H.getD 2 0 + (rds (gD shaK) (schG (fun t => wd (F 73) (a + 4 * t)) (F 72) 64) 64 (t8 H)).2.2.1, H.getD 3 0 + (rds (gD shaK) (schG (fun t => wd (F 73) (a + 4 * t)) (F 72) 64) 64 (t8 H)).2.2.2.1, H.getD 4 0 + (rds (gD shaK) (schG (fun t => wd (F 73) (a + 4 * t)) (F 72) 64) 64 (t8 H)).2.2.2.2.1, H.getD 5 0 + (rds (gD shaK) (schG (fun t => wd (F 73) (a + 4 * t)) (F 72) 64) 64 (t8 H)).2.2.2.2.2.1]) (v := H.getD 6 0) dX12_block_461 rfl rfl rfl rfl (show 6 < 8 by omega) ((updl_out (Or.inr (Nat.le_refl 6))).trans (tl_at0 hH8 (by omega))) ?_
              refine M.iload dX12_block_462 rfl ?_
              refine M.iadd dX12_block_464 ?_
              refine M.iast (k9 := 74) (j := 6) dX12_block_465 rfl rfl rfl (show 6 < 8 by omega) ?_
              rw [updF_set, show upd (updl (F 74) 0 [H.getD 0 0 + (rds (gD shaK) (schG (fun t => wd (F 73) (a + 4 * t)) (F 72) 64) 64 (t8 H)).1, H.getD 1 0 + (rds (gD shaK) (schG (fun t => wd (F 73) (a + 4 * t)) (F 72) 64) 64 (t8 H)).2.1, H.getD 2 0 + (rds (gD shaK) (schG (fun t => wd (F 73) (a + 4 * t)) (F 72) 64) 64 (t8 H)).2.2.1, H.getD 3 0 + (rds (gD shaK) (schG (fun t => wd (F 73) (a + 4 * t)) (F 72) 64) 64 (t8 H)).2.2.2.1, H.getD 4 0 + (rds (gD shaK) (schG (fun t => wd (F 73) (a + 4 * t)) (F 72) 64) 64 (t8 H)).2.2.2.2.1, H.getD 5 0 + (rds (gD shaK) (schG (fun t => wd (F 73) (a + 4 * t)) (F 72) 64) 64 (t8 H)).2.2.2.2.2.1]) 6 (H.getD 6 0 + (rds (gD shaK) (schG (fun t => wd (F 73) (a + 4 * t)) (F 72) 64) 64 (t8 H)).2.2.2.2.2.2.1) = updl (F 74) 0 [H.getD 0 0 + (rds (gD shaK) (schG (fun t => wd (F 73) (a + 4 * t)) (F 72) 64) 64 (t8 H)).1, H.getD 1 0 + (rds (gD shaK) (schG (fun t => wd (F 73) (a + 4 * t)) (F 72) 64) 64 (t8 H)).2.1, H.getD 2 0 + (rds (gD shaK) (schG (fun t => wd (F 73) (a + 4 * t)) (F 72) 64) 64 (t8 H)).2.2.1, H.getD 3 0 + (rds (gD shaK) (schG (fun t => wd (F 73) (a + 4 * t)) (F 72) 64) 64 (t8 H)).2.2.2.1, H.getD 4 0 + (rds (gD shaK) (schG (fun t => wd (F 73) (a + 4 * t)) (F 72) 64) 64 (t8 H)).2.2.2.2.1, H.getD 5 0 + (rds (gD shaK) (schG (fun t => wd (F 73) (a + 4 * t)) (F 72) 64) 64 (t8 H)).2.2.2.2.2.1, H.getD 6 0 + (rds (gD shaK) (schG (fun t => wd (F 73) (a + 4 * t)) (F 72) 64) 64 (t8 H)).2.2.2.2.2.2.1] from updl_snoc (F 74) 0 [H.getD 0 0 + (rds (gD shaK) (schG (fun t => wd (F 73) (a + 4 * t)) (F 72) 64) 64 (t8 H)).1, H.getD 1 0 + (rds (gD shaK) (schG (fun t => wd (F 73) (a + 4 * t)) (F 72) 64) 64 (t8 H)).2.1, H.getD 2 0 + (rds (gD shaK) (schG (fun t => wd (F 73) (a + 4 * t)) (F 72) 64) 64 (t8 H)).2.2.1, H.getD 3 0 + (rds (gD shaK) (schG (fun t => wd (F 73) (a + 4 * t)) (F 72) 64) 64 (t8 H)).2.2.2.1, H.getD 4 0 + (rds (gD shaK) (schG (fun t => wd (F 73) (a + 4 * t)) (F 72) 64) 64 (t8 H)).2.2.2.2.1, H.getD 5 0 + (rds (gD shaK) (schG (fun t => wd (F 73) (a + 4 * t)) (F 72) 64) 64 (t8 H)).2.2.2.2.2.1] (H.getD 6 0 + (rds (gD shaK) (schG (fun t => wd (F 73) (a + 4 * t)) (F 72) 64) 64 (t8 H)).2.2.2.2.2.2.1)]
              refine M.aload_nR dX12_block_466 rfl ?_
              refine M.getr dX12_block_467 fl_X12_185 rfl rfl ?_
              refine M.bipush (v := 7) dX12_block_470 (by decide) ?_
              refine M.dup2 dX12_block_472 rfl rfl ?_
              refine M.ialdv (k9 := 74) (j := 7) (g := updl (F 74) 0 [H.getD 0 0 + (rds (gD shaK) (schG (fun t => wd (F 73) (a + 4 * t)) (F 72) 64) 64 (t8 H)).1, H.getD 1 0 + (rds (gD shaK) (schG (fun t => wd (F 73) (a + 4 * t)) (F 72) 64) 64 (t8 H)).2.1, H.getD 2 0 + (rds (gD shaK) (schG (fun t => wd (F 73) (a + 4 * t)) (F 72) 64) 64 (t8 H)).2.2.1, H.getD 3 0 + (rds (gD shaK) (schG (fun t => wd (F 73) (a + 4 * t)) (F 72) 64) 64 (t8 H)).2.2.2.1, H.getD 4 0 + (rds (gD shaK) (schG (fun t => wd (F 73) (a + 4 * t)) (F 72) 64) 64 (t8 H)).2.2.2.2.1, H.getD 5 0 + (rds (gD shaK) (schG (fun t => wd (F 73) (a + 4 * t)) (F 72) 64) 64 (t8 H)).2.2.2.2.2.1, H.getD 6 0 + (rds (gD shaK) (schG (fun t => wd (F 73) (a + 4 * t)) (F 72) 64) 64 (t8 H)).2.2.2.2.2.2.1]) (v := H.getD 7 0) dX12_block_473 rfl rfl rfl rfl (show 7 < 8 by omega) ((updl_out (Or.inr (Nat.le_refl 7))).trans (tl_at0 hH8 (by omega))) ?_
              refine M.iload dX12_block_474 rfl ?_
              refine M.iadd dX12_block_476 ?_
              refine M.iast (k9 := 74) (j := 7) dX12_block_477 rfl rfl rfl (show 7 < 8 by omega) ?_
              rw [updF_set, show upd (updl (F 74) 0 [H.getD 0 0 + (rds (gD shaK) (schG (fun t => wd (F 73) (a + 4 * t)) (F 72) 64) 64 (t8 H)).1, H.getD 1 0 + (rds (gD shaK) (schG (fun t => wd (F 73) (a + 4 * t)) (F 72) 64) 64 (t8 H)).2.1, H.getD 2 0 + (rds (gD shaK) (schG (fun t => wd (F 73) (a + 4 * t)) (F 72) 64) 64 (t8 H)).2.2.1, H.getD 3 0 + (rds (gD shaK) (schG (fun t => wd (F 73) (a + 4 * t)) (F 72) 64) 64 (t8 H)).2.2.2.1, H.getD 4 0 + (rds (gD shaK) (schG (fun t => wd (F 73) (a + 4 * t)) (F 72) 64) 64 (t8 H)).2.2.2.2.1, H.getD 5 0 + (rds (gD shaK) (schG (fun t => wd (F 73) (a + 4 * t)) (F 72) 64) 64 (t8 H)).2.2.2.2.2.1, H.getD 6 0 + (rds (gD shaK) (schG (fun t => wd (F 73) (a + 4 * t)) (F 72) 64) 64 (t8 H)).2.2.2.2.2.2.1]) 7 (H.getD 7 0 + (rds (gD shaK) (schG (fun t => wd (F 73) (a + 4 * t)) (F 72) 64) 64 (t8 H)).2.2.2.2.2.2.2) = updl (F 74) 0 [H.getD 0 0 + (rds (gD shaK) (schG (fun t => wd (F 73) (a + 4 * t)) (F 72) 64) 64 (t8 H)).1, H.getD 1 0 + (rds (gD shaK) (schG (fun t => wd (F 73) (a + 4 * t)) (F 72) 64) 64 (t8 H)).2.1, H.getD 2 0 + (rds (gD shaK) (schG (fun t => wd (F 73) (a + 4 * t)) (F 72) 64) 64 (t8 H)).2.2.1, H.getD 3 0 + (rds (gD shaK) (schG (fun t => wd (F 73) (a + 4 * t)) (F 72) 64) 64 (t8 H)).2.2.2.1, H.getD 4 0 + (rds (gD shaK) (schG (fun t => wd (F 73) (a + 4 * t)) (F 72) 64) 64 (t8 H)).2.2.2.2.1, H.getD 5 0 + (rds (gD shaK) (schG (fun t => wd (F 73) (a + 4 * t)) (F 72) 64) 64 (t8 H)).2.2.2.2.2.1, H.getD 6 0 + (rds (gD shaK) (schG (fun t => wd (F 73) (a + 4 * t)) (F 72) 64) 64 (t8 H)).2.2.2.2.2.2.1, H.getD 7 0 + (rds (gD shaK) (schG (fun t => wd (F 73) (a + 4 * t)) (F 72) 64) 64 (t8 H)).2.2.2.2.2.2.2] from updl_snoc (F 74) 0 [H.getD 0 0 + (rds (gD shaK) (schG (fun t => wd (F 73) (a + 4 * t)) (F 72) 64) 64 (t8 H)).1, H.getD 1 0 + (rds (gD shaK) (schG (fun t => wd (F 73) (a + 4 * t)) (F 72) 64) 64 (t8 H)).2.1, H.getD 2 0 + (rds (gD shaK) (schG (fun t => wd (F 73) (a + 4 * t)) (F 72) 64) 64 (t8 H)).2.2.1, H.getD 3 0 + (rds (gD shaK) (schG (fun t => wd (F 73) (a + 4 * t)) (F 72) 64) 64 (t8 H)).2.2.2.1, H.getD 4 0 + (rds (gD shaK) (schG (fun t => wd (F 73) (a + 4 * t)) (F 72) 64) 64 (t8 H)).2.2.2.2.1, H.getD 5 0 + (rds (gD shaK) (schG (fun t => wd (F 73) (a + 4 * t)) (F 72) 64) 64 (t8 H)).2.2.2.2.2.1, H.getD 6 0 + (rds (gD shaK) (schG (fun t => wd (F 73) (a + 4 * t)) (F 72) 64) 64 (t8 H)).2.2.2.2.2.2.1] (H.getD 7 0 + (rds (gD shaK) (schG (fun t => wd (F 73) (a + 4 * t)) (F 72) 64) 64 (t8 H)).2.2.2.2.2.2.2)]
              refine M.vret dX12_block_478 rfl ?_
              refine ⟨_, _, rfl, rfl, rfl, ?_⟩
              rw [← blk_any (fun t => wd (F 73) (a + 4 * t)) (F 72) H]
              exact tl_in (f := F 74) (i := 0) (l := add8 H (rds (gD shaK) (schG (fun t => wd (F 73) (a + 4 * t)) (F 72) 64) 64 (t8 H)))
            · skip
              have lt_t : t < 64 := nI_ltn (n := 64) c_255 (by omega) (by omega)
              refine M.iload dX12_block_258 rfl ?_
              refine M.iload dX12_block_260 rfl ?_
              refine M.bipush (v := 6) dX12_block_262 (by decide) ?_
              refine M.callJ (v := .int (rotr ((rds (gD shaK) (schG (fun t => wd (F 73) (a + 4 * t)) (F 72) 64) t (t8 H)).2.2.2.2.1) 6)) [.int ((rds (gD shaK) (schG (fun t => wd (F 73) (a + 4 * t)) (F 72) 64) t (t8 H)).2.2.2.2.1), .int 6] dX12_block_264 mdX12_rolled ssX12_rolled lk_X12_488 rfl rfl rfl rfl (fun σ9 => m_rolled ((rds (gD shaK) (schG (fun t => wd (F 73) (a + 4 * t)) (F 72) 64) t (t8 H)).2.2.2.2.1) 6) ?_
              refine M.iload dX12_block_267 rfl ?_
              refine M.bipush (v := 11) dX12_block_269 (by decide) ?_
              refine M.callJ (v := .int (rotr ((rds (gD shaK) (schG (fun t => wd (F 73) (a + 4 * t)) (F 72) 64) t (t8 H)).2.2.2.2.1) 11)) [.int ((rds (gD shaK) (schG (fun t => wd (F 73) (a + 4 * t)) (F 72) 64) t (t8 H)).2.2.2.2.1), .int 11] dX12_block_271 mdX12_rolled ssX12_rolled lk_X12_488 rfl rfl rfl rfl (fun σ9 => m_rolled ((rds (gD shaK) (schG (fun t => wd (F 73) (a + 4 * t)) (F 72) 64) t (t8 H)).2.2.2.2.1) 11) ?_
              refine M.ixor dX12_block_274 ?_
              refine M.iload dX12_block_275 rfl ?_
              refine M.bipush (v := 25) dX12_block_277 (by decide) ?_
              refine M.callJ (v := .int (rotr ((rds (gD shaK) (schG (fun t => wd (F 73) (a + 4 * t)) (F 72) 64) t (t8 H)).2.2.2.2.1) 25)) [.int ((rds (gD shaK) (schG (fun t => wd (F 73) (a + 4 * t)) (F 72) 64) t (t8 H)).2.2.2.2.1), .int 25] dX12_block_279 mdX12_rolled ssX12_rolled lk_X12_488 rfl rfl rfl rfl (fun σ9 => m_rolled ((rds (gD shaK) (schG (fun t => wd (F 73) (a + 4 * t)) (F 72) 64) t (t8 H)).2.2.2.2.1) 25) ?_
              refine M.ixor dX12_block_282 ?_
              refine M.iadd dX12_block_283 ?_
              refine M.iload dX12_block_284 rfl ?_
              refine M.iload dX12_block_286 rfl ?_
              refine M.iand dX12_block_288 ?_
              refine M.iload dX12_block_289 rfl ?_
              refine M.iconst (v := (-1)) dX12_block_291 (by decide) ?_
              refine M.ixor dX12_block_292 ?_
              refine M.iload dX12_block_293 rfl ?_
              refine M.iand dX12_block_295 ?_
              refine M.ixor dX12_block_296 ?_
              refine M.iadd dX12_block_297 ?_
              refine M.getsC dX12_block_298 hr1 fw_X12_491 ?_
              refine M.iload dX12_block_301 rfl ?_
              refine M.ti (j := t) dX12_block_303 hr2 rfl lt_t (by decide) ?_
              refine M.iadd dX12_block_304 ?_
              refine M.aload_nR dX12_block_305 rfl ?_
              refine M.getr dX12_block_306 fl_X12_179 rfl rfl ?_
              refine M.iload dX12_block_309 rfl ?_
              refine M.iald (k9 := 72) (j := t) (g := (schG (fun t => wd (F 73) (a + 4 * t)) (F 72) 64)) dX12_block_311 rfl rfl rfl rfl (show t < 64 by omega) ?_
              refine M.iadd dX12_block_312 ?_
              rw [show (((((rds (gD shaK) (schG (fun t => wd (F 73) (a + 4 * t)) (F 72) 64) t (t8 H)).2.2.2.2.2.2.2) + (((rotr ((rds (gD shaK) (schG (fun t => wd (F 73) (a + 4 * t)) (F 72) 64) t (t8 H)).2.2.2.2.1) 6) ^^^ (rotr ((rds (gD shaK) (schG (fun t => wd (F 73) (a + 4 * t)) (F 72) 64) t (t8 H)).2.2.2.2.1) 11)) ^^^ (rotr ((rds (gD shaK) (schG (fun t => wd (F 73) (a + 4 * t)) (F 72) 64) t (t8 H)).2.2.2.2.1) 25))) + ((((rds (gD shaK) (schG (fun t => wd (F 73) (a + 4 * t)) (F 72) 64) t (t8 H)).2.2.2.2.1) &&& ((rds (gD shaK) (schG (fun t => wd (F 73) (a + 4 * t)) (F 72) 64) t (t8 H)).2.2.2.2.2.1)) ^^^ ((((rds (gD shaK) (schG (fun t => wd (F 73) (a + 4 * t)) (F 72) 64) t (t8 H)).2.2.2.2.1) ^^^ (-1)) &&& ((rds (gD shaK) (schG (fun t => wd (F 73) (a + 4 * t)) (F 72) 64) t (t8 H)).2.2.2.2.2.2.1)))) + (gD shaK t)) + ((schG (fun t => wd (F 73) (a + 4 * t)) (F 72) 64) t) = one8 (gD shaK t) ((schG (fun t => wd (F 73) (a + 4 * t)) (F 72) 64) t) (rds (gD shaK) (schG (fun t => wd (F 73) (a + 4 * t)) (F 72) 64) t (t8 H)) from rfl]
              refine M.istore (L' := [some (.ref m), some (.int (nI a)), some (.int ((rds (gD shaK) (schG (fun t => wd (F 73) (a + 4 * t)) (F 72) 64) t (t8 H)).1)), some (.int ((rds (gD shaK) (schG (fun t => wd (F 73) (a + 4 * t)) (F 72) 64) t (t8 H)).2.1)), some (.int ((rds (gD shaK) (schG (fun t => wd (F 73) (a + 4 * t)) (F 72) 64) t (t8 H)).2.2.1)), some (.int ((rds (gD shaK) (schG (fun t => wd (F 73) (a + 4 * t)) (F 72) 64) t (t8 H)).2.2.2.1)), some (.int ((rds (gD shaK) (schG (fun t => wd (F 73) (a + 4 * t)) (F 72) 64) t (t8 H)).2.2.2.2.1)), some (.int ((rds (gD shaK) (schG (fun t => wd (F 73) (a + 4 * t)) (F 72) 64) t (t8 H)).2.2.2.2.2.1)), some (.int ((rds (gD shaK) (schG (fun t => wd (F 73) (a + 4 * t)) (F 72) 64) t (t8 H)).2.2.2.2.2.2.1)), some (.int ((rds (gD shaK) (schG (fun t => wd (F 73) (a + 4 * t)) (F 72) 64) t (t8 H)).2.2.2.2.2.2.2)), some (.int (nI t)), some (.int (one8 (gD shaK t) ((schG (fun t => wd (F 73) (a + 4 * t)) (F 72) 64) t) (rds (gD shaK) (schG (fun t => wd (F 73) (a + 4 * t)) (F 72) 64) t (t8 H)))), none]) dX12_block_313 (by decide) rfl rfl ?_
              refine M.iload_n dX12_block_315 rfl ?_
              refine M.iconst (v := 2) dX12_block_316 (by decide) ?_
              refine M.callJ (v := .int (rotr ((rds (gD shaK) (schG (fun t => wd (F 73) (a + 4 * t)) (F 72) 64) t (t8 H)).1) 2)) [.int ((rds (gD shaK) (schG (fun t => wd (F 73) (a + 4 * t)) (F 72) 64) t (t8 H)).1), .int 2] dX12_block_317 mdX12_rolled ssX12_rolled lk_X12_488 rfl rfl rfl rfl (fun σ9 => m_rolled ((rds (gD shaK) (schG (fun t => wd (F 73) (a + 4 * t)) (F 72) 64) t (t8 H)).1) 2) ?_
              refine M.iload_n dX12_block_320 rfl ?_
              refine M.bipush (v := 13) dX12_block_321 (by decide) ?_
              refine M.callJ (v := .int (rotr ((rds (gD shaK) (schG (fun t => wd (F 73) (a + 4 * t)) (F 72) 64) t (t8 H)).1) 13)) [.int ((rds (gD shaK) (schG (fun t => wd (F 73) (a + 4 * t)) (F 72) 64) t (t8 H)).1), .int 13] dX12_block_323 mdX12_rolled ssX12_rolled lk_X12_488 rfl rfl rfl rfl (fun σ9 => m_rolled ((rds (gD shaK) (schG (fun t => wd (F 73) (a + 4 * t)) (F 72) 64) t (t8 H)).1) 13) ?_
              refine M.ixor dX12_block_326 ?_
              refine M.iload_n dX12_block_327 rfl ?_
              refine M.bipush (v := 22) dX12_block_328 (by decide) ?_
              refine M.callJ (v := .int (rotr ((rds (gD shaK) (schG (fun t => wd (F 73) (a + 4 * t)) (F 72) 64) t (t8 H)).1) 22)) [.int ((rds (gD shaK) (schG (fun t => wd (F 73) (a + 4 * t)) (F 72) 64) t (t8 H)).1), .int 22] dX12_block_330 mdX12_rolled ssX12_rolled lk_X12_488 rfl rfl rfl rfl (fun σ9 => m_rolled ((rds (gD shaK) (schG (fun t => wd (F 73) (a + 4 * t)) (F 72) 64) t (t8 H)).1) 22) ?_
              refine M.ixor dX12_block_333 ?_
              refine M.iload_n dX12_block_334 rfl ?_
              refine M.iload_n dX12_block_335 rfl ?_
              refine M.iand dX12_block_336 ?_
              refine M.iload_n dX12_block_337 rfl ?_
              refine M.iload dX12_block_338 rfl ?_
              refine M.iand dX12_block_340 ?_
              refine M.ixor dX12_block_341 ?_
              refine M.iload_n dX12_block_342 rfl ?_
              refine M.iload dX12_block_343 rfl ?_
              refine M.iand dX12_block_345 ?_
              refine M.ixor dX12_block_346 ?_
              refine M.iadd dX12_block_347 ?_
              rw [show (((rotr ((rds (gD shaK) (schG (fun t => wd (F 73) (a + 4 * t)) (F 72) 64) t (t8 H)).1) 2) ^^^ (rotr ((rds (gD shaK) (schG (fun t => wd (F 73) (a + 4 * t)) (F 72) 64) t (t8 H)).1) 13)) ^^^ (rotr ((rds (gD shaK) (schG (fun t => wd (F 73) (a + 4 * t)) (F 72) 64) t (t8 H)).1) 22)) + (((((rds (gD shaK) (schG (fun t => wd (F 73) (a + 4 * t)) (F 72) 64) t (t8 H)).1) &&& ((rds (gD shaK) (schG (fun t => wd (F 73) (a + 4 * t)) (F 72) 64) t (t8 H)).2.1)) ^^^ (((rds (gD shaK) (schG (fun t => wd (F 73) (a + 4 * t)) (F 72) 64) t (t8 H)).1) &&& ((rds (gD shaK) (schG (fun t => wd (F 73) (a + 4 * t)) (F 72) 64) t (t8 H)).2.2.1))) ^^^ (((rds (gD shaK) (schG (fun t => wd (F 73) (a + 4 * t)) (F 72) 64) t (t8 H)).2.1) &&& ((rds (gD shaK) (schG (fun t => wd (F 73) (a + 4 * t)) (F 72) 64) t (t8 H)).2.2.1))) = two8 (rds (gD shaK) (schG (fun t => wd (F 73) (a + 4 * t)) (F 72) 64) t (t8 H)) from rfl]
              refine M.istore (L' := [some (.ref m), some (.int (nI a)), some (.int ((rds (gD shaK) (schG (fun t => wd (F 73) (a + 4 * t)) (F 72) 64) t (t8 H)).1)), some (.int ((rds (gD shaK) (schG (fun t => wd (F 73) (a + 4 * t)) (F 72) 64) t (t8 H)).2.1)), some (.int ((rds (gD shaK) (schG (fun t => wd (F 73) (a + 4 * t)) (F 72) 64) t (t8 H)).2.2.1)), some (.int ((rds (gD shaK) (schG (fun t => wd (F 73) (a + 4 * t)) (F 72) 64) t (t8 H)).2.2.2.1)), some (.int ((rds (gD shaK) (schG (fun t => wd (F 73) (a + 4 * t)) (F 72) 64) t (t8 H)).2.2.2.2.1)), some (.int ((rds (gD shaK) (schG (fun t => wd (F 73) (a + 4 * t)) (F 72) 64) t (t8 H)).2.2.2.2.2.1)), some (.int ((rds (gD shaK) (schG (fun t => wd (F 73) (a + 4 * t)) (F 72) 64) t (t8 H)).2.2.2.2.2.2.1)), some (.int ((rds (gD shaK) (schG (fun t => wd (F 73) (a + 4 * t)) (F 72) 64) t (t8 H)).2.2.2.2.2.2.2)), some (.int (nI t)), some (.int (one8 (gD shaK t) ((schG (fun t => wd (F 73) (a + 4 * t)) (F 72) 64) t) (rds (gD shaK) (schG (fun t => wd (F 73) (a + 4 * t)) (F 72) 64) t (t8 H)))), some (.int (two8 (rds (gD shaK) (schG (fun t => wd (F 73) (a + 4 * t)) (F 72) 64) t (t8 H))))]) dX12_block_348 (by decide) rfl rfl ?_
              refine M.iload dX12_block_350 rfl ?_
              refine M.istore (L' := [some (.ref m), some (.int (nI a)), some (.int ((rds (gD shaK) (schG (fun t => wd (F 73) (a + 4 * t)) (F 72) 64) t (t8 H)).1)), some (.int ((rds (gD shaK) (schG (fun t => wd (F 73) (a + 4 * t)) (F 72) 64) t (t8 H)).2.1)), some (.int ((rds (gD shaK) (schG (fun t => wd (F 73) (a + 4 * t)) (F 72) 64) t (t8 H)).2.2.1)), some (.int ((rds (gD shaK) (schG (fun t => wd (F 73) (a + 4 * t)) (F 72) 64) t (t8 H)).2.2.2.1)), some (.int ((rds (gD shaK) (schG (fun t => wd (F 73) (a + 4 * t)) (F 72) 64) t (t8 H)).2.2.2.2.1)), some (.int ((rds (gD shaK) (schG (fun t => wd (F 73) (a + 4 * t)) (F 72) 64) t (t8 H)).2.2.2.2.2.1)), some (.int ((rds (gD shaK) (schG (fun t => wd (F 73) (a + 4 * t)) (F 72) 64) t (t8 H)).2.2.2.2.2.2.1)), some (.int ((rds (gD shaK) (schG (fun t => wd (F 73) (a + 4 * t)) (F 72) 64) t (t8 H)).2.2.2.2.2.2.1)), some (.int (nI t)), some (.int (one8 (gD shaK t) ((schG (fun t => wd (F 73) (a + 4 * t)) (F 72) 64) t) (rds (gD shaK) (schG (fun t => wd (F 73) (a + 4 * t)) (F 72) 64) t (t8 H)))), some (.int (two8 (rds (gD shaK) (schG (fun t => wd (F 73) (a + 4 * t)) (F 72) 64) t (t8 H))))]) dX12_block_352 (by decide) rfl rfl ?_
              refine M.iload dX12_block_354 rfl ?_
              refine M.istore (L' := [some (.ref m), some (.int (nI a)), some (.int ((rds (gD shaK) (schG (fun t => wd (F 73) (a + 4 * t)) (F 72) 64) t (t8 H)).1)), some (.int ((rds (gD shaK) (schG (fun t => wd (F 73) (a + 4 * t)) (F 72) 64) t (t8 H)).2.1)), some (.int ((rds (gD shaK) (schG (fun t => wd (F 73) (a + 4 * t)) (F 72) 64) t (t8 H)).2.2.1)), some (.int ((rds (gD shaK) (schG (fun t => wd (F 73) (a + 4 * t)) (F 72) 64) t (t8 H)).2.2.2.1)), some (.int ((rds (gD shaK) (schG (fun t => wd (F 73) (a + 4 * t)) (F 72) 64) t (t8 H)).2.2.2.2.1)), some (.int ((rds (gD shaK) (schG (fun t => wd (F 73) (a + 4 * t)) (F 72) 64) t (t8 H)).2.2.2.2.2.1)), some (.int ((rds (gD shaK) (schG (fun t => wd (F 73) (a + 4 * t)) (F 72) 64) t (t8 H)).2.2.2.2.2.1)), some (.int ((rds (gD shaK) (schG (fun t => wd (F 73) (a + 4 * t)) (F 72) 64) t (t8 H)).2.2.2.2.2.2.1)), some (.int (nI t)), some (.int (one8 (gD shaK t) ((schG (fun t => wd (F 73) (a + 4 * t)) (F 72) 64) t) (rds (gD shaK) (schG (fun t => wd (F 73) (a + 4 * t)) (F 72) 64) t (t8 H)))), some (.int (two8 (rds (gD shaK) (schG (fun t => wd (F 73) (a + 4 * t)) (F 72) 64) t (t8 H))))]) dX12_block_356 (by decide) rfl rfl ?_
              refine M.iload dX12_block_358 rfl ?_
              refine M.istore (L' := [some (.ref m), some (.int (nI a)), some (.int ((rds (gD shaK) (schG (fun t => wd (F 73) (a + 4 * t)) (F 72) 64) t (t8 H)).1)), some (.int ((rds (gD shaK) (schG (fun t => wd (F 73) (a + 4 * t)) (F 72) 64) t (t8 H)).2.1)), some (.int ((rds (gD shaK) (schG (fun t => wd (F 73) (a + 4 * t)) (F 72) 64) t (t8 H)).2.2.1)), some (.int ((rds (gD shaK) (schG (fun t => wd (F 73) (a + 4 * t)) (F 72) 64) t (t8 H)).2.2.2.1)), some (.int ((rds (gD shaK) (schG (fun t => wd (F 73) (a + 4 * t)) (F 72) 64) t (t8 H)).2.2.2.2.1)), some (.int ((rds (gD shaK) (schG (fun t => wd (F 73) (a + 4 * t)) (F 72) 64) t (t8 H)).2.2.2.2.1)), some (.int ((rds (gD shaK) (schG (fun t => wd (F 73) (a + 4 * t)) (F 72) 64) t (t8 H)).2.2.2.2.2.1)), some (.int ((rds (gD shaK) (schG (fun t => wd (F 73) (a + 4 * t)) (F 72) 64) t (t8 H)).2.2.2.2.2.2.1)), some (.int (nI t)), some (.int (one8 (gD shaK t) ((schG (fun t => wd (F 73) (a + 4 * t)) (F 72) 64) t) (rds (gD shaK) (schG (fun t => wd (F 73) (a + 4 * t)) (F 72) 64) t (t8 H)))), some (.int (two8 (rds (gD shaK) (schG (fun t => wd (F 73) (a + 4 * t)) (F 72) 64) t (t8 H))))]) dX12_block_360 (by decide) rfl rfl ?_
              refine M.iload dX12_block_362 rfl ?_
              refine M.iload dX12_block_364 rfl ?_
              refine M.iadd dX12_block_366 ?_
              refine M.istore (L' := [some (.ref m), some (.int (nI a)), some (.int ((rds (gD shaK) (schG (fun t => wd (F 73) (a + 4 * t)) (F 72) 64) t (t8 H)).1)), some (.int ((rds (gD shaK) (schG (fun t => wd (F 73) (a + 4 * t)) (F 72) 64) t (t8 H)).2.1)), some (.int ((rds (gD shaK) (schG (fun t => wd (F 73) (a + 4 * t)) (F 72) 64) t (t8 H)).2.2.1)), some (.int ((rds (gD shaK) (schG (fun t => wd (F 73) (a + 4 * t)) (F 72) 64) t (t8 H)).2.2.2.1)), some (.int (((rds (gD shaK) (schG (fun t => wd (F 73) (a + 4 * t)) (F 72) 64) t (t8 H)).2.2.2.1) + (one8 (gD shaK t) ((schG (fun t => wd (F 73) (a + 4 * t)) (F 72) 64) t) (rds (gD shaK) (schG (fun t => wd (F 73) (a + 4 * t)) (F 72) 64) t (t8 H))))), some (.int ((rds (gD shaK) (schG (fun t => wd (F 73) (a + 4 * t)) (F 72) 64) t (t8 H)).2.2.2.2.1)), some (.int ((rds (gD shaK) (schG (fun t => wd (F 73) (a + 4 * t)) (F 72) 64) t (t8 H)).2.2.2.2.2.1)), some (.int ((rds (gD shaK) (schG (fun t => wd (F 73) (a + 4 * t)) (F 72) 64) t (t8 H)).2.2.2.2.2.2.1)), some (.int (nI t)), some (.int (one8 (gD shaK t) ((schG (fun t => wd (F 73) (a + 4 * t)) (F 72) 64) t) (rds (gD shaK) (schG (fun t => wd (F 73) (a + 4 * t)) (F 72) 64) t (t8 H)))), some (.int (two8 (rds (gD shaK) (schG (fun t => wd (F 73) (a + 4 * t)) (F 72) 64) t (t8 H))))]) dX12_block_367 (by decide) rfl rfl ?_
              refine M.iload dX12_block_369 rfl ?_
              refine M.istore (L' := [some (.ref m), some (.int (nI a)), some (.int ((rds (gD shaK) (schG (fun t => wd (F 73) (a + 4 * t)) (F 72) 64) t (t8 H)).1)), some (.int ((rds (gD shaK) (schG (fun t => wd (F 73) (a + 4 * t)) (F 72) 64) t (t8 H)).2.1)), some (.int ((rds (gD shaK) (schG (fun t => wd (F 73) (a + 4 * t)) (F 72) 64) t (t8 H)).2.2.1)), some (.int ((rds (gD shaK) (schG (fun t => wd (F 73) (a + 4 * t)) (F 72) 64) t (t8 H)).2.2.1)), some (.int (((rds (gD shaK) (schG (fun t => wd (F 73) (a + 4 * t)) (F 72) 64) t (t8 H)).2.2.2.1) + (one8 (gD shaK t) ((schG (fun t => wd (F 73) (a + 4 * t)) (F 72) 64) t) (rds (gD shaK) (schG (fun t => wd (F 73) (a + 4 * t)) (F 72) 64) t (t8 H))))), some (.int ((rds (gD shaK) (schG (fun t => wd (F 73) (a + 4 * t)) (F 72) 64) t (t8 H)).2.2.2.2.1)), some (.int ((rds (gD shaK) (schG (fun t => wd (F 73) (a + 4 * t)) (F 72) 64) t (t8 H)).2.2.2.2.2.1)), some (.int ((rds (gD shaK) (schG (fun t => wd (F 73) (a + 4 * t)) (F 72) 64) t (t8 H)).2.2.2.2.2.2.1)), some (.int (nI t)), some (.int (one8 (gD shaK t) ((schG (fun t => wd (F 73) (a + 4 * t)) (F 72) 64) t) (rds (gD shaK) (schG (fun t => wd (F 73) (a + 4 * t)) (F 72) 64) t (t8 H)))), some (.int (two8 (rds (gD shaK) (schG (fun t => wd (F 73) (a + 4 * t)) (F 72) 64) t (t8 H))))]) dX12_block_371 (by decide) rfl rfl ?_
              refine M.iload_n dX12_block_373 rfl ?_
              refine M.istore (L' := [some (.ref m), some (.int (nI a)), some (.int ((rds (gD shaK) (schG (fun t => wd (F 73) (a + 4 * t)) (F 72) 64) t (t8 H)).1)), some (.int ((rds (gD shaK) (schG (fun t => wd (F 73) (a + 4 * t)) (F 72) 64) t (t8 H)).2.1)), some (.int ((rds (gD shaK) (schG (fun t => wd (F 73) (a + 4 * t)) (F 72) 64) t (t8 H)).2.1)), some (.int ((rds (gD shaK) (schG (fun t => wd (F 73) (a + 4 * t)) (F 72) 64) t (t8 H)).2.2.1)), some (.int (((rds (gD shaK) (schG (fun t => wd (F 73) (a + 4 * t)) (F 72) 64) t (t8 H)).2.2.2.1) + (one8 (gD shaK t) ((schG (fun t => wd (F 73) (a + 4 * t)) (F 72) 64) t) (rds (gD shaK) (schG (fun t => wd (F 73) (a + 4 * t)) (F 72) 64) t (t8 H))))), some (.int ((rds (gD shaK) (schG (fun t => wd (F 73) (a + 4 * t)) (F 72) 64) t (t8 H)).2.2.2.2.1)), some (.int ((rds (gD shaK) (schG (fun t => wd (F 73) (a + 4 * t)) (F 72) 64) t (t8 H)).2.2.2.2.2.1)), some (.int ((rds (gD shaK) (schG (fun t => wd (F 73) (a + 4 * t)) (F 72) 64) t (t8 H)).2.2.2.2.2.2.1)), some (.int (nI t)), some (.int (one8 (gD shaK t) ((schG (fun t => wd (F 73) (a + 4 * t)) (F 72) 64) t) (rds (gD shaK) (schG (fun t => wd (F 73) (a + 4 * t)) (F 72) 64) t (t8 H)))), some (.int (two8 (rds (gD shaK) (schG (fun t => wd (F 73) (a + 4 * t)) (F 72) 64) t (t8 H))))]) dX12_block_374 (by decide) rfl rfl ?_
              refine M.iload_n dX12_block_376 rfl ?_
              refine M.istore_n (L' := [some (.ref m), some (.int (nI a)), some (.int ((rds (gD shaK) (schG (fun t => wd (F 73) (a + 4 * t)) (F 72) 64) t (t8 H)).1)), some (.int ((rds (gD shaK) (schG (fun t => wd (F 73) (a + 4 * t)) (F 72) 64) t (t8 H)).1)), some (.int ((rds (gD shaK) (schG (fun t => wd (F 73) (a + 4 * t)) (F 72) 64) t (t8 H)).2.1)), some (.int ((rds (gD shaK) (schG (fun t => wd (F 73) (a + 4 * t)) (F 72) 64) t (t8 H)).2.2.1)), some (.int (((rds (gD shaK) (schG (fun t => wd (F 73) (a + 4 * t)) (F 72) 64) t (t8 H)).2.2.2.1) + (one8 (gD shaK t) ((schG (fun t => wd (F 73) (a + 4 * t)) (F 72) 64) t) (rds (gD shaK) (schG (fun t => wd (F 73) (a + 4 * t)) (F 72) 64) t (t8 H))))), some (.int ((rds (gD shaK) (schG (fun t => wd (F 73) (a + 4 * t)) (F 72) 64) t (t8 H)).2.2.2.2.1)), some (.int ((rds (gD shaK) (schG (fun t => wd (F 73) (a + 4 * t)) (F 72) 64) t (t8 H)).2.2.2.2.2.1)), some (.int ((rds (gD shaK) (schG (fun t => wd (F 73) (a + 4 * t)) (F 72) 64) t (t8 H)).2.2.2.2.2.2.1)), some (.int (nI t)), some (.int (one8 (gD shaK t) ((schG (fun t => wd (F 73) (a + 4 * t)) (F 72) 64) t) (rds (gD shaK) (schG (fun t => wd (F 73) (a + 4 * t)) (F 72) 64) t (t8 H)))), some (.int (two8 (rds (gD shaK) (schG (fun t => wd (F 73) (a + 4 * t)) (F 72) 64) t (t8 H))))]) dX12_block_377 (by decide) rfl rfl ?_
              refine M.iload dX12_block_378 rfl ?_
              refine M.iload dX12_block_380 rfl ?_
              refine M.iadd dX12_block_382 ?_
              refine M.istore_n (L' := [some (.ref m), some (.int (nI a)), some (.int ((one8 (gD shaK t) ((schG (fun t => wd (F 73) (a + 4 * t)) (F 72) 64) t) (rds (gD shaK) (schG (fun t => wd (F 73) (a + 4 * t)) (F 72) 64) t (t8 H))) + (two8 (rds (gD shaK) (schG (fun t => wd (F 73) (a + 4 * t)) (F 72) 64) t (t8 H))))), some (.int ((rds (gD shaK) (schG (fun t => wd (F 73) (a + 4 * t)) (F 72) 64) t (t8 H)).1)), some (.int ((rds (gD shaK) (schG (fun t => wd (F 73) (a + 4 * t)) (F 72) 64) t (t8 H)).2.1)), some (.int ((rds (gD shaK) (schG (fun t => wd (F 73) (a + 4 * t)) (F 72) 64) t (t8 H)).2.2.1)), some (.int (((rds (gD shaK) (schG (fun t => wd (F 73) (a + 4 * t)) (F 72) 64) t (t8 H)).2.2.2.1) + (one8 (gD shaK t) ((schG (fun t => wd (F 73) (a + 4 * t)) (F 72) 64) t) (rds (gD shaK) (schG (fun t => wd (F 73) (a + 4 * t)) (F 72) 64) t (t8 H))))), some (.int ((rds (gD shaK) (schG (fun t => wd (F 73) (a + 4 * t)) (F 72) 64) t (t8 H)).2.2.2.2.1)), some (.int ((rds (gD shaK) (schG (fun t => wd (F 73) (a + 4 * t)) (F 72) 64) t (t8 H)).2.2.2.2.2.1)), some (.int ((rds (gD shaK) (schG (fun t => wd (F 73) (a + 4 * t)) (F 72) 64) t (t8 H)).2.2.2.2.2.2.1)), some (.int (nI t)), some (.int (one8 (gD shaK t) ((schG (fun t => wd (F 73) (a + 4 * t)) (F 72) 64) t) (rds (gD shaK) (schG (fun t => wd (F 73) (a + 4 * t)) (F 72) 64) t (t8 H)))), some (.int (two8 (rds (gD shaK) (schG (fun t => wd (F 73) (a + 4 * t)) (F 72) 64) t (t8 H))))]) dX12_block_383 (by decide) rfl rfl ?_
              refine M.iinc (v := nI (t + 1)) (L' := [some (.ref m), some (.int (nI a)), some (.int ((one8 (gD shaK t) ((schG (fun t => wd (F 73) (a + 4 * t)) (F 72) 64) t) (rds (gD shaK) (schG (fun t => wd (F 73) (a + 4 * t)) (F 72) 64) t (t8 H))) + (two8 (rds (gD shaK) (schG (fun t => wd (F 73) (a + 4 * t)) (F 72) 64) t (t8 H))))), some (.int ((rds (gD shaK) (schG (fun t => wd (F 73) (a + 4 * t)) (F 72) 64) t (t8 H)).1)), some (.int ((rds (gD shaK) (schG (fun t => wd (F 73) (a + 4 * t)) (F 72) 64) t (t8 H)).2.1)), some (.int ((rds (gD shaK) (schG (fun t => wd (F 73) (a + 4 * t)) (F 72) 64) t (t8 H)).2.2.1)), some (.int (((rds (gD shaK) (schG (fun t => wd (F 73) (a + 4 * t)) (F 72) 64) t (t8 H)).2.2.2.1) + (one8 (gD shaK t) ((schG (fun t => wd (F 73) (a + 4 * t)) (F 72) 64) t) (rds (gD shaK) (schG (fun t => wd (F 73) (a + 4 * t)) (F 72) 64) t (t8 H))))), some (.int ((rds (gD shaK) (schG (fun t => wd (F 73) (a + 4 * t)) (F 72) 64) t (t8 H)).2.2.2.2.1)), some (.int ((rds (gD shaK) (schG (fun t => wd (F 73) (a + 4 * t)) (F 72) 64) t (t8 H)).2.2.2.2.2.1)), some (.int ((rds (gD shaK) (schG (fun t => wd (F 73) (a + 4 * t)) (F 72) 64) t (t8 H)).2.2.2.2.2.2.1)), some (.int (nI (t + 1))), some (.int (one8 (gD shaK t) ((schG (fun t => wd (F 73) (a + 4 * t)) (F 72) 64) t) (rds (gD shaK) (schG (fun t => wd (F 73) (a + 4 * t)) (F 72) 64) t (t8 H)))), some (.int (two8 (rds (gD shaK) (schG (fun t => wd (F 73) (a + 4 * t)) (F 72) 64) t (t8 H))))]) dX12_block_384 rfl (nI_1 t) (by decide) rfl rfl ?_
              refine M.goto (tgt := 251) dX12_block_387 (by decide) ?_
              refine M.drop (i := 11) (L' := [some (.ref m), some (.int (nI a)), some (.int ((one8 (gD shaK t) ((schG (fun t => wd (F 73) (a + 4 * t)) (F 72) 64) t) (rds (gD shaK) (schG (fun t => wd (F 73) (a + 4 * t)) (F 72) 64) t (t8 H))) + (two8 (rds (gD shaK) (schG (fun t => wd (F 73) (a + 4 * t)) (F 72) 64) t (t8 H))))), some (.int ((rds (gD shaK) (schG (fun t => wd (F 73) (a + 4 * t)) (F 72) 64) t (t8 H)).1)), some (.int ((rds (gD shaK) (schG (fun t => wd (F 73) (a + 4 * t)) (F 72) 64) t (t8 H)).2.1)), some (.int ((rds (gD shaK) (schG (fun t => wd (F 73) (a + 4 * t)) (F 72) 64) t (t8 H)).2.2.1)), some (.int (((rds (gD shaK) (schG (fun t => wd (F 73) (a + 4 * t)) (F 72) 64) t (t8 H)).2.2.2.1) + (one8 (gD shaK t) ((schG (fun t => wd (F 73) (a + 4 * t)) (F 72) 64) t) (rds (gD shaK) (schG (fun t => wd (F 73) (a + 4 * t)) (F 72) 64) t (t8 H))))), some (.int ((rds (gD shaK) (schG (fun t => wd (F 73) (a + 4 * t)) (F 72) 64) t (t8 H)).2.2.2.2.1)), some (.int ((rds (gD shaK) (schG (fun t => wd (F 73) (a + 4 * t)) (F 72) 64) t (t8 H)).2.2.2.2.2.1)), some (.int ((rds (gD shaK) (schG (fun t => wd (F 73) (a + 4 * t)) (F 72) 64) t (t8 H)).2.2.2.2.2.2.1)), some (.int (nI (t + 1))), none, some (.int (two8 (rds (gD shaK) (schG (fun t => wd (F 73) (a + 4 * t)) (F 72) 64) t (t8 H))))]) rfl ?_
              refine M.drop (i := 12) (L' := [some (.ref m), some (.int (nI a)), some (.int ((one8 (gD shaK t) ((schG (fun t => wd (F 73) (a + 4 * t)) (F 72) 64) t) (rds (gD shaK) (schG (fun t => wd (F 73) (a + 4 * t)) (F 72) 64) t (t8 H))) + (two8 (rds (gD shaK) (schG (fun t => wd (F 73) (a + 4 * t)) (F 72) 64) t (t8 H))))), some (.int ((rds (gD shaK) (schG (fun t => wd (F 73) (a + 4 * t)) (F 72) 64) t (t8 H)).1)), some (.int ((rds (gD shaK) (schG (fun t => wd (F 73) (a + 4 * t)) (F 72) 64) t (t8 H)).2.1)), some (.int ((rds (gD shaK) (schG (fun t => wd (F 73) (a + 4 * t)) (F 72) 64) t (t8 H)).2.2.1)), some (.int (((rds (gD shaK) (schG (fun t => wd (F 73) (a + 4 * t)) (F 72) 64) t (t8 H)).2.2.2.1) + (one8 (gD shaK t) ((schG (fun t => wd (F 73) (a + 4 * t)) (F 72) 64) t) (rds (gD shaK) (schG (fun t => wd (F 73) (a + 4 * t)) (F 72) 64) t (t8 H))))), some (.int ((rds (gD shaK) (schG (fun t => wd (F 73) (a + 4 * t)) (F 72) 64) t (t8 H)).2.2.2.2.1)), some (.int ((rds (gD shaK) (schG (fun t => wd (F 73) (a + 4 * t)) (F 72) 64) t (t8 H)).2.2.2.2.2.1)), some (.int ((rds (gD shaK) (schG (fun t => wd (F 73) (a + 4 * t)) (F 72) 64) t (t8 H)).2.2.2.2.2.2.1)), some (.int (nI (t + 1))), none, none]) rfl ?_
              exact ih_251 (t + 1) (by omega) (by omega)
        exact cut_251 65 0 (by omega) (by omega)
      · skip
        have lt_k : k < 64 := nI_ltn (n := 64) c_5 (by omega) (by omega)
        refine M.iload_n dX12_block_8 rfl ?_
        refine M.bipush (v := 16) dX12_block_9 (by decide) ?_
        refine M.icmp_ge (tgt := 93) dX12_block_11 (by decide) (fun c_11 => ?_) (fun c_11 => ?_)
        · skip
          have ge16 : ¬ k < 16 := by have := (nI_leI (a := 16) (by omega) (by omega)).mp c_11; omega
          refine M.aload_nR dX12_block_93 rfl ?_
          refine M.getr dX12_block_94 fl_X12_179 rfl rfl ?_
          refine M.iload_n dX12_block_97 rfl ?_
          refine M.bipush (v := 15) dX12_block_98 (by decide) ?_
          refine M.isub dX12_block_100 ?_
          rw [show (nI k) - 15 = nI (k - 15) from pk_sub (b := 15) (by omega)]
          refine M.iald (k9 := 72) (j := k - 15) (g := (schG (fun t => wd (F 73) (a + 4 * t)) (F 72) k)) dX12_block_101 rfl rfl rfl rfl (show k - 15 < 64 by omega) ?_
          refine M.istore_n (L' := [some (.ref m), some (.int (nI a)), some (.int (nI k)), some (.int ((schG (fun t => wd (F 73) (a + 4 * t)) (F 72) k) (k - 15))), none, none, none, none, none, none, none, none, none]) dX12_block_102 (by decide) rfl rfl ?_
          refine M.aload_nR dX12_block_103 rfl ?_
          refine M.getr dX12_block_104 fl_X12_179 rfl rfl ?_
          refine M.iload_n dX12_block_107 rfl ?_
          refine M.iconst (v := 2) dX12_block_108 (by decide) ?_
          refine M.isub dX12_block_109 ?_
          rw [show (nI k) - 2 = nI (k - 2) from pk_sub (b := 2) (by omega)]
          refine M.iald (k9 := 72) (j := k - 2) (g := (schG (fun t => wd (F 73) (a + 4 * t)) (F 72) k)) dX12_block_110 rfl rfl rfl rfl (show k - 2 < 64 by omega) ?_
          refine M.istore (L' := [some (.ref m), some (.int (nI a)), some (.int (nI k)), some (.int ((schG (fun t => wd (F 73) (a + 4 * t)) (F 72) k) (k - 15))), some (.int ((schG (fun t => wd (F 73) (a + 4 * t)) (F 72) k) (k - 2))), none, none, none, none, none, none, none, none]) dX12_block_111 (by decide) rfl rfl ?_
          refine M.aload_nR dX12_block_113 rfl ?_
          refine M.getr dX12_block_114 fl_X12_179 rfl rfl ?_
          refine M.iload_n dX12_block_117 rfl ?_
          refine M.aload_nR dX12_block_118 rfl ?_
          refine M.getr dX12_block_119 fl_X12_179 rfl rfl ?_
          refine M.iload_n dX12_block_122 rfl ?_
          refine M.bipush (v := 16) dX12_block_123 (by decide) ?_
          refine M.isub dX12_block_125 ?_
          rw [show (nI k) - 16 = nI (k - 16) from pk_sub (b := 16) (by omega)]
          refine M.iald (k9 := 72) (j := k - 16) (g := (schG (fun t => wd (F 73) (a + 4 * t)) (F 72) k)) dX12_block_126 rfl rfl rfl rfl (show k - 16 < 64 by omega) ?_
          refine M.aload_nR dX12_block_127 rfl ?_
          refine M.getr dX12_block_128 fl_X12_179 rfl rfl ?_
          refine M.iload_n dX12_block_131 rfl ?_
          refine M.bipush (v := 7) dX12_block_132 (by decide) ?_
          refine M.isub dX12_block_134 ?_
          rw [show (nI k) - 7 = nI (k - 7) from pk_sub (b := 7) (by omega)]
          refine M.iald (k9 := 72) (j := k - 7) (g := (schG (fun t => wd (F 73) (a + 4 * t)) (F 72) k)) dX12_block_135 rfl rfl rfl rfl (show k - 7 < 64 by omega) ?_
          refine M.iadd dX12_block_136 ?_
          refine M.iload_n dX12_block_137 rfl ?_
          refine M.bipush (v := 7) dX12_block_138 (by decide) ?_
          refine M.callJ (v := .int (rotr ((schG (fun t => wd (F 73) (a + 4 * t)) (F 72) k) (k - 15)) 7)) [.int ((schG (fun t => wd (F 73) (a + 4 * t)) (F 72) k) (k - 15)), .int 7] dX12_block_140 mdX12_rolled ssX12_rolled lk_X12_488 rfl rfl rfl rfl (fun σ9 => m_rolled ((schG (fun t => wd (F 73) (a + 4 * t)) (F 72) k) (k - 15)) 7) ?_
          refine M.iload_n dX12_block_143 rfl ?_
          refine M.bipush (v := 18) dX12_block_144 (by decide) ?_
          refine M.callJ (v := .int (rotr ((schG (fun t => wd (F 73) (a + 4 * t)) (F 72) k) (k - 15)) 18)) [.int ((schG (fun t => wd (F 73) (a + 4 * t)) (F 72) k) (k - 15)), .int 18] dX12_block_146 mdX12_rolled ssX12_rolled lk_X12_488 rfl rfl rfl rfl (fun σ9 => m_rolled ((schG (fun t => wd (F 73) (a + 4 * t)) (F 72) k) (k - 15)) 18) ?_
          refine M.ixor dX12_block_149 ?_
          refine M.iload_n dX12_block_150 rfl ?_
          refine M.iconst (v := 3) dX12_block_151 (by decide) ?_
          refine M.iushr dX12_block_152 rfl ?_
          rw [show (((schG (fun t => wd (F 73) (a + 4 * t)) (F 72) k) (k - 15) : Int32).toUInt32 >>> ((3 : Int32).toUInt32 &&& Int32.toUInt32 31)).toInt32 = ush ((schG (fun t => wd (F 73) (a + 4 * t)) (F 72) k) (k - 15)) 3 from rfl]
          refine M.ixor dX12_block_153 ?_
          rw [show ((rotr ((schG (fun t => wd (F 73) (a + 4 * t)) (F 72) k) (k - 15)) 7) ^^^ (rotr ((schG (fun t => wd (F 73) (a + 4 * t)) (F 72) k) (k - 15)) 18)) ^^^ (ush ((schG (fun t => wd (F 73) (a + 4 * t)) (F 72) k) (k - 15)) 3) = sA ((schG (fun t => wd (F 73) (a + 4 * t)) (F 72) k) (k - 15)) from rfl]
          refine M.iadd dX12_block_154 ?_
          refine M.iload dX12_block_155 rfl ?_
          refine M.bipush (v := 17) dX12_block_157 (by decide) ?_
          refine M.callJ (v := .int (rotr ((schG (fun t => wd (F 73) (a + 4 * t)) (F 72) k) (k - 2)) 17)) [.int ((schG (fun t => wd (F 73) (a + 4 * t)) (F 72) k) (k - 2)), .int 17] dX12_block_159 mdX12_rolled ssX12_rolled lk_X12_488 rfl rfl rfl rfl (fun σ9 => m_rolled ((schG (fun t => wd (F 73) (a + 4 * t)) (F 72) k) (k - 2)) 17) ?_
          refine M.iload dX12_block_162 rfl ?_
          refine M.bipush (v := 19) dX12_block_164 (by decide) ?_
          refine M.callJ (v := .int (rotr ((schG (fun t => wd (F 73) (a + 4 * t)) (F 72) k) (k - 2)) 19)) [.int ((schG (fun t => wd (F 73) (a + 4 * t)) (F 72) k) (k - 2)), .int 19] dX12_block_166 mdX12_rolled ssX12_rolled lk_X12_488 rfl rfl rfl rfl (fun σ9 => m_rolled ((schG (fun t => wd (F 73) (a + 4 * t)) (F 72) k) (k - 2)) 19) ?_
          refine M.ixor dX12_block_169 ?_
          refine M.iload dX12_block_170 rfl ?_
          refine M.bipush (v := 10) dX12_block_172 (by decide) ?_
          refine M.iushr dX12_block_174 rfl ?_
          rw [show (((schG (fun t => wd (F 73) (a + 4 * t)) (F 72) k) (k - 2) : Int32).toUInt32 >>> ((10 : Int32).toUInt32 &&& Int32.toUInt32 31)).toInt32 = ush ((schG (fun t => wd (F 73) (a + 4 * t)) (F 72) k) (k - 2)) 10 from rfl]
          refine M.ixor dX12_block_175 ?_
          rw [show ((rotr ((schG (fun t => wd (F 73) (a + 4 * t)) (F 72) k) (k - 2)) 17) ^^^ (rotr ((schG (fun t => wd (F 73) (a + 4 * t)) (F 72) k) (k - 2)) 19)) ^^^ (ush ((schG (fun t => wd (F 73) (a + 4 * t)) (F 72) k) (k - 2)) 10) = sB ((schG (fun t => wd (F 73) (a + 4 * t)) (F 72) k) (k - 2)) from rfl]
          refine M.iadd dX12_block_176 ?_
          refine M.iast (k9 := 72) (j := k) dX12_block_177 rfl rfl rfl (show k < 64 by omega) ?_
          rw [updF_set, show _ = (schG (fun t => wd (F 73) (a + 4 * t)) (F 72) (k + 1)) from schG_hi (w := (fun t => wd (F 73) (a + 4 * t))) (b := F 72) ge16]
          refine M.iinc (v := nI (k + 1)) (L' := [some (.ref m), some (.int (nI a)), some (.int (nI (k + 1))), some (.int ((schG (fun t => wd (F 73) (a + 4 * t)) (F 72) k) (k - 15))), some (.int ((schG (fun t => wd (F 73) (a + 4 * t)) (F 72) k) (k - 2))), none, none, none, none, none, none, none, none]) dX12_block_178 rfl (nI_1 k) (by decide) rfl rfl ?_
          refine M.goto (tgt := 2) dX12_block_181 (by decide) ?_
          refine M.drop (i := 3) (L' := [some (.ref m), some (.int (nI a)), some (.int (nI (k + 1))), none, some (.int ((schG (fun t => wd (F 73) (a + 4 * t)) (F 72) k) (k - 2))), none, none, none, none, none, none, none, none]) rfl ?_
          refine M.drop (i := 4) (L' := [some (.ref m), some (.int (nI a)), some (.int (nI (k + 1))), none, none, none, none, none, none, none, none, none, none]) rfl ?_
          exact ih_2 (k + 1) (by omega) (by omega)
        · skip
          have lt16 : k < 16 := nI_ltn (n := 16) c_11 (by omega) (by omega)
          refine M.aload_nR dX12_block_14 rfl ?_
          refine M.getr dX12_block_15 fl_X12_179 rfl rfl ?_
          refine M.iload_n dX12_block_18 rfl ?_
          refine M.aload_nR dX12_block_19 rfl ?_
          refine M.getr dX12_block_20 fl_X12_182 rfl rfl ?_
          refine M.iload_n dX12_block_23 rfl ?_
          refine M.iconst (v := 4) dX12_block_24 (by decide) ?_
          refine M.iload_n dX12_block_25 rfl ?_
          refine M.imul dX12_block_26 ?_
          rw [show 4 * (nI k) = nI (4 * k) from nI_mulc 4 k]
          refine M.iadd dX12_block_27 ?_
          rw [show (nI a) + (nI (4 * k)) = nI (a + 4 * k) from nI_add a (4 * k)]
          refine M.bald (k9 := 73) (j := a + 4 * k) (g := F 73) dX12_block_28 rfl rfl rfl rfl (show a + 4 * k < 192 by omega) ?_
          refine M.bipush (v := 24) dX12_block_29 (by decide) ?_
          refine M.ishl dX12_block_31 ?_
          refine M.aload_nR dX12_block_32 rfl ?_
          refine M.getr dX12_block_33 fl_X12_182 rfl rfl ?_
          refine M.iload_n dX12_block_36 rfl ?_
          refine M.iconst (v := 4) dX12_block_37 (by decide) ?_
          refine M.iload_n dX12_block_38 rfl ?_
          refine M.imul dX12_block_39 ?_
          rw [show 4 * (nI k) = nI (4 * k) from nI_mulc 4 k]
          refine M.iadd dX12_block_40 ?_
          rw [show (nI a) + (nI (4 * k)) = nI (a + 4 * k) from nI_add a (4 * k)]
          refine M.iconst (v := 1) dX12_block_41 (by decide) ?_
          refine M.iadd dX12_block_42 ?_
          rw [show (nI (a + 4 * k)) + 1 = nI (a + 4 * k + 1) from nI_add (a + 4 * k) 1]
          refine M.bald (k9 := 73) (j := a + 4 * k + 1) (g := F 73) dX12_block_43 rfl rfl rfl rfl (show a + 4 * k + 1 < 192 by omega) ?_
          refine M.sipush (v := 255) dX12_block_44 (by decide) ?_
          refine M.iand dX12_block_47 ?_
          refine M.bipush (v := 16) dX12_block_48 (by decide) ?_
          refine M.ishl dX12_block_50 ?_
          refine M.ior dX12_block_51 ?_
          refine M.aload_nR dX12_block_52 rfl ?_
          refine M.getr dX12_block_53 fl_X12_182 rfl rfl ?_
          refine M.iload_n dX12_block_56 rfl ?_
          refine M.iconst (v := 4) dX12_block_57 (by decide) ?_
          refine M.iload_n dX12_block_58 rfl ?_
          refine M.imul dX12_block_59 ?_
          rw [show 4 * (nI k) = nI (4 * k) from nI_mulc 4 k]
          refine M.iadd dX12_block_60 ?_
          rw [show (nI a) + (nI (4 * k)) = nI (a + 4 * k) from nI_add a (4 * k)]
          refine M.iconst (v := 2) dX12_block_61 (by decide) ?_
          refine M.iadd dX12_block_62 ?_
          rw [show (nI (a + 4 * k)) + 2 = nI (a + 4 * k + 2) from nI_add (a + 4 * k) 2]
          refine M.bald (k9 := 73) (j := a + 4 * k + 2) (g := F 73) dX12_block_63 rfl rfl rfl rfl (show a + 4 * k + 2 < 192 by omega) ?_
          refine M.sipush (v := 255) dX12_block_64 (by decide) ?_
          refine M.iand dX12_block_67 ?_
          refine M.bipush (v := 8) dX12_block_68 (by decide) ?_
          refine M.ishl dX12_block_70 ?_
          refine M.ior dX12_block_71 ?_
          refine M.aload_nR dX12_block_72 rfl ?_
          refine M.getr dX12_block_73 fl_X12_182 rfl rfl ?_
          refine M.iload_n dX12_block_76 rfl ?_
          refine M.iconst (v := 4) dX12_block_77 (by decide) ?_
          refine M.iload_n dX12_block_78 rfl ?_
          refine M.imul dX12_block_79 ?_
          rw [show 4 * (nI k) = nI (4 * k) from nI_mulc 4 k]
          refine M.iadd dX12_block_80 ?_
          rw [show (nI a) + (nI (4 * k)) = nI (a + 4 * k) from nI_add a (4 * k)]
          refine M.iconst (v := 3) dX12_block_81 (by decide) ?_
          refine M.iadd dX12_block_82 ?_
          rw [show (nI (a + 4 * k)) + 3 = nI (a + 4 * k + 3) from nI_add (a + 4 * k) 3]
          refine M.bald (k9 := 73) (j := a + 4 * k + 3) (g := F 73) dX12_block_83 rfl rfl rfl rfl (show a + 4 * k + 3 < 192 by omega) ?_
          refine M.sipush (v := 255) dX12_block_84 (by decide) ?_
          refine M.iand dX12_block_87 ?_
          refine M.ior dX12_block_88 ?_
          rw [show (((((F 73) (a + 4 * k)) <<< ((24 : Int32) &&& 31)) ||| ((((F 73) (a + 4 * k + 1)) &&& 255) <<< ((16 : Int32) &&& 31))) ||| ((((F 73) (a + 4 * k + 2)) &&& 255) <<< ((8 : Int32) &&& 31))) ||| (((F 73) (a + 4 * k + 3)) &&& 255) = wd (F 73) (a + 4 * k) from rfl]
          refine M.iast (k9 := 72) (j := k) dX12_block_89 rfl rfl rfl (show k < 64 by omega) ?_
          rw [updF_set, show _ = (schG (fun t => wd (F 73) (a + 4 * t)) (F 72) (k + 1)) from schG_lo (w := (fun t => wd (F 73) (a + 4 * t))) (b := F 72) lt16]
          refine M.goto (tgt := 178) dX12_block_90 (by decide) ?_
          refine M.iinc (v := nI (k + 1)) (L' := [some (.ref m), some (.int (nI a)), some (.int (nI (k + 1))), none, none, none, none, none, none, none, none, none, none]) dX12_block_178 rfl (nI_1 k) (by decide) rfl rfl ?_
          refine M.goto (tgt := 2) dX12_block_181 (by decide) ?_
          exact ih_2 (k + 1) (by omega) (by omega)
  have t9 := cut_2 65 0 (by omega) (by omega)
  rw [show (schG (fun t => wd (F 73) (a + 4 * t)) (F 72) 0) = F 72 from rfl, setF_self] at t9
  exact t9

theorem blk_F (F : Nat → Nat → Int32) (g h g9 h8 : Nat → Int32) : setF (setF (setF (setF F 72 g) 74 h) 72 g9) 74 h8 = setF (setF F 72 g9) 74 h8 := by
  funext k
  by_cases h4 : k = 74
  · rw [h4, setF_s, setF_s]
  · by_cases h2 : k = 72
    · rw [h2]; rfl
    · rw [setF_n _ _ h4, setF_n _ _ h2, setF_n _ _ h4, setF_n _ _ h2, setF_n _ _ h4, setF_n _ _ h2]

theorem m_sha {Λ : kL} {m : Nat} {A : Nat → Nat} {I : Nat → Int32} {F : Nat → Nat → Int32} (hA : mInj A) (hSh : kSh Λ) {i : Nat} {v : List Int32} (hv0 : v.length ≤ 128) (hi : i + v.length ≤ 2000) (hv : tl (F 63) i v.length = v) (hvb : bts v) : mCt Λ mX12_sha m A [.ref m, .ref (A 63), .int (nI i), .int (nI v.length)] I F (fun r I' F' => ∃ a b c, r = none ∧ I' = I ∧ F' = setF (setF (setF (setF F 73 a) 72 b) 74 c) 71 (updl (F 71) 0 (dby (shaL v) 32))) := by
  refine mCt.of hA pn_X12 [some (.ref m), some (.ref (A 63)), some (.int (nI i)), some (.int (nI v.length)), none, none] rfl (Nat.le_of_ble_eq_true rfl) fun X => ?_
  have hsz : (szS v.length) = (v.length + 72) / 64 * 64 := rfl
  obtain ⟨ra, hr1, hr2⟩ := hSh.1
  refine M.iload_n dX12_sha_0 rfl ?_
  refine M.bipush (v := 9) dX12_sha_1 (by decide) ?_
  refine M.iadd dX12_sha_3 ?_
  rw [show (nI v.length) + 9 = nI (v.length + 9) from nI_add v.length 9]
  refine M.bipush (v := 63) dX12_sha_4 (by decide) ?_
  refine M.iadd dX12_sha_6 ?_
  rw [show (nI (v.length + 9)) + 63 = nI (v.length + 72) from nI_add (v.length + 9) 63]
  refine M.bipush (v := 64) dX12_sha_7 (by decide) ?_
  refine M.idiv dX12_sha_9 (by decide) ?_
  rw [show (nI (v.length + 72)) / 64 = nI ((v.length + 72) / 64) from pk_div (by omega) (by decide) (by decide)]
  refine M.bipush (v := 64) dX12_sha_10 (by decide) ?_
  refine M.imul dX12_sha_12 ?_
  rw [show (nI ((v.length + 72) / 64)) * 64 = nI (szS v.length) from pk_mul _ 64]
  refine M.istore (L' := [some (.ref m), some (.ref (A 63)), some (.int (nI i)), some (.int (nI v.length)), some (.int (nI (szS v.length))), none]) dX12_sha_13 (by decide) rfl rfl ?_
  refine M.iconst (v := 0) dX12_sha_15 (by decide) ?_
  refine M.istore (L' := [some (.ref m), some (.ref (A 63)), some (.int (nI i)), some (.int (nI v.length)), some (.int (nI (szS v.length))), some (.int 0)]) dX12_sha_16 (by decide) rfl rfl ?_
  have cut_18 : ∀ (k_18 : Nat) (k : Nat), (k ≤ (szS v.length)) → ((szS v.length) + 1 ≤ k + k_18) → M Λ X mX12_sha m A (fun r I' F' => ∃ a b c, r = none ∧ I' = I ∧ F' = setF (setF (setF (setF F 73 a) 72 b) 74 c) 71 (updl (F 71) 0 (dby (shaL v) 32))) I (setF F 73 (updl (F 73) 0 (pdL v k))) 18 [some (.ref m), some (.ref (A 63)), some (.int (nI i)), some (.int (nI v.length)), some (.int (nI (szS v.length))), some (.int (nI k))] [] := by
    intro k_18
    induction k_18 with
    | zero => intro k h1 h2; exact absurd h2 (by omega)
    | succ k_18 ih_18 =>
      intro k h1 h2
      refine M.iload dX12_sha_18 rfl ?_
      refine M.iload dX12_sha_20 rfl ?_
      refine M.icmp_ge (tgt := 65) dX12_sha_22 (by decide) (fun c_22 => ?_) (fun c_22 => ?_)
      · skip
        have e1 := nI_gen c_22 h1 (by omega); subst e1
        refine M.iconst (v := 0) dX12_sha_65 (by decide) ?_
        refine M.istore (L' := [some (.ref m), some (.ref (A 63)), some (.int (nI i)), some (.int (nI v.length)), some (.int (nI (szS v.length))), some (.int 0)]) dX12_sha_66 (by decide) rfl rfl ?_
        have cut_68 : ∀ (k_68 : Nat) (k : Nat), (k ≤ 4) → (5 ≤ k + k_68) → M Λ X mX12_sha m A (fun r I' F' => ∃ a b c, r = none ∧ I' = I ∧ F' = setF (setF (setF (setF F 73 a) 72 b) 74 c) 71 (updl (F 71) 0 (dby (shaL v) 32))) I (setF F 73 (pd2 v (updl (F 73) 0 (pdL v (szS v.length))) k)) 68 [some (.ref m), some (.ref (A 63)), some (.int (nI i)), some (.int (nI v.length)), some (.int (nI (szS v.length))), some (.int (nI k))] [] := by
          intro k_68
          induction k_68 with
          | zero => intro k h1 h2; exact absurd h2 (by omega)
          | succ k_68 ih_68 =>
            intro k h1 h2
            refine M.iload dX12_sha_68 rfl ?_
            refine M.iconst (v := 4) dX12_sha_70 (by decide) ?_
            refine M.icmp_ge (tgt := 103) dX12_sha_71 (by decide) (fun c_71 => ?_) (fun c_71 => ?_)
            · skip
              have e1 := nI_gen (n := 4) c_71 h1 (by omega); subst e1
              refine M.iconst (v := 0) dX12_sha_103 (by decide) ?_
              refine M.istore (L' := [some (.ref m), some (.ref (A 63)), some (.int (nI i)), some (.int (nI v.length)), some (.int (nI (szS v.length))), some (.int 0)]) dX12_sha_104 (by decide) rfl rfl ?_
              have cut_106 : ∀ (k_106 : Nat) (k : Nat), (k ≤ 8) → (9 ≤ k + k_106) → M Λ X mX12_sha m A (fun r I' F' => ∃ a b c, r = none ∧ I' = I ∧ F' = setF (setF (setF (setF F 73 a) 72 b) 74 c) 71 (updl (F 71) 0 (dby (shaL v) 32))) I (setF (setF F 73 (pd2 v (updl (F 73) 0 (pdL v (szS v.length))) 4)) 74 (updl (F 74) 0 (sha0.take k))) 106 [some (.ref m), some (.ref (A 63)), some (.int (nI i)), some (.int (nI v.length)), some (.int (nI (szS v.length))), some (.int (nI k))] [] := by
                intro k_106
                induction k_106 with
                | zero => intro k h1 h2; exact absurd h2 (by omega)
                | succ k_106 ih_106 =>
                  intro k h1 h2
                  refine M.iload dX12_sha_106 rfl ?_
                  refine M.bipush (v := 8) dX12_sha_108 (by decide) ?_
                  refine M.icmp_ge (tgt := 132) dX12_sha_110 (by decide) (fun c_110 => ?_) (fun c_110 => ?_)
                  · skip
                    have e1 := nI_gen (n := 8) c_110 h1 (by omega); subst e1
                    rw [show sha0.take 8 = sha0 from rfl]
                    refine M.iconst (v := 0) dX12_sha_132 (by decide) ?_
                    refine M.istore (L' := [some (.ref m), some (.ref (A 63)), some (.int (nI i)), some (.int (nI v.length)), some (.int (nI (szS v.length))), some (.int 0)]) dX12_sha_133 (by decide) rfl rfl ?_
                    have cut_135 : ∀ (k_135 : Nat) (j : Nat) (g : Nat → Int32) (h : Nat → Int32), (j ≤ (szS v.length) / 64) → ((szS v.length) / 64 + 1 ≤ j + k_135) → (tl h 0 8 = hsh (pd2 v (updl (F 73) 0 (pdL v (szS v.length))) 4) j) → M Λ X mX12_sha m A (fun r I' F' => ∃ a b c, r = none ∧ I' = I ∧ F' = setF (setF (setF (setF F 73 a) 72 b) 74 c) 71 (updl (F 71) 0 (dby (shaL v) 32))) I (setF (setF (setF F 73 (pd2 v (updl (F 73) 0 (pdL v (szS v.length))) 4)) 72 g) 74 h) 135 [some (.ref m), some (.ref (A 63)), some (.int (nI i)), some (.int (nI v.length)), some (.int (nI (szS v.length))), some (.int (nI (64 * j)))] [] := by
                      intro k_135
                      induction k_135 with
                      | zero => intro j g h h1 h2 h3; exact absurd h2 (by omega)
                      | succ k_135 ih_135 =>
                        intro j g h h1 h2 h3
                        refine M.iload dX12_sha_135 rfl ?_
                        refine M.iload dX12_sha_137 rfl ?_
                        refine M.icmp_ge (tgt := 154) dX12_sha_139 (by decide) (fun c_139 => ?_) (fun c_139 => ?_)
                        · skip
                          have e1 : j = (szS v.length) / 64 := by have := (nI_leI (by omega) (by omega)).mp c_139; omega
                          subst e1
                          have hD : tl h 0 8 = (shaL v) := by rw [h3]; exact hsh_congr _ fun q hq => pd2_B (by omega)
                          have hD8 : tl h 0 (shaL v).length = (shaL v) := by rw [shaL_len]; exact hD
                          refine M.iconst (v := 0) dX12_sha_154 (by decide) ?_
                          refine M.istore (L' := [some (.ref m), some (.ref (A 63)), some (.int (nI i)), some (.int (nI v.length)), some (.int (nI (szS v.length))), some (.int 0)]) dX12_sha_155 (by decide) rfl rfl ?_
                          have cut_157 : ∀ (k_157 : Nat) (k : Nat), (k ≤ 32) → (33 ≤ k + k_157) → M Λ X mX12_sha m A (fun r I' F' => ∃ a b c, r = none ∧ I' = I ∧ F' = setF (setF (setF (setF F 73 a) 72 b) 74 c) 71 (updl (F 71) 0 (dby (shaL v) 32))) I (setF (setF (setF (setF F 73 (pd2 v (updl (F 73) 0 (pdL v (szS v.length))) 4)) 72 g) 74 h) 71 (updl (F 71) 0 (dby (shaL v) k))) 157 [some (.ref m), some (.ref (A 63)), some (.int (nI i)), some (.int (nI v.length)), some (.int (nI (szS v.length))), some (.int (nI k))] [] := by
                            intro k_157
                            induction k_157 with
                            | zero => intro k h1 h2; exact absurd h2 (by omega)
                            | succ k_157 ih_157 =>
                              intro k h1 h2
                              refine M.iload dX12_sha_157 rfl ?_
                              refine M.bipush (v := 32) dX12_sha_159 (by decide) ?_
                              refine M.icmp_ge (tgt := 198) dX12_sha_161 (by decide) (fun c_161 => ?_) (fun c_161 => ?_)
                              · skip
                                have e1 := nI_gen (n := 32) c_161 h1 (by omega); subst e1
                                refine M.vret dX12_sha_198 rfl ?_
                                exact ⟨_, _, _, rfl, rfl, rfl⟩
                              · skip
                                have lt_k : k < 32 := nI_ltn (n := 32) c_161 (by omega) (by omega)
                                refine M.aload_nR dX12_sha_164 rfl ?_
                                refine M.getr dX12_sha_165 fl_X12_176 rfl rfl ?_
                                refine M.iload dX12_sha_168 rfl ?_
                                refine M.aload_nR dX12_sha_170 rfl ?_
                                refine M.getr dX12_sha_171 fl_X12_185 rfl rfl ?_
                                refine M.iload dX12_sha_174 rfl ?_
                                refine M.iconst (v := 4) dX12_sha_176 (by decide) ?_
                                refine M.idiv dX12_sha_177 (by decide) ?_
                                rw [show (nI k) / 4 = nI (k / 4) from pk_div (by omega) (by decide) (by decide)]
                                refine M.ialdv (k9 := 74) (j := k / 4) (g := h) (v := (shaL v).getD (k / 4) 0) dX12_sha_178 rfl rfl rfl rfl (show k / 4 < 8 by omega) (tl_at0 hD8 (by rw [shaL_len]; omega)) ?_
                                refine M.bipush (v := 24) dX12_sha_179 (by decide) ?_
                                refine M.bipush (v := 8) dX12_sha_181 (by decide) ?_
                                refine M.iload dX12_sha_183 rfl ?_
                                refine M.iconst (v := 4) dX12_sha_185 (by decide) ?_
                                refine M.irem dX12_sha_186 (by decide) ?_
                                rw [show (nI k) - (nI k) / 4 * 4 = nI (k % 4) from pk_rem (by omega) (by decide) (by decide)]
                                refine M.imul dX12_sha_187 ?_
                                rw [show 8 * (nI (k % 4)) = nI (8 * (k % 4)) from nI_mulc 8 (k % 4)]
                                refine M.isub dX12_sha_188 ?_
                                rw [show 24 - (nI (8 * (k % 4))) = nI (24 - 8 * (k % 4)) from pk_sub (a := 24) (by omega)]
                                refine M.ishr dX12_sha_189 ?_
                                refine M.i2b8 dX12_sha_190 ?_
                                refine M.bast1 (k9 := 71) (j := 0 + (dby (shaL v) k).length) dX12_sha_191 rfl rfl (by rw [dby_len, Nat.zero_add]) (show 0 + (dby (shaL v) k).length < 32 by rw [dby_len]; omega) (b8_b8 _) ?_
                                rw [updF_set, updl_snoc, ← dby_s]
                                refine M.iinc (v := nI (k + 1)) (L' := [some (.ref m), some (.ref (A 63)), some (.int (nI i)), some (.int (nI v.length)), some (.int (nI (szS v.length))), some (.int (nI (k + 1)))]) dX12_sha_192 rfl (nI_1 k) (by decide) rfl rfl ?_
                                refine M.goto (tgt := 157) dX12_sha_195 (by decide) ?_
                                exact ih_157 (k + 1) (by omega) (by omega)
                          have t9 := cut_157 33 0 (by omega) (by omega)
                          rw [show dby (shaL v) 0 = [] from rfl, updl_nil, show setF (setF (setF (setF F 73 (pd2 v (updl (F 73) 0 (pdL v (szS v.length))) 4)) 72 g) 74 h) 71 (F 71) = (setF (setF (setF F 73 (pd2 v (updl (F 73) 0 (pdL v (szS v.length))) 4)) 72 g) 74 h) from setF_self (setF (setF (setF F 73 (pd2 v (updl (F 73) 0 (pdL v (szS v.length))) 4)) 72 g) 74 h) 71] at t9
                          exact t9
                        · skip
                          have lt_j : j < (szS v.length) / 64 := by have := nI_ltn c_139 (by omega) (by omega); omega
                          refine M.aload_nR dX12_sha_142 rfl ?_
                          refine M.iload dX12_sha_143 rfl ?_
                          refine M.callV [.int (nI (64 * j))] dX12_sha_145 mdX12_block imX12_block seX12_block lk_X12_485 rfl rfl rfl rfl (m_block hA hSh (a := 64 * j) (by omega) (hsh_len _ _) h3) ?_
                          rintro _ I9 _ ⟨g9, h8, rfl, e9, rfl, h9⟩; have e9 := e9.symm; subst e9
                          rw [show setF (setF (setF (setF (setF F 73 (pd2 v (updl (F 73) 0 (pdL v (szS v.length))) 4)) 72 g) 74 h) 72 g9) 74 h8 = setF (setF (setF F 73 (pd2 v (updl (F 73) 0 (pdL v (szS v.length))) 4)) 72 g9) 74 h8 from blk_F _ _ _ _ _]
                          refine M.iinc (v := nI (64 * (j + 1))) (L' := [some (.ref m), some (.ref (A 63)), some (.int (nI i)), some (.int (nI v.length)), some (.int (nI (szS v.length))), some (.int (nI (64 * (j + 1))))]) dX12_sha_148 rfl (nI_add (64 * j) 64) (by decide) rfl rfl ?_
                          refine M.goto (tgt := 135) dX12_sha_151 (by decide) ?_
                          exact ih_135 (j + 1) _ _ (by omega) (by omega) h9
                    have t9 := cut_135 ((szS v.length) / 64 + 1) 0 (F 72) (updl (F 74) 0 sha0) (by omega) (by omega) (tl_in (f := F 74) (i := 0) (l := sha0))
                    rw [show setF (setF F 73 (pd2 v (updl (F 73) 0 (pdL v (szS v.length))) 4)) 72 (F 72) = (setF F 73 (pd2 v (updl (F 73) 0 (pdL v (szS v.length))) 4)) from setF_self (setF F 73 (pd2 v (updl (F 73) 0 (pdL v (szS v.length))) 4)) 72] at t9
                    exact t9
                  · skip
                    have lt_k : k < 8 := nI_ltn (n := 8) c_110 (by omega) (by omega)
                    refine M.aload_nR dX12_sha_113 rfl ?_
                    refine M.getr dX12_sha_114 fl_X12_185 rfl rfl ?_
                    refine M.iload dX12_sha_117 rfl ?_
                    refine M.getsC dX12_sha_119 hr1 fw_X12_482 ?_
                    refine M.iload dX12_sha_122 rfl ?_
                    refine M.ti (j := k) dX12_sha_124 hr2 rfl lt_k (by decide) ?_
                    refine M.iast (k9 := 74) (j := 0 + (sha0.take k).length) dX12_sha_125 rfl rfl (by rw [List.length_take, Nat.min_eq_left (show k ≤ sha0.length from h1), Nat.zero_add]) (show 0 + (sha0.take k).length < 8 by rw [List.length_take, Nat.min_eq_left (show k ≤ sha0.length from h1)]; omega) ?_
                    rw [updF_set, updl_snoc, show gD sha0 k = sha0.getD k 0 from rfl, ← take_at (bs := sha0) lt_k]
                    refine M.iinc (v := nI (k + 1)) (L' := [some (.ref m), some (.ref (A 63)), some (.int (nI i)), some (.int (nI v.length)), some (.int (nI (szS v.length))), some (.int (nI (k + 1)))]) dX12_sha_126 rfl (nI_1 k) (by decide) rfl rfl ?_
                    refine M.goto (tgt := 106) dX12_sha_129 (by decide) ?_
                    exact ih_106 (k + 1) (by omega) (by omega)
              have t9 := cut_106 9 0 (by omega) (by omega)
              rw [List.take_zero, updl_nil, show setF (setF F 73 (pd2 v (updl (F 73) 0 (pdL v (szS v.length))) 4)) 74 (F 74) = (setF F 73 (pd2 v (updl (F 73) 0 (pdL v (szS v.length))) 4)) from setF_self (setF F 73 (pd2 v (updl (F 73) 0 (pdL v (szS v.length))) 4)) 74] at t9
              exact t9
            · skip
              have lt_k : k < 4 := nI_ltn (n := 4) c_71 (by omega) (by omega)
              refine M.aload_nR dX12_sha_74 rfl ?_
              refine M.getr dX12_sha_75 fl_X12_182 rfl rfl ?_
              refine M.iload dX12_sha_78 rfl ?_
              refine M.iconst (v := 1) dX12_sha_80 (by decide) ?_
              refine M.isub dX12_sha_81 ?_
              rw [show (nI (szS v.length)) - 1 = nI ((szS v.length) - 1) from pk_sub (b := 1) (by omega)]
              refine M.iload dX12_sha_82 rfl ?_
              refine M.isub dX12_sha_84 ?_
              rw [show (nI ((szS v.length) - 1)) - (nI k) = nI ((szS v.length) - 1 - k) from pk_sub (by omega)]
              refine M.bipush (v := 8) dX12_sha_85 (by decide) ?_
              refine M.iload_n dX12_sha_87 rfl ?_
              refine M.imul dX12_sha_88 ?_
              rw [show 8 * (nI v.length) = nI (8 * v.length) from nI_mulc 8 v.length]
              refine M.bipush (v := 8) dX12_sha_89 (by decide) ?_
              refine M.iload dX12_sha_91 rfl ?_
              refine M.imul dX12_sha_93 ?_
              rw [show 8 * (nI k) = nI (8 * k) from nI_mulc 8 k]
              refine M.ishr dX12_sha_94 ?_
              refine M.i2b8 dX12_sha_95 ?_
              refine M.bast1 (k9 := 73) (j := (szS v.length) - 1 - k) dX12_sha_96 rfl rfl rfl (show (szS v.length) - 1 - k < 192 by omega) (b8_b8 _) ?_
              rw [updF_set, pd2_s lt_k (by omega)]
              refine M.iinc (v := nI (k + 1)) (L' := [some (.ref m), some (.ref (A 63)), some (.int (nI i)), some (.int (nI v.length)), some (.int (nI (szS v.length))), some (.int (nI (k + 1)))]) dX12_sha_97 rfl (nI_1 k) (by decide) rfl rfl ?_
              refine M.goto (tgt := 68) dX12_sha_100 (by decide) ?_
              exact ih_68 (k + 1) (by omega) (by omega)
        have t9 := cut_68 5 0 (by omega) (by omega)
        rw [pd2_0] at t9
        exact t9
      · skip
        have lt_k : k < (szS v.length) := nI_ltn c_22 (by omega) (by omega)
        refine M.aload_nR dX12_sha_25 rfl ?_
        refine M.getr dX12_sha_26 fl_X12_182 rfl rfl ?_
        refine M.iload dX12_sha_29 rfl ?_
        refine M.iload dX12_sha_31 rfl ?_
        refine M.iload_n dX12_sha_33 rfl ?_
        refine M.icmp_ge (tgt := 46) dX12_sha_34 (by decide) (fun c_34 => ?_) (fun c_34 => ?_)
        · skip
          have ge_v : ¬ k < v.length := by have := (nI_leI (by omega) (by omega)).mp c_34; omega
          refine M.iload dX12_sha_46 rfl ?_
          refine M.iload_n dX12_sha_48 rfl ?_
          refine M.icmp_ne (tgt := 57) dX12_sha_49 (by decide) (fun c_49 => ?_) (fun c_49 => ?_)
          · skip
            have hp : pad1 v k = 0 := by rw [pad1, if_neg ge_v, if_neg (fun q => c_49 ((nI_eq (by omega) (by omega)).mpr q))]
            refine M.iconst (v := 0) dX12_sha_57 (by decide) ?_
            refine M.bast1 (k9 := 73) (j := 0 + (pdL v k).length) dX12_sha_58 rfl rfl (by rw [pdL_len, Nat.zero_add]) (show 0 + (pdL v k).length < 192 by rw [pdL_len]; omega) (by decide) ?_
            rw [updF_set, updl_snoc, pdL_s v k hp]
            refine M.iinc (v := nI (k + 1)) (L' := [some (.ref m), some (.ref (A 63)), some (.int (nI i)), some (.int (nI v.length)), some (.int (nI (szS v.length))), some (.int (nI (k + 1)))]) dX12_sha_59 rfl (nI_1 k) (by decide) rfl rfl ?_
            refine M.goto (tgt := 18) dX12_sha_62 (by decide) ?_
            exact ih_18 (k + 1) (by omega) (by omega)
          · skip
            have hp : pad1 v k = (-128) := by rw [pad1, if_neg ge_v, if_pos ((nI_eq (by omega) (by omega)).mp c_49)]
            refine M.bipush (v := (-128)) dX12_sha_52 (by decide) ?_
            refine M.goto (tgt := 58) dX12_sha_54 (by decide) ?_
            refine M.bast1 (k9 := 73) (j := 0 + (pdL v k).length) dX12_sha_58 rfl rfl (by rw [pdL_len, Nat.zero_add]) (show 0 + (pdL v k).length < 192 by rw [pdL_len]; omega) (by decide) ?_
            rw [updF_set, updl_snoc, pdL_s v k hp]
            refine M.iinc (v := nI (k + 1)) (L' := [some (.ref m), some (.ref (A 63)), some (.int (nI i)), some (.int (nI v.length)), some (.int (nI (szS v.length))), some (.int (nI (k + 1)))]) dX12_sha_59 rfl (nI_1 k) (by decide) rfl rfl ?_
            refine M.goto (tgt := 18) dX12_sha_62 (by decide) ?_
            exact ih_18 (k + 1) (by omega) (by omega)
        · skip
          have lt_v : k < v.length := nI_ltn c_34 (by omega) (by omega)
          have hp : pad1 v k = v.getD k 0 := if_pos lt_v
          refine M.aload_nR dX12_sha_37 rfl ?_
          refine M.iload_n dX12_sha_38 rfl ?_
          refine M.iload dX12_sha_39 rfl ?_
          refine M.iadd dX12_sha_41 ?_
          rw [show (nI i) + (nI k) = nI (i + k) from nI_add i k]
          refine M.baldv (k9 := 63) (j := i + k) (g := F 63) (v := v.getD k 0) dX12_sha_42 rfl rfl rfl rfl (show i + k < 2000 by omega) (tl_bs.mp hv k lt_v) ?_
          refine M.goto (tgt := 58) dX12_sha_43 (by decide) ?_
          refine M.bast1 (k9 := 73) (j := 0 + (pdL v k).length) dX12_sha_58 rfl rfl (by rw [pdL_len, Nat.zero_add]) (show 0 + (pdL v k).length < 192 by rw [pdL_len]; omega) (bts_at hvb lt_v) ?_
          rw [updF_set, updl_snoc, pdL_s v k hp]
          refine M.iinc (v := nI (k + 1)) (L' := [some (.ref m), some (.ref (A 63)), some (.int (nI i)), some (.int (nI v.length)), some (.int (nI (szS v.length))), some (.int (nI (k + 1)))]) dX12_sha_59 rfl (nI_1 k) (by decide) rfl rfl ?_
          refine M.goto (tgt := 18) dX12_sha_62 (by decide) ?_
          exact ih_18 (k + 1) (by omega) (by omega)
  have t9 := cut_18 ((szS v.length) + 1) 0 (by omega) (by omega)
  rw [show pdL v 0 = [] from rfl, updl_nil, setF_self] at t9
  exact t9

theorem m_isProved {Λ : kL} {m : Nat} {A : Nat → Nat} {I : Nat → Int32} {F : Nat → Nat → Int32} (hA : mInj A) (hSh : kSh Λ) {g : fvs} (hv : vrl F 2000 g) (h0 : 0 < (fv g 9).length) (hv1 : (fv g 9).length ≤ 128) {k : Nat} (hk : k < 200) {ch : List Int32} (hch : tl (F 33) (43 * k) 43 = ch) : mCt Λ mX12_isProved m A [.ref m, .int (nI k)] I F (fun r I' F' => ∃ a b c d e, r = some (.int (bI (decide ((b64 (shaL (fv g 9)) 43) = ch)))) ∧ I' = I ∧ F' = sc5 F a b c d e) := by
  refine mCt.of hA pn_X12 [some (.ref m), some (.int (nI k)), none] rfl (Nat.le_of_ble_eq_true rfl) fun X => ?_
  obtain ⟨i, a1, a2, a3, a4, a5⟩ := hv.at (k := 9) (by decide) h0
  have he9 : tl (updl (F 69) 0 (b64 (shaL (fv g 9)) 43)) 0 43 = (b64 (shaL (fv g 9)) 43) := by have h9 := tl_in (f := F 69) (i := 0) (l := (b64 (shaL (fv g 9)) 43)); rwa [b64_len] at h9
  refine M.aload_nR dX12_isProved_0 rfl ?_
  refine M.aload_nR dX12_isProved_1 rfl ?_
  refine M.getr dX12_isProved_2 fl_X12_155 rfl rfl ?_
  refine M.aload_nR dX12_isProved_5 rfl ?_
  refine M.getr dX12_isProved_6 fl_X12_158 rfl rfl ?_
  refine M.bipush (v := 9) dX12_isProved_9 (by decide) ?_
  refine M.ialdv (k9 := 64) (j := 9) (g := F 64) (v := nI i) dX12_isProved_11 rfl rfl rfl rfl (show 9 < 13 by omega) a1 ?_
  refine M.aload_nR dX12_isProved_12 rfl ?_
  refine M.getr dX12_isProved_13 fl_X12_161 rfl rfl ?_
  refine M.bipush (v := 9) dX12_isProved_16 (by decide) ?_
  refine M.ialdv (k9 := 65) (j := 9) (g := F 65) (v := nI (fv g 9).length) dX12_isProved_18 rfl rfl rfl rfl (show 9 < 13 by omega) a2 ?_
  refine M.callV [.ref (A 63), .int (nI i), .int (nI (fv g 9).length)] dX12_isProved_19 mdX12_sha imX12_sha seX12_sha lk_X12_435 rfl rfl rfl rfl (m_sha hA hSh hv1 a3 a4 a5) ?_
  rintro _ I9 _ ⟨a, b, c, rfl, e9, rfl⟩; have e9 := e9.symm; subst e9
  refine M.aload_nR dX12_isProved_22 rfl ?_
  refine M.getr dX12_isProved_23 fl_X12_176 rfl rfl ?_
  refine M.bipush (v := 32) dX12_isProved_26 (by decide) ?_
  refine M.aload_nR dX12_isProved_28 rfl ?_
  refine M.getr dX12_isProved_29 fl_X12_170 rfl rfl ?_
  have hq9 : ∀ q, q < 32 → (setF (setF (setF (setF F 73 a) 72 b) 74 c) 71 (updl (F 71) 0 (dby (shaL (fv g 9)) 32))) 71 q = b8 ((shaL (fv g 9)).getD (q / 4) 0 >>> (nI (24 - 8 * (q % 4)) &&& 31)) := fun q hq => by
    rw [setF_s]
    have h9 := updl_in (f := F 71) (i := 0) (l := dby (shaL (fv g 9)) 32) (j := q) (by rw [dby_len]; exact hq)
    rw [Nat.zero_add] at h9
    rw [h9, dby_at hq]
  refine M.callS [.ref (A 71), .int 32, .ref (A 69)] dX12_isProved_32 mdX12_coded ssX12_coded lk_X12_289 rfl rfl rfl rfl (m_coded_32 hA) ?_
  rintro _ I9 F9 ⟨rfl, e9, e8⟩
  have e9 := e9.symm; subst e9; have e8 := e8.symm; subst e8
  rw [cdk_b64 (f := (setF (setF (setF (setF F 73 a) 72 b) 74 c) 71 (updl (F 71) 0 (dby (shaL (fv g 9)) 32))) 71) (d := shaL (fv g 9)) (n := 32) (by rw [shaL_len]) hq9]
  refine M.istore_n (L' := [some (.ref m), some (.int (nI k)), some (.int 43)]) dX12_isProved_35 (by decide) rfl rfl ?_
  refine M.aload_nR dX12_isProved_36 rfl ?_
  refine M.getr dX12_isProved_37 fl_X12_170 rfl rfl ?_
  refine M.iconst (v := 0) dX12_isProved_40 (by decide) ?_
  refine M.iload_n dX12_isProved_41 rfl ?_
  refine M.aload_nR dX12_isProved_42 rfl ?_
  refine M.getr dX12_isProved_43 fl_X12_82 rfl rfl ?_
  refine M.bipush (v := 43) dX12_isProved_46 (by decide) ?_
  refine M.iload_n dX12_isProved_48 rfl ?_
  refine M.imul dX12_isProved_49 ?_
  rw [show 43 * (nI k) = nI (43 * k) from nI_mulc 43 k]
  refine M.bipush (v := 43) dX12_isProved_50 (by decide) ?_
  have hl9 := m_isLike (Λ := Λ) (m := m) (I := I) hA (F := (setF (setF (setF (setF (setF F 73 a) 72 b) 74 c) 71 (updl (F 71) 0 (dby (shaL (fv g 9)) 32))) 69 (updl (F 69) 0 (b64 (shaL (fv g 9)) 43)))) (k1 := 69) (k2 := 33) rfl rfl rfl rfl (i := 0) (n := 43) (j := 43 * k) (p := 43) (by decide) (show 43 * k + 43 ≤ 8600 by omega)
  rw [show tl ((setF (setF (setF (setF (setF F 73 a) 72 b) 74 c) 71 (updl (F 71) 0 (dby (shaL (fv g 9)) 32))) 69 (updl (F 69) 0 (b64 (shaL (fv g 9)) 43))) 69) 0 43 = (b64 (shaL (fv g 9)) 43) from he9, show tl ((setF (setF (setF (setF (setF F 73 a) 72 b) 74 c) 71 (updl (F 71) 0 (dby (shaL (fv g 9)) 32))) 69 (updl (F 69) 0 (b64 (shaL (fv g 9)) 43))) 33) (43 * k) 43 = ch from hch] at hl9
  refine M.callS [.ref (A 69), .int 0, .int 43, .ref (A 33), .int (nI (43 * k)), .int 43] dX12_isProved_52 mdX12_isLike ssX12_isLike lk_X12_264 rfl rfl rfl rfl hl9 ?_
  rintro _ I9 F9 ⟨rfl, e9, e8⟩
  have e9 := e9.symm; subst e9; have e8 := e8.symm; subst e8
  refine M.zret dX12_isProved_55 rfl (bI_nar _) ?_
  exact ⟨a, b, c, _, _, rfl, rfl, rfl⟩
