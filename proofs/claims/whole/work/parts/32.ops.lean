/-! what each call does, on lists; N: status 5, error 6, NOW 25, LIVES 26 27 28; B: TAPE 0, OUT 1; T: WORDS 2, IDs 3, SECRETS 4, of CLIENTS 5, DICE 20, used 21, made 22, REQUESTS 23, challenges 25, states 26, CODES 27, FAMILIES 28, ACCESS 29, REFRESH 30; R: REDIRECTS -/
def setB (B : Nat → List Int32) (k : Nat) (v : List Int32) : Nat → List Int32 := fun j => if j = k then v else B j
def setT (T : Nat → List (List Int32)) (k : Nat) (v : List (List Int32)) : Nat → List (List Int32) := fun j => if j = k then v else T j
abbrev rx : Type := Int32 × Int32 × (Nat → Int32) × (Nat → List Int32) × (Nat → List (List Int32)) × (Nat → List (List Int32))
def fmS (v : List Int32) : Option fvs := frmI (gD v) v.length 0 0 vf0
theorem pieI_congr {f h : Nat → Int32} {p e : Nat} (g : fvs) (hpe : p ≤ e) (hj : ∀ j, p ≤ j → j < e → f j = h j) : pieI f p e g = pieI h p e g := by
  have ha : atI f 61 p e = atI h 61 p e := atI_congr hj
  have hg := atI_ge h 61 hpe
  rw [pieI, pieI, ha, decI_congr _ _ _ (Nat.le_refl _) (fun j a b => hj j a (by omega)), decI_congr (atI h 61 p e + 1 - 0 + e) _ _ (by omega) (fun j a b => hj j (by omega) b)]
theorem frmI_congr {f h : Nat → Int32} {n : Nat} (k : Nat) : ∀ (p c : Nat) (g : fvs), n - p ≤ k → (∀ j, p ≤ j → j < n → f j = h j) → frmI f n p c g = frmI h n p c g := by
  induction k with
  | zero => intro p c g hk _; rw [frmI_end (by omega), frmI_end (by omega)]
  | succ k ih =>
    intro p c g hk hj
    by_cases h0 : n ≤ p
    · rw [frmI_end h0, frmI_end h0]
    · have ha : atI f 38 p n = atI h 38 p n := atI_congr hj
      have hg := atI_ge h 38 (p := p) (e := n) (by omega)
      by_cases h1 : atI h 38 p n = p
      · rw [frmI_skip (by omega) (ha.trans h1), frmI_skip (by omega) h1, ih _ _ _ (by omega) fun j a b => hj j (by omega) b]
      · have h1' : ¬ atI f 38 p n = p := by rw [ha]; exact h1
        by_cases h2 : 20 ≤ c
        · rw [frmI_many (by omega) h1' h2, frmI_many (by omega) h1 h2]
        · have hp : pieI f p (atI f 38 p n) g = pieI h p (atI h 38 p n) g := by
            rw [ha]
            exact pieI_congr g (by omega) fun j a b => hj j a (by omega)
          cases h3 : pieI h p (atI h 38 p n) g with
          | none => rw [frmI_bad (by omega) h1' (hp.trans h3), frmI_bad (by omega) h1 h3]
          | some g' => rw [frmI_go (by omega) h1' h2 (hp.trans h3), frmI_go (by omega) h1 h2 h3, ha, ih _ _ _ (by omega) fun j a b => hj j (by omega) b]
theorem fmS_tl {f : Nat → Int32} {v : List Int32} (h : tl f 0 v.length = v) : frmI f v.length 0 0 vf0 = fmS v := frmI_congr v.length _ _ _ (by omega) fun j _ hj => tl_at0 h hj
/-- a row of a table with one place changed -/
def stc (C : List (List Int32)) (n c : Nat) (x : Int32) : List (List Int32) := C.set n ((C.getD n []).set c x)
def ro (C : List (List Int32)) (n c : Nat) : Int32 := (C.getD n []).getD c 0
def rn (C : List (List Int32)) (n c : Nat) : Nat := (ro C n c).toNatClampNeg
def cfS (P : List (List Int32)) (k : Nat) : Bool := decide (ro P k 0 = 1)
/-- the REDIRECT of a REQUEST -/
def rdT (Q : List (List Int32)) (R : Nat → List (List Int32)) (n : Nat) : List Int32 := (R (rn Q n 0)).getD (rn Q n 1) []
def ans (N : Nat → Int32) (s e : Int32) : Nat → Int32 := upd (upd N 5 s) 6 e
section OPS
variable (N : Nat → Int32) (B : Nat → List Int32) (T R : Nat → List (List Int32))
def rfs (s e : Int32) (w : List Int32) : rx := (s, 0, ans N s e, setB B 1 (sb_openError ++ w ++ sb_close), T, R)
def opFeed (a b c d e : Int32) : rx := if 2000 < (B 0).length + 20 then (-1, 0, N, B, T, R) else (nI ((B 0).length + 20), 0, N, setB B 0 (B 0 ++ dby [a, b, c, d, e] 20), T, R)
def opEnd (x : Int32) : rx := if 0 ≤ x ∧ x ≤ nI (B 0).length then (1, 0, N, setB B 0 ((B 0).take x.toNatClampNeg), T, R) else (0, 0, N, B, T, R)
def opAgain (f x : Int32) : rx := if f < 0 ∨ x < 0 ∨ (B 1).length < f.toNatClampNeg + x.toNatClampNeg ∨ 2000 < (B 0).length + x.toNatClampNeg then (-1, 0, N, B, T, R) else (nI ((B 0).length + x.toNatClampNeg), 0, N, setB B 0 (B 0 ++ ((B 1).drop f.toNatClampNeg).take x.toNatClampNeg), T, R)
def gdW (v : List Int32) : Bool := decide (0 < v.length ∧ v.length < 13) && v.all visb && v.all (fun x => !decide (x = 34) && !decide (x = 92))
def opScope : rx := if (gdW (B 0) && decide (fnd (T 2) (B 0) = (T 2).length)) = false then (0, 1, N, setB B 0 [], T, R) else if (T 2).length = 8 then (0, 2, N, setB B 0 [], T, R) else (nI (T 2).length, 0, N, setB B 0 [], setT T 2 (T 2 ++ [B 0]), R)
def idL (v : List Int32) : Nat := atI (gD v) 0 0 v.length
def gdC (v : List Int32) (cf : Bool) : Bool := decide (0 < idL v ∧ idL v < 21) && (v.take (idL v)).all visb && (if cf = true then decide (idL v + 1 < v.length ∧ v.length < idL v + 22) && (v.drop (idL v + 1)).all visb else decide (idL v = v.length))
def opClient (cf : Bool) (x : Int32) (rf : Bool) : rx := if (gdC (B 0) cf && decide (0 ≤ x ∧ x < 1 <<< (nI (T 2).length &&& 31)) && decide (fnd (T 3) ((B 0).take (idL (B 0))) = (T 3).length)) = false then (0, 1, N, setB B 0 [], T, R) else if (T 3).length = 8 then (0, 2, N, setB B 0 [], T, R) else (nI (T 3).length, 0, N, setB B 0 [], setT (setT (setT T 3 (T 3 ++ [(B 0).take (idL (B 0))])) 4 (T 4 ++ [if cf = true then (B 0).drop (idL (B 0) + 1) else []])) 5 (T 5 ++ [[bI cf, x, bI rf]]), R)
def gdR (v : List Int32) : Bool := decide (0 < v.length ∧ v.length < 81) && v.all visb && v.all (fun x => !decide (x = 35))
def opRedirect (x : Int32) : rx := if x < 0 ∨ nI (T 3).length ≤ x then (0, 1, N, setB B 0 [], T, R) else if gdR (B 0) = false then (0, 2, N, setB B 0 [], T, R) else if (R x.toNatClampNeg).length = 3 then (0, 3, N, setB B 0 [], T, R) else (nI ((R x.toNatClampNeg).length + 1), 0, N, setB B 0 [], T, setT R x.toNatClampNeg (R x.toNatClampNeg ++ [B 0]))
def opLives (a b c : Int32) : rx := if (lifeb a && lifeb b && lifeb c) = false then (0, 1, N, B, T, R) else (0, 0, upd (upd (upd N 26 a) 27 b) 28 c, B, T, R)
def opDice (a b c d : Int32) : rx := if (T 20).length = 60 then (-1, 0, N, B, T, R) else (nI ((T 20).length + 1), 0, N, B, setT T 20 (T 20 ++ [[a, b, c, d]]), R)
def opTick (x : Int32) : rx := if x < 0 ∨ 100000 < x then (0, 1, N, B, T, R) else (N 25 + x, 0, upd N 25 (N 25 + x), B, T, R)
def errW (e : Int32) : List Int32 := if e = 1 then sb_invalid_request else if e = 4 then sb_unsupported_response_type else if e = 5 then sb_invalid_scope else sb_temporarily_unavailable
/-- what is wrong with a request whose CLIENT and REDIRECT are known -/
def autE (g : fvs) (c : Nat) : Int32 := if ¬ 0 < (fv g 0).length then 1 else if ¬ fv g 0 = sb_code then 4 else if (decide ((fv g 5).length = 43) && (fv g 5).all chb && decide (fv g 6 = sb_S256)) = false then 1 else if askS (T 2) (fv g 3) (ro (T 5) c 1) < 0 then 5 else if (T 23).length = 200 then 11 else 0
def opAuth2 (g : fvs) (c r : Nat) : rx := if 0 < autE T g c then (-1, 0, ans N 302 (autE T g c), setB B 1 (((R c).getD r [] ++ [plc ((R c).getD r [])]) ++ sb_errorIs ++ errW (autE T g c) ++ stS (fv g 4)), T, R)
  else (nI (T 23).length, 0, ans N 200 0, setB B 1 [], setT (setT (setT T 23 (T 23 ++ [[nI c, nI r, askS (T 2) (fv g 3) (ro (T 5) c 1), 1]])) 25 (T 25 ++ [fv g 5])) 26 (T 26 ++ [fv g 4]), R)
def opAuth1 (g : fvs) : rx := if clS (T 3) (fv g 1) < 0 then (-1, 0, ans N 400 6, setB B 1 [], T, R) else if rdS (R (clS (T 3) (fv g 1)).toNatClampNeg) (fv g 2) < 0 then (-1, 0, ans N 400 1, setB B 1 [], T, R) else opAuth2 N B T R g (clS (T 3) (fv g 1)).toNatClampNeg (rdS (R (clS (T 3) (fv g 1)).toNatClampNeg) (fv g 2)).toNatClampNeg
def opAuth : rx := match fmS (B 0) with
  | none => (-1, 0, ans N 400 1, setB (setB B 0 []) 1 [], T, R)
  | some g => opAuth1 N (setB B 0 []) T R g
def locT (k : Nat) (w : List Int32) : List Int32 := (rdT (T 23) R k ++ [plc (rdT (T 23) R k)]) ++ w ++ stS ((T 26).getD k [])
def opConY (k : Nat) (o x : Int32) : rx := if (T 27).length = 200 then (0, 3, N, B, T, R) else match tk1 (T 21) (T 20) with
  | none => (0, 3, N, B, T, R)
  | some (d, W1) => (nI (T 27).length, 0, ans N 302 0, setB B 1 (locT T R k (sb_codeIs ++ b64 d 22)), setT (setT (setT (setT (setT T 23 (stc (T 23) k 3 0)) 20 W1) 21 (T 21 ++ [d])) 22 (T 22 ++ [[0, nI (T 27).length]])) 27 (T 27 ++ [[nI (T 21).length, nI k, o, x, N 25 + N 26, -1]]), R)
def opConsent (q o x : Int32) (yes : Bool) : rx := if q < 0 ∨ nI (T 23).length ≤ q ∨ ro (T 23) q.toNatClampNeg 3 = 0 then (0, 1, N, B, T, R) else if yes = true ∧ (x = 0 ∨ ¬ wthn x (ro (T 23) q.toNatClampNeg 2) = true) then (0, 2, N, B, T, R) else if yes = true then opConY N B T R q.toNatClampNeg o x
  else (-1, 0, ans N 302 3, setB B 1 (locT T R q.toNatClampNeg sb_errorDenied), setT T 23 (stc (T 23) q.toNatClampNeg 3 0), R)
/-- tokens of a FAMILY are given -/
def opCom (f : Nat) (x : Int32) (ds W1 : List (List Int32)) (both : Bool) : rx := (200, 0, ans N 200 0, setB B 1 (tkT (b64 (ds.getD 0 []) 22) (b64 (ds.getD 1 []) 22) (T 2) x (N 27).toNatClampNeg both),
  setT (setT (setT (setT (setT T 20 W1) 21 (T 21 ++ ds)) 22 (T 22 ++ ([1, nI (T 29).length] :: if both = true then [[2, nI (T 30).length]] else []))) 29 (T 29 ++ [[nI (T 21).length, nI f, x, N 25 + N 27, 0]])) 30 (T 30 ++ (if both = true then [[nI ((T 21).length + 1), nI f, N 25 + N 28, 0]] else [])), R)
def verS (v : List Int32) : Bool := decide (43 ≤ v.length ∧ v.length ≤ 128) && v.all unres
def opRed2 (g : fvs) (c k : Nat) : rx := if ¬ ro (T 23) (rn (T 27) k 1) 0 = nI c then rfs N B T R 400 7 sb_invalid_grant
  else if ¬ ro (T 27) k 5 < 0 then rfs N B (setT T 28 (stc (T 28) (rn (T 27) k 5) 4 1)) R 400 7 sb_invalid_grant
  else if ro (T 27) k 4 ≤ N 25 ∨ ¬ fv g 2 = rdT (T 23) R (rn (T 27) k 1) ∨ ¬ b64 (shaL (fv g 9)) 43 = (T 25).getD (rn (T 27) k 1) [] then rfs N B T R 400 7 sb_invalid_grant
  else match gv (T 21) (T 20) (T 29).length (T 30).length (decide (ro (T 5) c 2 = 1)) with
    | none => rfs N B T R 503 11 sb_temporarily_unavailable
    | some (ds, W1) => opCom N B (setT (setT T 27 (stc (T 27) k 5 (nI (T 28).length))) 28 (T 28 ++ [[nI c, ro (T 27) k 2, ro (T 27) k 3, 0, 0]])) R (T 28).length (ro (T 27) k 3) ds W1 (decide (ro (T 5) c 2 = 1))
def opRed (g : fvs) (c : Nat) : rx := if (decide (0 < (fv g 8).length) && decide (0 < (fv g 2).length) && decide (0 < (fv g 9).length) && verS (fv g 9)) = false then rfs N B T R 400 1 sb_invalid_request
  else if ¬ hfn (T 21) (T 27) (fv g 8) < (T 27).length then rfs N B T R 400 7 sb_invalid_grant
  else opRed2 N B T R g c (hfn (T 21) (T 27) (fv g 8))
def turX (g : fvs) (f : Nat) : Int32 := if 0 < (fv g 3).length then oI (scpS (T 2) (fv g 3)) else ro (T 28) f 2
def opTur2 (g : fvs) (c k f : Nat) : rx := if ¬ ro (T 28) f 0 = nI c ∨ ro (T 28) f 4 = 1 then rfs N B T R 400 7 sb_invalid_grant
  else if ro (T 30) k 3 = 1 then rfs N B (setT T 28 (stc (T 28) f 4 1)) R 400 7 sb_invalid_grant
  else if ro (T 30) k 2 ≤ N 25 then rfs N B T R 400 7 sb_invalid_grant
  else if turX T g f < 0 ∨ ¬ wthn (turX T g f) (ro (T 28) f 2) = true then rfs N B T R 400 5 sb_invalid_scope
  else match gv (T 21) (T 20) (T 29).length (T 30).length true with
    | none => rfs N B T R 503 11 sb_temporarily_unavailable
    | some (ds, W1) => opCom N B (setT (setT T 30 (stc (T 30) k 3 1)) 28 (stc (T 28) f 3 (ro (T 28) f 3 + 1))) R f (turX T g f) ds W1 true
def opTur (g : fvs) (c : Nat) : rx := if ¬ 0 < (fv g 11).length then rfs N B T R 400 1 sb_invalid_request
  else if ¬ hfn (T 21) (T 30) (fv g 11) < (T 30).length then rfs N B T R 400 7 sb_invalid_grant
  else opTur2 N B T R g c (hfn (T 21) (T 30) (fv g 11)) (rn (T 30) (hfn (T 21) (T 30) (fv g 11)) 1)
def whoT (g : fvs) : Int32 := whoS (T 3) (T 4) (cfS (T 5)) (fv g 1) (fv g 10)
def opTok1 (g : fvs) : rx := if ¬ 0 < (fv g 7).length then rfs N B T R 400 1 sb_invalid_request
  else if whoT T g < 0 then rfs N B T R 401 6 sb_invalid_client
  else if fv g 7 = sb_authorization_code then opRed N B T R g (whoT T g).toNatClampNeg
  else if fv g 7 = sb_refresh_token then opTur N B T R g (whoT T g).toNatClampNeg
  else rfs N B T R 400 8 sb_unsupported_grant_type
def opTok : rx := match fmS (B 0) with
  | none => rfs N (setB B 0 []) T R 400 1 sb_invalid_request
  | some g => opTok1 N (setB B 0 []) T R g
/-- what a REFRESH token that is shown takes back -/
def revD (g : fvs) (c : Nat) : List (List Int32) := if hfn (T 21) (T 30) (fv g 12) < (T 30).length ∧ ro (T 28) (rn (T 30) (hfn (T 21) (T 30) (fv g 12)) 1) 0 = nI c then stc (T 28) (rn (T 30) (hfn (T 21) (T 30) (fv g 12)) 1) 4 1 else T 28
def revA (g : fvs) (c : Nat) : List (List Int32) := if hfn (T 21) (T 29) (fv g 12) < (T 29).length ∧ ro (T 28) (rn (T 29) (hfn (T 21) (T 29) (fv g 12)) 1) 0 = nI c then stc (T 29) (hfn (T 21) (T 29) (fv g 12)) 4 1 else T 29
def opRev1 (g : fvs) : rx := if whoT T g < 0 then rfs N B T R 401 6 sb_invalid_client
  else if ¬ 0 < (fv g 12).length then rfs N B T R 400 1 sb_invalid_request
  else (200, 0, ans N 200 0, setB B 1 [], setT (setT T 28 (revD T g (whoT T g).toNatClampNeg)) 29 (revA T g (whoT T g).toNatClampNeg), R)
def opRev : rx := match fmS (B 0) with
  | none => rfs N (setB B 0 []) T R 400 1 sb_invalid_request
  | some g => opRev1 N (setB B 0 []) T R g
def isgd (a : Nat) : Bool := decide (N 25 < ro (T 29) a 3) && !decide (ro (T 29) a 4 = 1) && !decide (ro (T 28) (rn (T 29) a 1) 4 = 1)
def opChk2 (k a : Nat) : rx := if a < (T 29).length ∧ isgd N T a = true then (if sbt (ro (T 29) a 2) k = true then (ro (T 28) (rn (T 29) a 1) 1, 0, ans N 200 0, setB (setB B 0 []) 1 [], T, R) else (0, 0, ans N 403 10, setB (setB B 0 []) 1 [], T, R)) else (0, 0, ans N 401 9, setB (setB B 0 []) 1 [], T, R)
def opChk (x : Int32) : rx := if x < 0 ∨ nI (T 2).length ≤ x then (0, 1, N, setB B 0 [], T, R) else opChk2 N B T R x.toNatClampNeg (hfn (T 21) (T 29) (B 0))
def opOut (x : Int32) : rx := (if 0 ≤ x ∧ x < nI (B 1).length then (B 1).getD x.toNatClampNeg 0 &&& 255 else -1, 0, N, B, T, R)
def codV (k : Nat) (x : Int32) : Option Int32 := if x = 0 then some (if 0 ≤ ro (T 27) k 5 then 1 else if ro (T 27) k 4 ≤ N 25 then 2 else 0) else if x = 1 then some (ro (T 23) (rn (T 27) k 1) 0) else if x = 2 then some (ro (T 27) k 2) else if x = 3 then some (ro (T 27) k 3) else if x = 4 then some (ro (T 27) k 5) else none
def opCode (q x : Int32) : rx := if q < 0 ∨ nI (T 27).length ≤ q then (0, 1, N, B, T, R) else match codV N T q.toNatClampNeg x with
  | none => (0, 1, N, B, T, R)
  | some v => (v, 0, N, B, T, R)
def cntT (p : Nat → Bool) : Nat → Nat
  | 0 => 0
  | k + 1 => cntT p k + (if p k = true then 1 else 0)
def famV (k : Nat) (x : Int32) : Option Int32 := if x = 0 then some (ro (T 28) k 4) else if x = 1 then some (ro (T 28) k 0) else if x = 2 then some (ro (T 28) k 1) else if x = 3 then some (ro (T 28) k 2) else if x = 4 then some (nI (cntT (fun a => decide (ro (T 29) a 1 = nI k) && isgd N T a) (T 29).length)) else if x = 5 then some (ro (T 28) k 3) else none
def opFam (q x : Int32) : rx := if q < 0 ∨ nI (T 28).length ≤ q then (0, 1, N, B, T, R) else match famV N T q.toNatClampNeg x with
  | none => (0, 1, N, B, T, R)
  | some v => (v, 0, N, B, T, R)
def opCnt (x : Int32) : rx := (if x = 0 then nI (T 2).length else if x = 1 then nI (T 3).length else if x = 2 then nI (T 20).length else if x = 3 then nI (T 23).length else if x = 4 then nI (cntT (fun k => decide (ro (T 23) k 3 = 1)) (T 23).length) else if x = 5 then nI (T 27).length else if x = 6 then nI (T 28).length else if x = 7 then nI (T 29).length else if x = 8 then nI (T 30).length else if x = 9 then nI (cntT (fun k => decide (ro (T 28) k 4 = 1)) (T 28).length) else if x = 10 then N 25 else if x = 11 then nI (B 0).length else -1, 0, N, B, T, R)
end OPS
/-! what always holds -/
def ft (C : List (List Int32)) (a b : Nat) : Prop := ∀ k, k < C.length → a ≤ (C.getD k []).length ∧ (C.getD k []).length ≤ b ∧ bts (C.getD k [])
def wfa (B : Nat → List Int32) : Prop := (B 0).length ≤ 2000 ∧ bts (B 0) ∧ (B 1).length ≤ 6200 ∧ bts (B 1)
def wfn (N : Nat → Int32) : Prop := ∃ j, 1 ≤ j ∧ j ≤ 1000000 ∧ N 27 = nI j
def wfw (W : List (List Int32)) : Prop := W.length ≤ 8 ∧ noDup W ∧ ft W 1 12
def wfc (C S P : List (List Int32)) : Prop := C.length ≤ 8 ∧ noDup C ∧ S.length = C.length ∧ P.length = C.length ∧ ft C 1 20 ∧ ft S 0 20 ∧ zro P 0 ∧ zro P 2 ∧ ∀ k, k < C.length → (ro P k 0 = 1 → 1 ≤ (S.getD k []).length) ∧ ∃ j, j < 256 ∧ ro P k 1 = nI j
def wfr (C : List (List Int32)) (R : Nat → List (List Int32)) : Prop := ∀ c, (R c).length ≤ 3 ∧ (C.length ≤ c → R c = []) ∧ ft (R c) 1 80
def wfx (W U : List (List Int32)) (n : Nat) : Prop := W.length ≤ 60 ∧ (∀ d ∈ W, d.length = 4) ∧ (∀ d ∈ U, d.length = 4) ∧ noDup U ∧ U.length = n
def wfq (Q H S C : List (List Int32)) (R : Nat → List (List Int32)) : Prop := Q.length ≤ 200 ∧ H.length = Q.length ∧ S.length = Q.length ∧ zro Q 3 ∧ ft H 43 43 ∧ ft S 0 2000 ∧ ∀ n, n < Q.length → ∃ c r, ro Q n 0 = nI c ∧ ro Q n 1 = nI r ∧ c < C.length ∧ r < (R c).length
def wfk (K Q D U : List (List Int32)) : Prop := K.length ≤ 200 ∧ lwr K 0 U.length ∧ lwr K 1 Q.length ∧ (∀ n, n < K.length → ro K n 5 = -1 ∨ ∃ f, f < D.length ∧ ro K n 5 = nI f) ∧ D.length + cntT (fun n => decide (ro K n 5 = -1)) K.length ≤ K.length
def wff (D C : List (List Int32)) : Prop := lwr D 0 C.length ∧ zro D 4
def wft (E G U D : List (List Int32)) : Prop := E.length ≤ 300 ∧ lwr E 0 U.length ∧ lwr E 1 D.length ∧ zro E 4 ∧ G.length ≤ 300 ∧ lwr G 0 U.length ∧ lwr G 1 D.length ∧ zro G 3
/-- the HANDLES that were made: of which kind, and which of it -/
def kd (T : Nat → List (List Int32)) (c : Int32) : List (List Int32) := if c = 0 then T 27 else if c = 1 then T 29 else T 30
def wfm (M K E G : List (List Int32)) (n : Nat) : Prop := M.length = n ∧ (∀ i, i < M.length → (ro M i 0 = 0 ∧ ∃ j, j < K.length ∧ ro M i 1 = nI j ∧ ro K j 0 = nI i) ∨ (ro M i 0 = 1 ∧ ∃ j, j < E.length ∧ ro M i 1 = nI j ∧ ro E j 0 = nI i) ∨ (ro M i 0 = 2 ∧ ∃ j, j < G.length ∧ ro M i 1 = nI j ∧ ro G j 0 = nI i)) ∧ (∀ j, j < K.length → ro M (rn K j 0) 0 = 0 ∧ ro M (rn K j 0) 1 = nI j) ∧ (∀ j, j < E.length → ro M (rn E j 0) 0 = 1 ∧ ro M (rn E j 0) 1 = nI j) ∧ (∀ j, j < G.length → ro M (rn G j 0) 0 = 2 ∧ ro M (rn G j 0) 1 = nI j)
def rl (C : List (List Int32)) (n : Nat) : Prop := ∀ k, k < C.length → (C.getD k []).length = n
def wfl (T : Nat → List (List Int32)) : Prop := rl (T 27) 6 ∧ rl (T 28) 5 ∧ rl (T 29) 5 ∧ rl (T 30) 4 ∧ rl (T 23) 4 ∧ rl (T 5) 3
abbrev wf (N : Nat → Int32) (B : Nat → List Int32) (T R : Nat → List (List Int32)) : Prop := wfa B ∧ wfn N ∧ wfw (T 2) ∧ wfc (T 3) (T 4) (T 5) ∧ wfr (T 3) R ∧ wfx (T 20) (T 21) ((T 27).length + (T 29).length + (T 30).length) ∧ wfq (T 23) (T 25) (T 26) (T 3) R ∧ wfk (T 27) (T 23) (T 28) (T 21) ∧ wff (T 28) (T 3) ∧ wft (T 29) (T 30) (T 21) (T 28) ∧ wfm (T 22) (T 27) (T 29) (T 30) (T 21).length ∧ wfl T
/-! the reference keeps the lists so -/
section MR
variable (I : Nat → Int32) (F : Nat → Nat → Int32)
def mRa (v : List Int32) : Prop := I 2 = nI v.length ∧ tl (F 1) 0 v.length = v ∧ ∀ j, b8 (F 1 j) = F 1 j
def mRb (v : List Int32) : Prop := I 4 = nI v.length ∧ tl (F 3) 0 v.length = v
def mRn (N : Nat → Int32) : Prop := I 5 = N 5 ∧ I 6 = N 6 ∧ I 25 = N 25 ∧ I 26 = N 26 ∧ I 27 = N 27 ∧ I 28 = N 28
def mRw (W : List (List Int32)) : Prop := I 9 = nI W.length ∧ mTx F 7 8 12 W
def mRc (C S P : List (List Int32)) : Prop := I 20 = nI C.length ∧ mTx F 10 11 20 C ∧ mTx F 12 13 20 S ∧ mCl F 14 P 0 ∧ mCl F 15 P 1 ∧ mCl F 16 P 2
def mRr (R : Nat → List (List Int32)) : Prop := ∀ c, c < 8 → mRd F c (R c)
def mRx (W U : List (List Int32)) : Prop := I 22 = nI W.length ∧ mDi (F 21) W ∧ I 24 = nI U.length ∧ mDi (F 23) U
def mRq (Q H S : List (List Int32)) : Prop := I 37 = nI Q.length ∧ mCl F 29 Q 0 ∧ mCl F 30 Q 1 ∧ mCl F 31 Q 2 ∧ mCl F 32 Q 3 ∧ (∀ n, n < H.length → tl (F 33) (43 * n) 43 = H.getD n []) ∧ I 38 = nI S.flatten.length ∧ tl (F 34) 0 S.flatten.length = S.flatten ∧ ∀ n, n < S.length → F 35 n = nI (S.take n).flatten.length ∧ F 36 n = nI (S.getD n []).length
def mRk (K : List (List Int32)) : Prop := I 45 = nI K.length ∧ mCl F 39 K 0 ∧ mCl F 40 K 1 ∧ mCl F 41 K 2 ∧ mCl F 42 K 3 ∧ mCl F 43 K 4 ∧ mCl F 44 K 5
def mRf (D : List (List Int32)) : Prop := I 51 = nI D.length ∧ mCl F 46 D 0 ∧ mCl F 47 D 1 ∧ mCl F 48 D 2 ∧ mCl F 49 D 3 ∧ mCl F 50 D 4 ∧ ∀ n, D.length ≤ n → F 49 n = 0 ∧ F 50 n = 0
def mRt (E G : List (List Int32)) : Prop := I 57 = nI E.length ∧ mCl F 52 E 0 ∧ mCl F 53 E 1 ∧ mCl F 54 E 2 ∧ mCl F 55 E 3 ∧ mCl F 56 E 4 ∧ (∀ n, E.length ≤ n → F 56 n = 0) ∧ I 62 = nI G.length ∧ mCl F 58 G 0 ∧ mCl F 59 G 1 ∧ mCl F 60 G 2 ∧ mCl F 61 G 3 ∧ ∀ n, G.length ≤ n → F 61 n = 0
end MR
abbrev mR (I : Nat → Int32) (F : Nat → Nat → Int32) (N : Nat → Int32) (B : Nat → List Int32) (T R : Nat → List (List Int32)) : Prop := mRa I F (B 0) ∧ mRb I F (B 1) ∧ mRn I N ∧ mRw I F (T 2) ∧ mRc I F (T 3) (T 4) (T 5) ∧ mRr F R ∧ mRx I F (T 20) (T 21) ∧ mRq I F (T 23) (T 25) (T 26) ∧ mRk I F (T 27) ∧ mRf I F (T 28) ∧ mRt I F (T 29) (T 30)
/-- a call of the reference answers so -/
def mP (o : rx) : Option Value → (Nat → Int32) → (Nat → Nat → Int32) → Prop := fun r I' F' => r = some (.int o.1) ∧ I' 0 = o.2.1 ∧ mR I' F' o.2.2.1 o.2.2.2.1 o.2.2.2.2.1 o.2.2.2.2.2
/-- a column after a row is added, or one place changed -/
theorem getD_app {C : List (List Int32)} {r : List Int32} {n : Nat} : (C ++ [r]).getD n [] = if n < C.length then C.getD n [] else if n = C.length then r else [] := by
  by_cases h : n < C.length
  · rw [if_pos h, List.getD_eq_getElem?_getD, List.getElem?_append_left h, List.getD_eq_getElem?_getD]
  · rw [if_neg h, List.getD_eq_getElem?_getD, List.getElem?_append_right (by omega)]
    by_cases e : n = C.length
    · rw [if_pos e, e, Nat.sub_self]; rfl
    · rw [if_neg e, List.getElem?_eq_none (by rw [List.length_singleton]; omega)]; rfl
theorem getD_appl {C : List (List Int32)} {r : List Int32} {n : Nat} (h : n < C.length) : (C ++ [r]).getD n [] = C.getD n [] := by rw [getD_app, if_pos h]
theorem getD_appr {C : List (List Int32)} {r : List Int32} : (C ++ [r]).getD C.length [] = r := by rw [getD_app, if_neg (Nat.lt_irrefl _), if_pos rfl]
theorem mCl.app {F F' : Nat → Nat → Int32} {k : Nat} {C : List (List Int32)} {c : Nat} (h : mCl F k C c) {r : List Int32} {x : Int32} (hF : F' k = upd (F k) C.length x) (hx : r.getD c 0 = x) : mCl F' k (C ++ [r]) c := by
  intro n hn
  rw [List.length_append, List.length_singleton] at hn
  rw [hF]
  by_cases e : n = C.length
  · rw [e, pk_us, getD_appr, hx]
  · rw [pk_un e, getD_appl (by omega)]
    exact h n (by omega)
theorem stc_len (C : List (List Int32)) (n c : Nat) (x : Int32) : (stc C n c x).length = C.length := List.length_set ..
theorem getD_set {C : List (List Int32)} {n m : Nat} {r : List Int32} : (C.set n r).getD m [] = if n = m ∧ m < C.length then r else C.getD m [] := by
  rw [List.getD_eq_getElem?_getD, List.getElem?_set]
  by_cases h : n = m
  · rw [if_pos h]
    by_cases h2 : m < C.length
    · rw [if_pos (by omega), if_pos ⟨h, h2⟩]; rfl
    · rw [if_neg (by omega), if_neg (fun q => h2 q.2), List.getD_eq_getElem?_getD, List.getElem?_eq_none (by omega)]
  · rw [if_neg h, if_neg (fun q => h q.1), List.getD_eq_getElem?_getD]
theorem getD_seti {r : List Int32} {c d : Nat} {x : Int32} : (r.set c x).getD d 0 = if c = d ∧ d < r.length then x else r.getD d 0 := by
  rw [List.getD_eq_getElem?_getD, List.getElem?_set]
  by_cases h : c = d
  · rw [if_pos h]
    by_cases h2 : d < r.length
    · rw [if_pos (by omega), if_pos ⟨h, h2⟩]; rfl
    · rw [if_neg (by omega), if_neg (fun q => h2 q.2), List.getD_eq_getElem?_getD, List.getElem?_eq_none (by omega)]
  · rw [if_neg h, if_neg (fun q => h q.1), List.getD_eq_getElem?_getD]
theorem ro_stc {C : List (List Int32)} {n c m d : Nat} {x : Int32} : ro (stc C n c x) m d = if n = m ∧ m < C.length ∧ c = d ∧ d < (C.getD n []).length then x else ro C m d := by
  rw [ro, stc, getD_set]
  by_cases h : n = m ∧ m < C.length
  · rw [if_pos h, getD_seti]
    by_cases h2 : c = d ∧ d < (C.getD n []).length
    · rw [if_pos h2, if_pos ⟨h.1, h.2, h2⟩]
    · rw [if_neg h2, if_neg (fun q => h2 q.2.2), h.1, ro]
  · rw [if_neg h, if_neg (fun q => h ⟨q.1, q.2.1⟩), ro]
theorem ro_ne {C : List (List Int32)} {n c m d : Nat} {x : Int32} (h : c ≠ d ∨ n ≠ m) : ro (stc C n c x) m d = ro C m d := by
  rw [ro_stc, if_neg]
  intro q
  rcases h with h | h
  · exact h q.2.2.1
  · exact h q.1
theorem mCl.set {F F' : Nat → Nat → Int32} {k : Nat} {C : List (List Int32)} {c : Nat} (h : mCl F k C c) {n : Nat} {x : Int32} (hl : c < (C.getD n []).length) (hF : F' k = upd (F k) n x) : mCl F' k (stc C n c x) c := by
  intro m hm
  rw [stc_len] at hm
  have e := ro_stc (C := C) (n := n) (c := c) (m := m) (d := c) (x := x)
  rw [ro] at e
  rw [hF, e]
  by_cases q : n = m
  · subst q; rw [pk_us, if_pos ⟨rfl, hm, rfl, hl⟩]
  · rw [pk_un (fun z => q z.symm), if_neg (fun z => q z.1)]
    exact h m hm
theorem mCl.keep {F F' : Nat → Nat → Int32} {k : Nat} {C : List (List Int32)} {c d : Nat} (h : mCl F k C c) {n : Nat} {x : Int32} (hd : d ≠ c) (hF : F' k = F k) : mCl F' k (stc C n d x) c := by
  intro m hm
  rw [stc_len] at hm
  have e := ro_ne (C := C) (n := n) (c := d) (m := m) (d := c) (x := x) (Or.inl hd)
  rw [ro] at e
  rw [hF, e]
  exact h m hm
theorem mTx.app {F F' : Nat → Nat → Int32} {kb ks w : Nat} {C : List (List Int32)} (h : mTx F kb ks w C) {r : List Int32} (hr : r.length ≤ w) (hb : F' kb = updl (F kb) (w * C.length) r) (hs : F' ks = upd (F ks) C.length (nI r.length)) : mTx F' kb ks w (C ++ [r]) := by
  intro n hn
  rw [List.length_append, List.length_singleton] at hn
  rw [hb, hs]
  by_cases e : n = C.length
  · rw [e, getD_appr, pk_us]
    exact ⟨rfl, hr, tl_in⟩
  · obtain ⟨h1, h2, h3⟩ := h n (by omega)
    rw [getD_appl (by omega), pk_un e]
    refine ⟨h1, h2, ?_⟩
    rw [show tl (updl (F kb) (w * C.length) r) (w * n) (C.getD n []).length = tl (F kb) (w * n) (C.getD n []).length from tl_eq.mpr fun y hy => updl_out (Or.inl ?_), h3]
    have : w * (n + 1) ≤ w * C.length := Nat.mul_le_mul_left _ (by omega)
    rw [Nat.mul_succ] at this
    omega
