/-! ===== what each call answers and makes of the model's rows ===== -/
theorem pr_post {R : Int32 × GS} {x : Int32} {g : GS} {σ : Sg} {post : Option Value → Sg → Prop} (h : R = (x, g)) (hp : post (some (.int R.1)) (wG σ R.2)) : post (some (.int x)) (wG σ g) := by
  subst h
  exact hp
def tn (x : Int32) : Nat := x.toNatClampNeg
theorem tn_nI {i : Nat} (h : i < 2 ^ 31) : tn (nI i) = i := nI_clamp h
/-- a number between 0 and n is an index -/
theorem idxOf {x : Int32} {n : Nat} (h : 0 ≤ x.toInt ∧ x.toInt < n) : ∃ i, i < n ∧ x = nI i := by
  obtain ⟨j, hj, rfl⟩ := nI_of (x := x) (by rw [fa_lt]; simp; omega)
  rw [nI_toInt hj] at h
  exact ⟨j, by omega, rfl⟩
def fnd (G : GS) (k : Nat) : Int32 × GS := ((-1000000) - nI k, u2 G 41 k (G 41 k + nI 1))
/-- ships -/
def hours (kd : Int32) : Int32 := if kd = nI 1 then nI 5 else if kd = nI 2 then nI 7 else if kd = nI 3 then nI 4 else nI 3
def hadK (G : GS) (i w : Nat) (on : Int32) : Nat → Int32
  | 0 => G 5 (3 * i + w)
  | c + 1 => if G 7 c = nI (3 * i + w) ∧ G 8 c ≤ on then G 9 c else hadK G i w on c
def hadOn (G : GS) (i w : Nat) (on : Int32) : Int32 := hadK G i w on (nCh G)
def s_ship (G : GS) (of as on : Int32) : Int32 × GS :=
  if 0 ≤ of.toInt ∧ of.toInt < 40 ∧ of.toInt % 10 < 4 ∧ 0 ≤ as.toInt ∧ as.toInt < 10000 ∧ as.toInt % 10 < 6 ∧ 0 ≤ on.toInt ∧ on.toInt ≤ (G 0 0).toInt then
    (if nSh G = 16 then fnd G 4 else
      (nI (nSh G), u2 (u2 (u2 (u2 (u2 (u2 (u2 G 2 (nSh G) (nI (tn of / 10))) 3 (nSh G) (nI (tn of % 10))) 4 (nSh G) on) 5 (3 * nSh G) (nI (tn as / 100))) 5 (3 * nSh G + 1) (nI (tn as % 10))) 5 (3 * nSh G + 2) (nI (tn as / 10 % 10))) 1 0 (nI (nSh G + 1))))
  else fnd G 1
def s_as (G : GS) (s k : Int32) : Int32 × GS :=
  if (0 ≤ s.toInt ∧ s.toInt < nSh G) ∧ 0 ≤ k.toInt ∧ k.toInt ≤ 3 then
    (if k = 0 ∨ G 2 (tn s) = k ∨ (k = nI 1 ∧ G 2 (tn s) = nI 2) then (hours (G 2 (tn s)), G) else fnd G 5)
  else fnd G 1
def topOf (w : Nat) : Nat := if w = 0 then 99 else if w = 1 then 5 else 9
def s_change (G : GS) (s w v : Int32) : Int32 × GS :=
  if (0 ≤ s.toInt ∧ s.toInt < nSh G) ∧ (0 ≤ w.toInt ∧ w.toInt ≤ 2) ∧ 0 ≤ v.toInt ∧ v.toInt ≤ topOf (tn w) then
    (if nCh G = 60 then fnd G 4 else
      (hadOn G (tn s) (tn w) (G 0 0), u2 (u2 (u2 (u2 G 7 (nCh G) (nI (3 * tn s + tn w))) 8 (nCh G) (G 0 0)) 9 (nCh G) v) 6 0 (nI (nCh G + 1))))
  else fnd G 1
def s_has (G : GS) (s w on : Int32) : Int32 × GS :=
  if (0 ≤ s.toInt ∧ s.toInt < nSh G) ∧ (0 ≤ w.toInt ∧ w.toInt ≤ 2) ∧ 0 ≤ on.toInt ∧ on.toInt ≤ 9999 then (hadOn G (tn s) (tn w) on, G) else fnd G 1
/-- the first k of n with p; n if there is none -/
def fstOf (p : Nat → Bool) : Nat → Nat → Nat
  | 0, k => k
  | m + 1, k => if p k then k else fstOf p m (k + 1)
def s_named (G : GS) (nm on : Int32) : Int32 × GS :=
  if (0 ≤ nm.toInt ∧ nm.toInt ≤ 99) ∧ 0 ≤ on.toInt ∧ on.toInt ≤ 9999 then
    (if fstOf (fun i => decide (hadOn G i 0 on = nm)) (nSh G) 0 < nSh G then (nI (fstOf (fun i => decide (hadOn G i 0 on = nm)) (nSh G) 0), G) else fnd G 2)
  else fnd G 1
def s_one (G : GS) (a b : Int32) : Int32 × GS :=
  if (0 ≤ a.toInt ∧ a.toInt ≤ 9) ∧ (0 ≤ b.toInt ∧ b.toInt ≤ 9) ∧ a ≠ b then
    (if nWd G = 12 then fnd G 4 else (nI (nWd G + 1), u2 (u2 (u2 G 11 (nWd G) a) 12 (nWd G) b) 10 0 (nI (nWd G + 1))))
  else fnd G 1
def onesStep (a b set : Nat) : Nat := if set &&& (2 ^ a ||| 2 ^ b) = 0 then set else set ||| (2 ^ a ||| 2 ^ b)
def onesRow (G : GS) : Nat → Nat → Nat
  | 0, s => s
  | w + 1, s => onesStep (gN G 11 w) (gN G 12 w) (onesRow G w s)
def onesIt (G : GS) : Nat → Nat → Nat
  | 0, s => s
  | k + 1, s => onesRow G (nWd G) (onesIt G k s)
def onesN (G : GS) (o : Nat) : Nat := onesIt G 10 (2 ^ o)
def flb (p : Nat → Bool) : Nat → Nat
  | 0 => 0
  | n + 1 => flb p n + (if p n then 2 ^ n else 0)
def isOne (G : GS) (o : Nat) (on : Int32) (i : Nat) : Bool := (onesN G o).testBit (tn (hadOn G i 2 on))
def fleetN (G : GS) (o : Nat) (on : Int32) : Nat := flb (isOne G o on) (nSh G)
def s_fleet (G : GS) (o on : Int32) : Int32 × GS :=
  if (0 ≤ o.toInt ∧ o.toInt ≤ 9) ∧ 0 ≤ on.toInt ∧ on.toInt ≤ 9999 then (nI (fleetN G (tn o) on), G) else fnd G 1
def s_day (G : GS) (on : Int32) : Int32 × GS :=
  if (0 ≤ on.toInt ∧ on.toInt ≤ 9999) ∧ (G 0 0).toInt ≤ on.toInt then (on - G 0 0, u2 G 0 0 on) else fnd G 1
/-- the open call of a ship: the last one -/
def openK (G : GS) (s : Int32) : Nat → Option Nat
  | 0 => none
  | c + 1 => if G 14 c = s ∧ (G 17 c).toInt < 0 then some c else openK G s c
def openOf (G : GS) (s : Int32) : Option Nat := openK G s (nCa G)
def optI (r : Option Nat) : Int32 := match r with
  | none => -1
  | some c => nI c
/-! calls, the tape, treaties -/
theorem optI_ge (r : Option Nat) (h : ∀ c, r = some c → c < 2 ^ 31) : 0 ≤ optI r ↔ r ≠ none := by
  cases r with
  | none => simp [optI]
  | some c =>
    have := h c rfl
    rw [ge0]
    unfold optI
    rw [nI_toInt this]
    simp
def s_call (G : GS) (s port : Int32) : Int32 × GS :=
  if (0 ≤ s.toInt ∧ s.toInt < nSh G) ∧ 0 ≤ port.toInt ∧ port.toInt ≤ 4 then
    (if openOf G s ≠ none ∨ G 36 (tn s) ≠ 0 then fnd G 3 else if nCa G = 50 then fnd G 4 else
      (nI (nCa G), u2 (u2 (u2 (u2 (u2 G 14 (nCa G) s) 15 (nCa G) port) 16 (nCa G) (G 0 0)) 17 (nCa G) (-1)) 13 0 (nI (nCa G + 1))))
  else fnd G 1
def s_leave (G : GS) (c : Int32) : Int32 × GS :=
  if 0 ≤ c.toInt ∧ c.toInt < nCa G then
    (if 0 ≤ (G 17 (tn c)).toInt ∨ G 18 (tn c) ≠ 0 then fnd G 3 else (nI 1, u2 G 17 (tn c) (G 0 0)))
  else fnd G 1
def looksAt (G : GS) (c : Nat) : Nat := fb_ct (fun l => decide (G 27 l = nI c)) (nLk G)
def s_of (G : GS) (c w : Int32) : Int32 × GS :=
  if (0 ≤ c.toInt ∧ c.toInt < nCa G) ∧ 0 ≤ w.toInt ∧ w.toInt ≤ 5 then
    (if tn w = 0 then G 14 (tn c) else if tn w = 1 then G 15 (tn c) else if tn w = 2 then G 16 (tn c) else if tn w = 3 then G 17 (tn c) else if tn w = 4 then b2 (¬ G 18 (tn c) = 0) else nI (looksAt G (tn c)), G)
  else fnd G 1
def s_feed (G : GS) (b : Int32) : Int32 × GS :=
  if 0 ≤ b.toInt ∧ b.toInt ≤ 255 then (if nTp G = 60 then fnd G 4 else (nI (nTp G + 1), u2 (u2 G 20 (nTp G) b) 19 0 (nI (nTp G + 1)))) else fnd G 1
def isDig (G : GS) (a : Nat) : Bool := decide (a < nTp G ∧ 48 ≤ (G 20 a).toInt ∧ (G 20 a).toInt ≤ 57)
def isByt (G : GS) (a b : Nat) : Bool := decide (a < nTp G ∧ G 20 a = nI b)
def kAt (G : GS) (a : Nat) : Option Nat := if isByt G a 115 then some 0 else if isByt G a 116 then some 1 else if isByt G a 103 then some 2 else if isByt G a 102 then some 3 else none
def rowEnd (G : GS) (a : Nat) : Nat :=
  if isByt G a 108 then (if isDig G (a + 1) then (if isDig G (a + 2) then a + 3 else a + 2) else a + 1)
  else if isByt G a 119 then (if isDig G (a + 1) then (if isDig G (a + 2) then a + 3 else a + 2) else a + 1)
  else if isByt G a 103 then (if isDig G (a + 1) then (if kAt G (a + 2) = none then a + 2 else a + 3) else a + 1)
  else a
def rowLeast (G : GS) (a : Nat) : Nat := if isByt G a 108 then 2 else 3
/-- the digit at a place -/
def dgt (G : GS) (a : Nat) : Nat := gN G 20 a - 48
def tellK (G : GS) (t f of : Nat) : Nat → GS
  | 0 => G
  | k + 1 => u2 (tellK G t f of k) 25 (4 * t + k) (G 25 (4 * t + k) ||| (if of = 0 ∨ of = k ∨ (of = 1 ∧ k = 2) then nI (2 ^ f) else nI 0))
def rowTells (G : GS) (a e : Nat) : GS :=
  if G 20 a = nI 108 then u2 G 23 (nTr G) (if e = a + 3 then nI (10 * dgt G (a + 1) + dgt G (a + 2)) else nI (dgt G (a + 1)))
  else if G 20 a = nI 119 then u2 G 24 (10 * nTr G + dgt G (a + 1)) (nI (dgt G (a + 2)))
  else tellK G (nTr G) (dgt G (a + 1)) ((kAt G (a + 2)).getD 0) 4
def ini10 (G : GS) (t : Nat) : Nat → GS
  | 0 => G
  | k + 1 => u2 (ini10 G t k) 24 (10 * t + k) (nI 1)
def ini4 (G : GS) (t : Nat) : Nat → GS
  | 0 => G
  | k + 1 => u2 (ini4 G t k) 25 (4 * t + k) (nI 0)
def rd : Nat → GS → Nat → Option Nat × GS
  | 0, G, _ => (none, G)
  | m + 1, G, a => if nTp G ≤ a then (none, G) else if rowEnd G a < a + rowLeast G a ∨ isByt G (rowEnd G a) 59 = false then (some (rowEnd G a), G) else rd m (rowTells G a (rowEnd G a)) (rowEnd G a + 1)
def readAll (G : GS) : Option Nat × GS := rd 61 (ini4 (ini10 (u2 G 23 (nTr G) (nI 99)) (nTr G) 10) (nTr G) 4) 0
def s_treaty (G : GS) (on : Int32) : Int32 × GS :=
  if 0 ≤ on.toInt ∧ on.toInt ≤ 9999 then
    (if nTr G = 6 then fnd G 4 else match (readAll G).1 with
      | some e => ((-10) - nI e, u2 (readAll G).2 19 0 (nI 0))
      | none => (nI (nTr G + 1), u2 (u2 (u2 (readAll G).2 19 0 (nI 0)) 22 (nTr G) on) 21 0 (nI (nTr G + 1))))
  else fnd G 1
def frcK (G : GS) (on : Int32) : Nat → Option Nat
  | 0 => none
  | t + 1 => if G 22 t ≤ on then some t else frcK G on t
def frc (G : GS) (on : Int32) : Option Nat := frcK G on (nTr G)
def s_says (G : GS) (on w : Int32) : Int32 × GS :=
  if (0 ≤ on.toInt ∧ on.toInt ≤ 9999) ∧ (w.toInt = 0 ∨ (10 ≤ w.toInt ∧ w.toInt ≤ 19) ∨ (20 ≤ w.toInt ∧ w.toInt ≤ 23)) then
    (match frc G on with
      | none => fnd G 2
      | some t => (if tn w = 0 then G 23 t else if tn w < 20 then G 24 (10 * t + (tn w - 10)) else G 25 (4 * t + (tn w - 20)), G))
  else fnd G 1
/-! looks, shares, risk, boarding -/
def sumW (G : GS) (t : Nat) (f : Int32) : Nat → Int32
  | 0 => nI 0
  | k + 1 => sumW G t f k + (f >>> (nI k &&& 31) &&& nI 1) * G 24 (10 * t + k)
def hldB (G : GS) (i : Nat) (f : Int32) : Bool := match frc G (G 0 0) with
  | none => false
  | some t => decide (¬ (G 25 (4 * t + gN G 2 i) &&& f) = 0 ∨ G 23 t ≤ sumW G t f 10)
def shipOf (G : GS) (l : Nat) : Nat := gN G 14 (gN G 27 l)
def inLast (G : GS) (n : Int) (l : Nat) : Bool := decide ((G 0 0).toInt - n < (G 29 l).toInt)
def isOf (G : GS) (of : Nat) (k : Int32) (l : Nat) : Bool := decide (of = 2 ∨ (if of = 0 then hadOn G (shipOf G l) 1 (G 29 l) else G 3 (shipOf G l)) = k)
def cntB (G : GS) (of : Nat) (k : Int32) (hs : Bool) (l : Nat) : Bool := isOf G of k l && inLast G 1095 l && (decide (¬ G 31 l = 0) || !hs)
def counted (G : GS) (of : Nat) (k : Int32) (hs : Bool) : Nat := fb_ct (cntB G of k hs) (nLk G)
def darkN (own bad all allBad : Nat) : Bool := decide (0 < allBad ∧ own * allBad < bad * all ∧ 4 * own * all * allBad < (bad * all - own * allBad) * (bad * all - own * allBad))
def darkB (G : GS) (of : Nat) (k : Int32) : Bool := darkN (counted G of k false) (counted G of k true) (counted G 2 (nI 0) false) (counted G 2 (nI 0) true)
def banSpan (G : GS) (i : Nat) : Int := if darkB G 0 (hadOn G i 1 (G 0 0)) then 2 * (G 35 0).toInt / 3 else (G 35 0).toInt
def banCnt (G : GS) (i : Nat) : Nat := fb_ct (fun l => decide (¬ G 31 l = 0 ∧ shipOf G l = i) && inLast G (30 * banSpan G i) l) (nLk G)
def banG (G : GS) (i : Nat) : GS := if 3 ≤ banCnt G i ∧ G 36 i = 0 then u2 (u2 (u2 G 36 i (nI 1)) 38 i (G 0 0)) 37 i (G 37 i + nI 1) else G
def lookG (G : GS) (c by_ : Int32) (f : Int32) : GS :=
  u2 (u2 (u2 (u2 (u2 (u2 (u2 (u2 G 27 (nLk G) c) 28 (nLk G) by_) 29 (nLk G) (G 0 0)) 30 (nLk G) f) 31 (nLk G) (b2 (hldB G (gN G 14 (tn c)) f = true))) 32 (nLk G) (nI 0)) 26 0 (nI (nLk G + 1))) 18 (tn c) (b2 (hldB G (gN G 14 (tn c)) f = true))
def s_look (G : GS) (c by_ f : Int32) : Int32 × GS :=
  if (0 ≤ c.toInt ∧ c.toInt < nCa G) ∧ (0 ≤ by_.toInt ∧ by_.toInt ≤ 5) ∧ 0 ≤ f.toInt ∧ f.toInt ≤ 1023 then
    (if 0 ≤ (G 17 (tn c)).toInt then fnd G 3 else if nLk G = 60 then fnd G 4 else
      (nI (nLk G), if hldB G (gN G 14 (tn c)) f then banG (lookG G c by_ f) (gN G 14 (tn c)) else lookG G c by_ f))
  else fnd G 1
def s_told (G : GS) (l w : Int32) : Int32 × GS :=
  if (0 ≤ l.toInt ∧ l.toInt < nLk G) ∧ 0 ≤ w.toInt ∧ w.toInt ≤ 4 then
    (if tn w = 0 then G 27 (tn l) else if tn w = 1 then G 28 (tn l) else if tn w = 2 then G 29 (tn l) else if tn w = 3 then G 30 (tn l) else b2 (¬ G 31 (tn l) = 0), G)
  else fnd G 1
def groupTop (of : Nat) : Nat := if of = 0 then 5 else if of = 1 then 3 else 0
def s_share (G : GS) (of k w : Int32) : Int32 × GS :=
  if (0 ≤ of.toInt ∧ of.toInt ≤ 2) ∧ (0 ≤ k.toInt ∧ k.toInt ≤ groupTop (tn of)) ∧ 0 ≤ w.toInt ∧ w.toInt ≤ 2 then
    (if tn w < 2 then nI (counted G (tn of) k (decide (tn w = 1))) else if tn of = 2 then nI 0 else b2 (darkB G (tn of) k = true), G)
  else fnd G 1
def latK (G : GS) (i : Nat) : Nat → Int32
  | 0 => G 4 i
  | l + 1 => if shipOf G l = i then G 29 l else latK G i l
def fltOf (G : GS) (i : Nat) : Nat := fleetN G (tn (hadOn G i 2 (G 0 0))) (G 0 0)
def hfB (G : GS) (i l : Nat) : Bool := decide (shipOf G l ≠ i ∧ ¬ G 31 l = 0) && (fltOf G i).testBit (shipOf G l) && inLast G 365 l
def holdsF (G : GS) (i : Nat) : Nat := fb_ct (hfB G i) (nLk G)
def yearsOf (G : GS) (i : Nat) : Nat := (((G 0 0).toInt - (latK G i (nLk G)).toInt) / 365).toNat
def riskB (G : GS) (i : Nat) : Nat := 1 + (if 5475 ≤ (G 0 0).toInt - (G 4 i).toInt then 2 else 0) + 3 * (if darkB G 0 (hadOn G i 1 (G 0 0)) then 1 else 0) + 2 * (if darkB G 1 (G 3 i) then 1 else 0)
def riskN (G : GS) (i : Nat) : Nat := (if G 2 i = nI 1 ∨ G 2 i = nI 2 then 2 else 1) * (riskB G i + min 4 (holdsF G i) + min 5 (yearsOf G i))
def s_risk (G : GS) (s : Int32) : Int32 × GS := if 0 ≤ s.toInt ∧ s.toInt < nSh G then (nI (riskN G (tn s)), G) else fnd G 1
/-- the ships at a port, the first eight of them -/
def inPort (G : GS) (port : Int32) (s : Nat) : Bool := match openOf G (nI s) with
  | none => false
  | some c => decide (G 15 c = port)
def atPort (G : GS) (port : Int32) : Nat → List Nat
  | 0 => []
  | s + 1 => if (atPort G port s).length < 8 ∧ inPort G port s then atPort G port s ++ [s] else atPort G port s
/-- the best parting: tried in the order 1, 2, 0 -/
def bs (n : Nat) (h ρ : Nat → Nat) : Nat → Nat → Nat → Nat → Nat → (Nat → Int32) → (Nat → Int32) × Int → (Nat → Int32) × Int
  | 0, _, _, _, r, T, x => if x.2 < r then (fun k => if k < n then T k else x.1 k, r) else x
  | m + 1, i, f, s, r, T, x =>
    bs n h ρ m (i + 1) f s r (upd T i (nI 0))
      (if h i ≤ s then bs n h ρ m (i + 1) f (s - h i) (r + ρ i) (upd T i (nI 2)) (if h i ≤ f then bs n h ρ m (i + 1) (f - h i) s (r + ρ i) (upd T i (nI 1)) x else x)
       else (if h i ≤ f then bs n h ρ m (i + 1) (f - h i) s (r + ρ i) (upd T i (nI 1)) x else x))
def hoursN (G : GS) (i : Nat) : Nat := if gN G 2 i = 1 then 5 else if gN G 2 i = 2 then 7 else if gN G 2 i = 3 then 4 else 3
def brd (G : GS) (port : Int32) (f s : Nat) : (Nat → Int32) × Int :=
  bs (atPort G port (nSh G)).length (fun k => hoursN G ((atPort G port (nSh G)).getD k 0)) (fun k => riskN G ((atPort G port (nSh G)).getD k 0)) (atPort G port (nSh G)).length 0 f s 0 (fun _ => 0) (fun _ => 0, -1)
def s_board (G : GS) (port hrs w : Int32) : Int32 × GS :=
  if (0 ≤ port.toInt ∧ port.toInt ≤ 4) ∧ (0 ≤ hrs.toInt ∧ hrs.toInt / 100 ≤ 24 ∧ hrs.toInt % 100 ≤ 24) ∧ (w.toInt = -1 ∨ (0 ≤ w.toInt ∧ w.toInt < nSh G)) then
    (if w.toInt = -1 then (Int32.ofInt (brd G port (tn hrs / 100) (tn hrs % 100)).2, G)
     else if fstOf (fun k => decide (nI ((atPort G port (nSh G)).getD k 0) = w)) (atPort G port (nSh G)).length 0 < (atPort G port (nSh G)).length then
       ((brd G port (tn hrs / 100) (tn hrs % 100)).1 (fstOf (fun k => decide (nI ((atPort G port (nSh G)).getD k 0) = w)) (atPort G port (nSh G)).length 0), G)
     else fnd G 2)
  else fnd G 1
/-! rest, bans, doubles, draws, what is told -/
def rstB (G : GS) (s h : Nat) : Bool := (gN G 34 (7 * s + h / 24)).testBit (h % 24)
def restCnt (G : GS) (s a n : Nat) : Nat := fb_ct (fun j => rstB G s (a + j)) n
def shf (G : GS) (s : Nat) : Nat → GS
  | 0 => G
  | d + 1 => u2 (shf G s d) 34 (7 * s + d) (G 34 (7 * s + d + 1))
def restG (G : GS) (s : Nat) (bits : Int32) : GS := u2 (shf G s 6) 34 (7 * s + 6) bits
def s_rest (G : GS) (s bits : Int32) : Int32 × GS :=
  if (0 ≤ s.toInt ∧ s.toInt < nSh G) ∧ 0 ≤ bits.toInt ∧ bits.toInt ≤ 16777215 then (nI (restCnt (restG G (tn s) bits) (tn s) 0 168), restG G (tn s) bits) else fnd G 1
def wrg (G : GS) (s h : Nat) : Bool := decide (restCnt G s (h - 23) 24 < 10)
def s_tired (G : GS) (s w : Int32) : Int32 × GS :=
  if (0 ≤ s.toInt ∧ s.toInt < nSh G) ∧ 0 ≤ w.toInt ∧ w.toInt ≤ 2 then
    (if tn w = 0 then (if fstOf (wrg G (tn s)) 145 23 < 168 then (nI (fstOf (wrg G (tn s)) 145 23), G) else fnd G 2)
     else if tn w = 1 then (b2 (restCnt G (tn s) 0 168 < 77), G) else (nI (restCnt G (tn s) 0 168), G))
  else fnd G 1
def s_months (G : GS) (n : Int32) : Int32 × GS := if 1 ≤ n.toInt ∧ n.toInt ≤ 99 then (G 35 0, u2 G 35 0 n) else fnd G 1
def s_banned (G : GS) (s w : Int32) : Int32 × GS :=
  if (0 ≤ s.toInt ∧ s.toInt < nSh G) ∧ 0 ≤ w.toInt ∧ w.toInt ≤ 2 then
    (if tn w = 0 then (b2 (¬ G 36 (tn s) = 0), G) else if tn w = 1 then (G 37 (tn s), G) else if G 36 (tn s) = 0 then fnd G 2 else (G 38 (tn s), G))
  else fnd G 1
def s_lift (G : GS) (s : Int32) : Int32 × GS :=
  if 0 ≤ s.toInt ∧ s.toInt < nSh G then
    (if G 36 (tn s) = 0 ∨ openOf G s ≠ none ∨ G 0 0 - G 38 (tn s) < nI 90 * G 37 (tn s) then fnd G 3 else (nI 1, u2 G 36 (tn s) (nI 0)))
  else fnd G 1
def cnt10 (n : Nat) : Nat := fb_ct (fun k => n.testBit k) 10
def dbl (G : GS) (a b : Nat) : Bool := decide (G 27 a = G 27 b ∧ ¬ G 28 a = G 28 b)
def s_were (G : GS) (a b : Int32) : Int32 × GS :=
  if (0 ≤ a.toInt ∧ a.toInt < nLk G) ∧ 0 ≤ b.toInt ∧ b.toInt < nLk G then
    (if dbl G (tn a) (tn b) then (if cnt10 (gN G 30 (tn a) &&& gN G 30 (tn b)) = 0 then fnd G 2 else (nI (cnt10 (gN G 30 (tn a)) * cnt10 (gN G 30 (tn b)) / cnt10 (gN G 30 (tn a) &&& gN G 30 (tn b))), G)) else fnd G 3)
  else fnd G 1
def smN (f : Nat → Nat) : Nat → Nat
  | 0 => 0
  | n + 1 => smN f n + f n
def hbt (G : GS) (by_ : Int32) (f : Nat → Nat → Nat) (a b : Nat) : Nat := if G 28 a = by_ ∧ dbl G a b = true then f a b else 0
def hbtS (G : GS) (by_ : Int32) (f : Nat → Nat → Nat) : Nat := smN (fun a => smN (hbt G by_ f a) (nLk G)) (nLk G)
def fBoth (G : GS) (a b : Nat) : Nat := cnt10 (gN G 30 a &&& gN G 30 b)
def fOther (G : GS) (_ b : Nat) : Nat := cnt10 (gN G 30 b)
def s_habit (G : GS) (by_ : Int32) : Int32 × GS :=
  if 0 ≤ by_.toInt ∧ by_.toInt ≤ 5 then (if hbtS G by_ (fOther G) = 0 then fnd G 2 else (nI (100 * hbtS G by_ (fBoth G) / hbtS G by_ (fOther G)), G)) else fnd G 1
def s_draw (G : GS) (l by_ : Int32) : Int32 × GS :=
  if (0 ≤ l.toInt ∧ l.toInt < nLk G) ∧ 1 ≤ by_.toInt ∧ by_.toInt ≤ 100 then
    (if 0 < (G 32 (tn l)).toInt then fnd G 3 else (G 33 0 + nI 1, u2 (u2 G 32 (tn l) by_) 33 0 (G 33 0 + nI 1)))
  else fnd G 1
def ptN (G : GS) (l : Nat) : Nat := if 0 < gN G 32 l then 10000 / gN G 32 l else 0
def allR (G : GS) : Nat := smN (ptN G) (nLk G)
def badR (G : GS) : Nat := smN (fun l => if G 31 l = 0 then 0 else ptN G l) (nLk G)
def s_rate (G : GS) : Int32 × GS := if allR G = 0 then fnd G 2 else (nI (1000 * badR G / allR G), G)
def s_tell (G : GS) (v : Int32) : Int32 × GS := if nWt G = 16 then fnd G 4 else (nI (nWt G + 1), u2 (u2 G 40 (nWt G) v) 39 0 (nI (nWt G + 1)))
def chkB (G : GS) (i : Nat) : Bool := decide (nSh G ≤ i ∨ ¬ nI (riskN G i) = G 40 i)
def s_check (G : GS) : Int32 × GS :=
  (if fstOf (chkB (u2 G 39 0 (nI 0))) (nWt G) 0 < nWt G then nI (1 + fstOf (chkB (u2 G 39 0 (nI 0))) (nWt G) 0) else nI 0, u2 G 39 0 (nI 0))
def inPorts (G : GS) : Nat := fb_ct (fun s => decide (openOf G (nI s) ≠ none)) (nSh G)
def heldN (G : GS) : Nat := fb_ct (fun c => decide (¬ G 18 c = 0)) (nCa G)
def banN (G : GS) : Nat := fb_ct (fun i => decide (¬ G 36 i = 0)) (nSh G)
def cntW (G : GS) : Nat → Int32
  | 0 => G 1 0 | 1 => G 6 0 | 2 => G 13 0 | 3 => G 26 0 | 4 => G 21 0 | 5 => G 19 0 | 6 => G 0 0 | 7 => G 33 0 | 8 => nI (inPorts G) | 9 => nI (heldN G) | 10 => nI (banN G) | _ => G 39 0
def s_count (G : GS) (w : Int32) : Int32 × GS := if 0 ≤ w.toInt ∧ w.toInt ≤ 11 then (cntW G (tn w), G) else fnd G 1
def s_found (G : GS) (k : Int32) : Int32 × GS := if 1 ≤ k.toInt ∧ k.toInt ≤ 5 then (G 41 (tn k), G) else fnd G 1
