/-! THE JOB, as a function of the state -/
def sgn (σ : Sg) (p : Nat) : Int32 := fD σ 3 (200 * fF σ 25 + p)
def siz (σ : Sg) : Nat := fN σ 4 (fF σ 25)
def brkF (g : Nat → Int32) (n : Nat) : Nat → Nat → Nat
  | 0, p => p + 1
  | f + 1, p => if n ≤ p then p + 1 else if g p = 10 then p + 1 else brkF g n f (p + 1)
def brk (g : Nat → Int32) (n p : Nat) : Nat := brkF g n (n - p) p
def eoF (g : Nat → Int32) (n : Nat) : Nat → Nat → Nat → Option Nat
  | 0, _, _ => none
  | f + 1, d, k => if n ≤ k then none else if (if g k = 123 then d + 1 else if g k = 125 then d - 1 else d) = 0 then some k else eoF g n f (if g k = 123 then d + 1 else if g k = 125 then d - 1 else d) (if g k = 37 then brk g n k else k + 1)
def eo (g : Nat → Int32) (n b : Nat) : Option Nat := eoF g n (n + 1 - b) 0 b
/-- is the place inside of a remark, is it a sign that is done, the next such -/
def rmk (g : Nat → Int32) : Nat → Bool
  | 0 => false
  | p + 1 => (rmk g p || g p == 37) && (g p != 10)
def dn (g : Nat → Int32) (p : Nat) : Bool := !(rmk g p || g p == 37) && g p != 32 && g p != 10
def ndF (g : Nat → Int32) (n : Nat) : Nat → Nat → Nat
  | 0, _ => n
  | f + 1, p => if n ≤ p then n else if dn g p then p else ndF g n f (p + 1)
def nd (g : Nat → Int32) (n p : Nat) : Nat := ndF g n (n - p) p
def er (σ : Sg) (e : Nat) : Sg := uF σ 35 e
def layS (σ : Sg) (v : Int32) : Sg := if fF σ 28 = 20 then er σ 6 else uF (uD σ 29 (fF σ 28) v) 28 (fF σ 28 + 1)
def wn (s : Int32) : Nat := if s = 42 ∨ s = 43 ∨ s = 45 ∨ s = 82 ∨ s = 102 ∨ s = 103 ∨ s = 111 ∨ s = 119 ∨ s = 120 then 2 else if s = 68 then 3 else if s = 99 ∨ s = 100 ∨ s = 109 ∨ s = 112 ∨ s = 114 ∨ s = 116 ∨ s = 123 then 1 else 0
def pgS : Nat → Sg → Sg
  | 0, σ => σ
  | c + 1, σ => pgS c (uF (uD σ 6 (40 * fF σ 25 + fF σ 31) (fM σ)) 31 (fF σ 31 + 1))
def showS (σ : Sg) : Sg := if 40 < fF σ 31 + fN σ 7 1 then er σ 6 else uM (pgS (fN σ 7 1) σ) 0
def beginS (σ : Sg) (n : Int32) : Sg := if fF σ 32 = 4 then er σ 6 else match eo (sgn σ) (siz σ) (fF σ 26) with
  | none => er σ 7
  | some e => if n < 1 then uF σ 26 e else uF (uD (uN σ 33 (fF σ 32) (fF σ 26)) 34 (fF σ 32) n) 32 (fF σ 32 + 1)
def endS (σ : Sg) : Sg := if fF σ 32 = 0 then er σ 1 else if 0 < fD σ 34 (fF σ 32 - 1) - 1 then uF (uD σ 34 (fF σ 32 - 1) (fD σ 34 (fF σ 32 - 1) - 1)) 26 (fN σ 33 (fF σ 32 - 1)) else uF (uD σ 34 (fF σ 32 - 1) (fD σ 34 (fF σ 32 - 1) - 1)) 32 (fF σ 32 - 1)
def resS (σ : Sg) (c n : Int32) : Sg := if (spResource σ c n).1 < 0 then er σ 2 else layS σ (spResource σ c n).1
def setS (σ : Sg) (q v : Int32) : Sg := if (spDevice σ q v).1 = 0 ∧ fN σ 7 3 = 0 then er σ 3 else (spDevice σ q v).2
def opnS (σ : Sg) (n k : Int32) : Sg := if (spOpened σ n k).1 < 0 then er σ 4 else layS (uN (spOpened σ n k).2 23 (spOpened σ n k).1.toNatClampNeg 1) (spOpened σ n k).1
def cloS (σ : Sg) (v : Int32) : Sg := match hx σ v with
  | none => er σ 4
  | some h => if fN σ 23 h = 0 then er σ 4 else uN (uN σ 16 h 0) 23 h 0
def rdS (σ : Sg) (v : Int32) : Sg := if (spTaken σ v).1 < 0 then er (spTaken σ v).2 4 else layS (spTaken σ v).2 (if (spTaken σ v).1 = 256 then -1 else (spTaken σ v).1)
def defS (σ : Sg) (c n v : Int32) : Sg := if (spDefine σ c n v).1 < 0 then er (spDefine σ c n v).2 2 else (spDefine σ c n v).2
def wrS (σ : Sg) (h v : Int32) : Sg := if (spWritten σ h v).1 < 0 then er (spWritten σ h v).2 4 else (spWritten σ h v).2
def flS (σ : Sg) (h v : Int32) : Sg := if (spFiltered σ h v).1 < 0 then er (spFiltered σ h v).2 4 else (spFiltered σ h v).2
/-- two laid: the second only if the first could be -/
def lay2 (σ : Sg) (v w : Int32) : Sg := layS (layS σ v) w
def doS (σ : Sg) (s a b c : Int32) : Sg :=
  if 48 ≤ s ∧ s ≤ 57 then layS σ (s - 48)
  else if s = 116 then layS σ (10 * a) else if s = 43 then layS σ (a + b) else if s = 45 then layS σ (a - b) else if s = 42 then layS σ (a * b)
  else if s = 100 then lay2 σ a a else if s = 120 then lay2 σ b a else if s = 112 then σ else if s = 109 then uM σ (31 * fM σ + a)
  else if s = 115 then showS σ else if s = 103 then setS σ a b else if s = 82 then resS σ a b else if s = 68 then defS σ a b c
  else if s = 111 then opnS σ a b else if s = 99 then cloS σ a else if s = 119 then wrS σ a b else if s = 114 then rdS σ a
  else if s = 102 then flS σ a b else if s = 123 then beginS σ a else if s = 125 then endS σ else if s = 113 then uF σ 36 1 else er σ 1
def actS (σ : Sg) (s : Int32) : Sg := if fF σ 28 < wn s then er σ 5 else
  doS (uF σ 28 (fF σ 28 - wn s)) s (if 0 < wn s then fD σ 29 (fF σ 28 - wn s) else 0) (if 1 < wn s then fD σ 29 (fF σ 28 - wn s + 1) else 0) (if 2 < wn s then fD σ 29 (fF σ 28 - wn s + 2) else 0)
/-- the signs of a job, one after the other: how it ended (1 at its end, 2 an error, 3 stopped) -/
def runS : Nat → Sg → Nat × Sg
  | 0, σ => (3, σ)
  | k + 1, σ => if siz σ ≤ nd (sgn σ) (siz σ) (fF σ 26) then (1, σ) else if fF σ 27 = fF σ 1 then (3, σ)
      else if fF (actS (uF (uF σ 26 (nd (sgn σ) (siz σ) (fF σ 26))) 27 (fF σ 27 + 1)) (sgn σ (nd (sgn σ) (siz σ) (fF σ 26)))) 35 ≠ 0 then (2, actS (uF (uF σ 26 (nd (sgn σ) (siz σ) (fF σ 26))) 27 (fF σ 27 + 1)) (sgn σ (nd (sgn σ) (siz σ) (fF σ 26))))
      else if fF (actS (uF (uF σ 26 (nd (sgn σ) (siz σ) (fF σ 26))) 27 (fF σ 27 + 1)) (sgn σ (nd (sgn σ) (siz σ) (fF σ 26)))) 36 ≠ 0 then (1, actS (uF (uF σ 26 (nd (sgn σ) (siz σ) (fF σ 26))) 27 (fF σ 27 + 1)) (sgn σ (nd (sgn σ) (siz σ) (fF σ 26))))
      else runS k (uF (actS (uF (uF σ 26 (nd (sgn σ) (siz σ) (fF σ 26))) 27 (fF σ 27 + 1)) (sgn σ (nd (sgn σ) (siz σ) (fF σ 26)))) 26 (fF (actS (uF (uF σ 26 (nd (sgn σ) (siz σ) (fF σ 26))) 27 (fF σ 27 + 1)) (sgn σ (nd (sgn σ) (siz σ) (fF σ 26)))) 26 + 1))
def tell (o : Nat) (σ : Sg) : Sg := uN (uN (uN (uN (uN (uN σ 5 (6 * fF σ 25) o) 5 (6 * fF σ 25 + 1) (fF σ 35)) 5 (6 * fF σ 25 + 2) (if 0 < fF σ 35 then fF σ 26 else 0)) 5 (6 * fF σ 25 + 3) (fF σ 31)) 5 (6 * fF σ 25 + 4) (fF σ 27)) 5 (6 * fF σ 25 + 5) (if 0 < fF σ 35 then siz σ - fF σ 26 - 1 else 0)
def start (σ : Sg) : Sg := uF (uF (uF (uF (uM (uF (uF (uF σ 26 0) 27 0) 28 0) 0) 31 0) 32 0) 35 0) 36 0
def jobS (σ : Sg) : Sg := tell (runS (fF σ 1 + 1) (start σ)).1 (runS (fF σ 1 + 1) (start σ)).2

