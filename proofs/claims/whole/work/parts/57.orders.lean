/-! ===== ORDERS, over naturals ===== -/
def fct : Nat → Nat
  | 0 => 1
  | n + 1 => (n + 1) * fct n
/-- the x-th that is not in 'used', of 0 .. 5 -/
def nthF (used d : Nat) : Nat → Nat → Nat
  | 0, x => x
  | f + 1, x => if used.testBit x then nthF used d f (x + 1) else if d = 0 then x else nthF used (d - 1) f (x + 1)
def pcd : Nat → Nat → Nat → Nat
  | 0, _, _ => 0
  | m + 1, i, used => nthF used (i / fct m) 6 0 + 8 * pcd m (i % fct m) (used ||| 2 ^ nthF used (i / fct m) 6 0)
/-- the i-th row of K places: who stands at a -/
def prm (K i a : Nat) : Nat := (pcd K i 0 / 8 ^ a) % 8
def flF (r : Nat → Nat) : Nat → Nat
  | 0 => 0
  | k + 1 => if r (k + 1) < r k then flF r k else k + 1
def swF (r : Nat → Nat) (x : Nat) : Nat → Nat
  | 0 => 0
  | j + 1 => if r (j + 1) < x then swF r x j else j + 1
def swp (r : Nat → Nat) (a b : Nat) : Nat → Nat := fun i => if i = a then r b else if i = b then r a else r i
def nxF (n : Nat) (r : Nat → Nat) : Nat → Nat := fun i =>
  if i ≤ flF r (n - 1) - 1 then swp r (flF r (n - 1) - 1) (swF r (r (flF r (n - 1) - 1)) (n - 1)) i else swp r (flF r (n - 1) - 1) (swF r (r (flF r (n - 1) - 1)) (n - 1)) (n + (flF r (n - 1) - 1) - i)
/-- where the row with a and a + 1 changed stands -/
def lhD (K i a : Nat) : Nat := i / fct (K - 1 - a) % (K - a)
def rkS (K i a : Nat) : Nat := i + lhD K i (a + 1) * fct (K - 1 - a) + lhD K i a * fct (K - 2 - a) - lhD K i a * fct (K - 1 - a) - (1 + lhD K i (a + 1)) * fct (K - 2 - a)
def okP (K i : Nat) : Bool := (decide (flF (prm K i) (K - 1) = 0) == decide (i + 1 = fct K)) && (allB (fun a => decide (prm K i a < K) && (decide (i + 1 = fct K) || decide (nxF K (prm K i) a = prm K (i + 1) a)) && allB (fun b => decide (b = a) || !(decide (prm K i b = prm K i a))) K) K && allB (fun a => !(decide (prm K i (a + 1) < prm K i a)) || (decide (rkS K i a < i) && allB (fun b => decide (prm K (rkS K i a) b = swp (prm K i) a (a + 1) b)) K)) (K - 1))
def okR (K i : Nat) : Nat → Bool
  | 0 => true
  | n + 1 => okP K (i + n) && okR K i n
