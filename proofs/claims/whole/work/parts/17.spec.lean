/-! ===== WHAT A RUN IS, over naturals. c: the configuration: row 0 settings, 1 how many (at 0), 2 sides, 3 kinds, 4 when each comes, 5 who does not come (at 0; 12 or more: nobody).
  σ: how a run stands: row 0 states (0 not yet, 1 waits, 2 inside, 3 through), 1 parts, 2 when in (120: not), 3 when through (120: not), 4 waits, 5 caught, 6 daze, 8 turn, speed, stuck, warmth, steps, stills; row 20 + p: with whom p was. ===== -/
abbrev nH : Type := Nat → Nat → Nat
def nu (σ : nH) (r p v : Nat) : nH := fun a b => if a = r ∧ b = p then v else σ a b
theorem nu_app (σ : nH) (r p v a b : Nat) : nu σ r p v a b = if a = r ∧ b = p then v else σ a b := rfl
def shB (L i side t k : Nat) : Bool := decide (6 * side ≤ (t + i * (12 / L) + k) % 12) && decide ((t + i * (12 / L) + k) % 12 ≤ 6 * side + 2)
def share (L i side t : Nat) : Nat := fb_ct (shB L i side t) (12 / L)
def opn (c : nH) (i side t : Nat) : Bool := decide (c 0 1 ≤ share (c 0 0) i side t)
def szk (k : Nat) : Nat := if k = 1 then 2 else if k = 2 then 3 else 1
def puk (k : Nat) : Nat := if k = 1 then 1 else if k = 2 then 1 else if k = 3 then 0 else if k = 4 then 4 else 2
def inP (c σ : nH) (i p : Nat) : Bool := decide (p < c 1 0) && (decide (σ 0 p = 2) && decide (σ 1 p = i))
def inSt (c σ : nH) (s p : Nat) : Bool := decide (p < c 1 0) && decide (σ 0 p = s)
def used (c σ : nH) (i : Nat) : Nat := fb_sm (fun p => if inP c σ i p then szk (c 3 p) else 0) (c 1 0)
def pushS (c σ : nH) : Nat := fb_sm (fun p => if σ 0 p = 2 then puk (c 3 p) else 0) (c 1 0)
def sSpeed (c σ : nH) : nH :=
  if 0 < σ 8 2 then nu (nu σ 8 1 0) 8 2 (σ 8 2 - 1)
  else if c 0 4 * (σ 8 1 + 1) ≤ c 0 3 + pushS c σ ∧ σ 8 1 < c 0 5 then nu σ 8 1 (σ 8 1 + 1)
  else if c 0 3 + pushS c σ < c 0 4 * σ 8 1 then nu σ 8 1 (σ 8 1 - 1) else σ
/-- who is inside, in a part that is open where it wants to -/
def atM (c σ : nH) (p : Nat) : Bool := decide (σ 0 p = 2) && opn c (σ 1 p) (1 - c 2 p) (σ 8 0)
def goesO (c σ : nH) (p : Nat) : Bool := atM c σ p && !(decide (c 3 p = 5) && decide (σ 6 p < 2))
def dazN (c σ : nH) (p : Nat) : Nat := if opn c (σ 1 p) (1 - c 2 p) (σ 8 0) ∧ σ 6 p = 0 then 1 else if opn c (σ 1 p) (1 - c 2 p) (σ 8 0) = false ∧ σ 6 p = 1 then 2 else σ 6 p
/-- they step out, those below n -/
def sOut (c : nH) (t : Nat) (σ : nH) (n : Nat) : nH := fun a b =>
  if b < n ∧ a = 0 ∧ goesO c σ b = true then 3 else if b < n ∧ a = 3 ∧ goesO c σ b = true then t else if b < n ∧ a = 6 ∧ σ 0 b = 2 then dazN c σ b else σ a b
def sTurn (σ : nH) : nH := nu (nu σ 8 0 ((σ 8 0 + 1) % 12)) 8 4 (σ 8 4 + 1)
def lossS (c σ : nH) (was : Nat) (L : Nat) : Nat := fb_sm (fun i => if opn c i 0 was && !(opn c i 0 (σ 8 0)) then c 0 6 * (c 0 2 - used c σ i) else 0) L
def sStep (c : nH) (t : Nat) (σ : nH) : nH :=
  nu (sOut c t (sTurn σ) (c 1 0)) 8 3 (σ 8 3 + lossS c (sOut c t (sTurn σ) (c 1 0)) (σ 8 0) (c 0 0))
def ahead (c : nH) (p b : Nat) : Bool := if c 3 p = 4 then (if c 3 b = 4 then decide (c 4 p < c 4 b) else true) else if c 3 b = 4 then false else decide (c 4 p < c 4 b)
/-- the first who waits at a side, of those below i; 12: nobody -/
def fstW (c σ : nH) (side : Nat) : Nat → Nat
  | 0 => 12
  | i + 1 => if σ 0 i = 1 ∧ c 2 i = side ∧ (fstW c σ side i = 12 ∨ ahead c i (fstW c σ side i) = true) then i else fstW c σ side i
def exB (p : Nat → Bool) : Nat → Bool
  | 0 => false
  | n + 1 => exB p n || p n
def grown (c σ : nH) (i : Nat) : Bool := exB (fun p => inP c σ i p && !(decide (c 3 p = 3))) (c 1 0)
def mayP (c σ : nH) (p i : Nat) : Bool := opn c i (c 2 p) (σ 8 0) && (decide (szk (c 3 p) ≤ c 0 2 - used c σ i) && (!(decide (c 3 p = 3)) || grown c σ i))
/-- the part for p, of those below i; 12: none -/
def prtF (c σ : nH) (p : Nat) : Nat → Nat
  | 0 => 12
  | i + 1 => if mayP c σ p i = true ∧ (prtF c σ p i = 12 ∨ share (c 0 0) (prtF c σ p i) (c 2 p) (σ 8 0) < share (c 0 0) i (c 2 p) (σ 8 0)) then i else prtF c σ p i
def laden (k : Nat) : Bool := decide (k = 1) || decide (k = 2)
def prt (c σ : nH) (p : Nat) : Nat := if laden (c 3 p) = true ∧ 2 ≤ σ 8 1 then 12 else prtF c σ p (c 0 0)
def caughtB (c σ : nH) (p i : Nat) : Bool := laden (c 3 p) && (decide (σ 8 1 = 1) && decide (share (c 0 0) i (c 2 p) (σ 8 0) = c 0 1))
/-- p steps into i at t -/
def sEnter (c : nH) (t : Nat) (σ : nH) (p i : Nat) : nH := fun a b =>
  if a = 0 ∧ b = p then 2 else if a = 1 ∧ b = p then i else if a = 2 ∧ b = p then t else if a = 4 ∧ b = p then t - c 4 p else if a = 6 ∧ b = p then 0
  else if a = 5 ∧ b = p ∧ caughtB c σ p i = true then 1 else if a = 8 ∧ b = 2 ∧ caughtB c σ p i = true then c 0 7
  else if a = 20 + p ∧ inP c σ i b = true then 1 else if 20 ≤ a ∧ inP c σ i (a - 20) = true ∧ b = p then 1 else σ a b
def sIn (c : nH) (t side : Nat) : Nat → nH → nH
  | 0, σ => σ
  | k + 1, σ => if fstW c σ side (c 1 0) = 12 then σ else if prt c σ (fstW c σ side (c 1 0)) = 12 then σ else sIn c t side k (sEnter c t σ (fstW c σ side (c 1 0)) (prt c σ (fstW c σ side (c 1 0))))
def sThru (t : Nat) (σ : nH) (p : Nat) : nH := nu (nu σ 0 p 3) 3 p t
/-- one goes through folded leaves -/
def sWalk (c : nH) (t side : Nat) (σ : nH) : nH := if fstW c σ side (c 1 0) = 12 then σ else sThru t (nu σ 4 (fstW c σ side (c 1 0)) (t - c 4 (fstW c σ side (c 1 0)))) (fstW c σ side (c 1 0))
def sAllOut (t : Nat) (σ : nH) (n : Nat) : nH := fun a b => if b < n ∧ a = 0 ∧ σ 0 b = 2 then 3 else if b < n ∧ a = 3 ∧ σ 0 b = 2 then t else σ a b
def sFold (c : nH) (t : Nat) (σ : nH) : nH := sWalk c t 1 (sWalk c t 1 (sWalk c t 0 (sWalk c t 0 (sAllOut t (nu (nu σ 8 1 0) 8 2 0) (c 1 0)))))
def sCome (c : nH) (t : Nat) (σ : nH) (n : Nat) : nH := fun a b => if b < n ∧ a = 0 ∧ c 4 b = t ∧ b ≠ c 5 0 then 1 else σ a b
def sSteps (c : nH) (t : Nat) : Nat → nH → nH
  | 0, σ => σ
  | k + 1, σ => sStep c t (sSteps c t k σ)
def sStill (c σ : nH) : nH := nu σ 8 5 (σ 8 5 + if σ 8 1 = 0 ∧ exB (fun p => decide (σ 0 p = 1) || decide (σ 0 p = 2)) (c 1 0) = true then 1 else 0)
def sMove (c : nH) (t : Nat) (σ : nH) : nH :=
  if c 0 8 ≤ t then sFold c t σ else sIn c t 1 12 (sIn c t 0 12 (sSteps c t (sSpeed c σ 8 1) (sSpeed c σ)))
def sTick (c : nH) (t : Nat) (σ : nH) : nH := sStill c (sMove c t (sCome c t σ (c 1 0)))
def s0 : nH := fun a _ => if a = 2 ∨ a = 3 then 120 else 0
/-- how it stands behind t ticks -/
def sRun (c : nH) : Nat → nH
  | 0 => s0
  | t + 1 => sTick c t (sRun c t)
/-- waits, when it is over -/
def waitE (c σ : nH) (p : Nat) : Nat := if σ 0 p = 1 then 120 - c 4 p else σ 4 p
/-! ===== THE MODEL'S PICTURE OF IT ===== -/
def wfC (c : nH) : Prop := (3 ≤ c 0 0 ∧ c 0 0 ≤ 4) ∧ (1 ≤ c 0 1 ∧ c 0 1 ≤ 3) ∧ (1 ≤ c 0 2 ∧ c 0 2 ≤ 6) ∧ c 0 3 ≤ 20 ∧ (1 ≤ c 0 4 ∧ c 0 4 ≤ 9) ∧ (1 ≤ c 0 5 ∧ c 0 5 ≤ 3) ∧ c 0 6 ≤ 9 ∧ (1 ≤ c 0 7 ∧ c 0 7 ≤ 9) ∧ c 0 8 ≤ 120 ∧ c 1 0 ≤ 12 ∧ ∀ p, p < c 1 0 → c 2 p < 2 ∧ c 3 p < 6 ∧ c 4 p < 120
def rmC (c : nH) (h : td_H) : Prop := wfC c ∧ (∀ i, i < 9 → h 87 i = nI (c 0 i)) ∧ h 86 9 = nI (c 1 0) ∧ (∀ p, p < c 1 0 → h 86 (11 + 3 * p) = nI (c 2 p) ∧ h 86 (12 + 3 * p) = nI (c 3 p) ∧ h 88 p = nI (c 4 p)) ∧ h 85 2 = (if c 5 0 < 12 then nI (c 5 0) else -4)
def nn (v : Nat) : Int32 := if v = 120 then -4 else nI v
def rmP (σ : nH) (h : td_H) (p : Nat) : Prop := (h 91 p = nI (σ 0 p) ∧ σ 0 p < 4) ∧ (σ 0 p = 2 → h 92 p = nI (σ 1 p) ∧ σ 1 p < 4) ∧ h 93 p = nn (σ 2 p) ∧ h 94 p = nn (σ 3 p) ∧ h 95 p = nI (σ 4 p) ∧ h 96 p = nI (σ 5 p) ∧ (h 97 p = nI (σ 6 p) ∧ σ 6 p < 3) ∧ h 98 p = ms (fun q => decide (σ (20 + p) q = 1))
def rmK (σ : nH) (h : td_H) : Prop := (h 85 17 = nI (σ 8 0) ∧ σ 8 0 < 12) ∧ (h 85 18 = nI (σ 8 1) ∧ σ 8 1 ≤ 3) ∧ (h 85 19 = nI (σ 8 2) ∧ σ 8 2 ≤ 9) ∧ h 85 20 = nI (σ 8 3) ∧ h 85 21 = nI (σ 8 4) ∧ h 85 22 = nI (σ 8 5)
def rmS (σ : nH) (h : td_H) : Prop := (∀ p, p < 12 → rmP σ h p) ∧ rmK σ h
theorem wfC.n {c : nH} (h : wfC c) : c 1 0 ≤ 12 := h.2.2.2.2.2.2.2.2.2.1
theorem wfC.p {c : nH} (h : wfC c) {p : Nat} (hp : p < c 1 0) : c 2 p < 2 ∧ c 3 p < 6 ∧ c 4 p < 120 := h.2.2.2.2.2.2.2.2.2.2 p hp
theorem of_v {p : Nat} (hp : p < 12) {w : Nat} (hw : w < 3) : (10 + (3 * nI p)) + nI w = nI (10 + 3 * p + w) := by
  rw [show (10 : Int32) = nI 10 from rfl, show (3 : Int32) = nI 3 from rfl, pk_mul, nI_add, nI_add]
theorem of_in {p : Nat} (hp : p < 12) {w : Nat} (hw : w < 3) : vp_in ((10 + (3 * nI p)) + nI w) 46 := by
  rw [of_v hp hw]
  exact vp_in_nI (by omega) (by decide)
theorem of_ix {p : Nat} (hp : p < 12) {w : Nat} (hw : w < 3) : ix ((10 + (3 * nI p)) + nI w) = 10 + 3 * p + w := by
  rw [of_v hp hw]
  exact ixn (by omega)
theorem of_1 {c : nH} {h : td_H} (hc : rmC c h) {p : Nat} (hp : p < c 1 0) : h 86 (ix ((10 + (3 * nI p)) + 1)) = nI (c 2 p) := by
  have e := of_ix (p := p) (by have := hc.1.n; omega) (w := 1) (by decide)
  rw [show (nI 1 : Int32) = 1 from rfl] at e
  rw [e, show 10 + 3 * p + 1 = 11 + 3 * p by omega]
  exact (hc.2.2.2.1 p hp).1
theorem of_2 {c : nH} {h : td_H} (hc : rmC c h) {p : Nat} (hp : p < c 1 0) : h 86 (ix ((10 + (3 * nI p)) + 2)) = nI (c 3 p) := by
  have e := of_ix (p := p) (by have := hc.1.n; omega) (w := 2) (by decide)
  rw [show (nI 2 : Int32) = 2 from rfl] at e
  rw [e, show 10 + 3 * p + 2 = 12 + 3 * p by omega]
  exact (hc.2.2.2.1 p hp).2.1
theorem sz_n {k : Nat} (h : k < 6) : szI (nI k) = nI (szk k) := (by decide +kernel : ∀ k, k < 6 → szI (nI k) = nI (szk k)) k h
theorem pu_n {k : Nat} (h : k < 6) : puI (nI k) = nI (puk k) := (by decide +kernel : ∀ k, k < 6 → puI (nI k) = nI (puk k)) k h
theorem szk_le (k : Nat) : szk k ≤ 3 := by unfold szk; split; decide; split <;> decide
theorem szk_pos (k : Nat) : 1 ≤ szk k := by unfold szk; split; decide; split <;> decide
theorem puk_le (k : Nat) : puk k ≤ 4 := by unfold puk; repeat (first | decide | split)
theorem jrem_n {a b : Nat} (ha : a < 2 ^ 31) (h0 : 0 < b) (hb : b < 2 ^ 31) : jrem (nI a) (nI b) = nI (a % b) := pk_rem ha h0 hb
theorem share_le (L i side t : Nat) : share L i side t ≤ 12 / L := fb_ct_le _ _
theorem used_le (c σ : nH) (i : Nat) (h : c 1 0 ≤ 12) : used c σ i ≤ 36 := by
  have z : used c σ i ≤ c 1 0 * 3 := fb_sm_bound (fun k _ => by
    show (if inP c σ i k then szk (c 3 k) else 0) ≤ 3
    split
    · exact szk_le _
    · decide)
  omega
theorem push_le (c σ : nH) (h : c 1 0 ≤ 12) : pushS c σ ≤ 48 := by
  have z : pushS c σ ≤ c 1 0 * 4 := fb_sm_bound (fun k _ => by
    show (if σ 0 k = 2 then puk (c 3 k) else 0) ≤ 4
    split
    · exact puk_le _
    · decide)
  omega
