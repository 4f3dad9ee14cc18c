/-! how many words of the code lie at each distance: the counts of all 2048 rests at once, 13 bits a count, 320 bits a rest -/
def msk (b : Nat) : Nat := (2 ^ (320 * 2 ^ b) - 1) * ((2 ^ 655360 - 1) / (2 ^ (640 * 2 ^ b) - 1))
def swp (b T : Nat) : Nat := ((T >>> (320 * 2 ^ b)) &&& msk b) ||| ((T &&& msk b) <<< (320 * 2 ^ b))
def prm (r : Nat) : Nat → Nat → Nat
  | 0, T => T
  | b + 1, T => if r.testBit b then swp b (prm r b T) else prm r b T
def t0L : Nat → Nat
  | 0 => 1
  | b + 1 => t0L b + (t0L b <<< 13) <<< (320 * 2 ^ b)
def rho (j : Nat) : Nat := remN (1 <<< (11 + j))
def nxt (j T : Nat) : Nat := T + (prm (rho j) 11 T) <<< 13
def T00 : Nat := t0L 11
def T01 : Nat := nxt 0 T00
def T02 : Nat := nxt 1 T01
def T03 : Nat := nxt 2 T02
def T04 : Nat := nxt 3 T03
def T05 : Nat := nxt 4 T04
def T06 : Nat := nxt 5 T05
def T07 : Nat := nxt 6 T06
def T08 : Nat := nxt 7 T07
def T09 : Nat := nxt 8 T08
def T10 : Nat := nxt 9 T09
def T11 : Nat := nxt 10 T10
def T12 : Nat := nxt 11 T11
def fld (T s : Nat) : Nat := (T >>> (320 * s)) % 2 ^ 320
def evP (f : Nat → Nat) : Nat → Nat
  | 0 => 0
  | d + 1 => evP f d + f d * 2 ^ (13 * d)
set_option maxRecDepth 100000 in
theorem tb0 : ∀ s, s < 2048 → fld T00 s = 2 ^ (13 * wtN s) := by decide +kernel
set_option maxRecDepth 100000 in
theorem tb1 : ∀ s, s < 2048 → fld T01 s = fld T00 s + fld T00 (s ^^^ rho 0) * 2 ^ 13 := by decide +kernel
set_option maxRecDepth 100000 in
theorem tb2 : ∀ s, s < 2048 → fld T02 s = fld T01 s + fld T01 (s ^^^ rho 1) * 2 ^ 13 := by decide +kernel
set_option maxRecDepth 100000 in
theorem tb3 : ∀ s, s < 2048 → fld T03 s = fld T02 s + fld T02 (s ^^^ rho 2) * 2 ^ 13 := by decide +kernel
set_option maxRecDepth 100000 in
theorem tb4 : ∀ s, s < 2048 → fld T04 s = fld T03 s + fld T03 (s ^^^ rho 3) * 2 ^ 13 := by decide +kernel
set_option maxRecDepth 100000 in
theorem tb5 : ∀ s, s < 2048 → fld T05 s = fld T04 s + fld T04 (s ^^^ rho 4) * 2 ^ 13 := by decide +kernel
set_option maxRecDepth 100000 in
theorem tb6 : ∀ s, s < 2048 → fld T06 s = fld T05 s + fld T05 (s ^^^ rho 5) * 2 ^ 13 := by decide +kernel
set_option maxRecDepth 100000 in
theorem tb7 : ∀ s, s < 2048 → fld T07 s = fld T06 s + fld T06 (s ^^^ rho 6) * 2 ^ 13 := by decide +kernel
set_option maxRecDepth 100000 in
theorem tb8 : ∀ s, s < 2048 → fld T08 s = fld T07 s + fld T07 (s ^^^ rho 7) * 2 ^ 13 := by decide +kernel
set_option maxRecDepth 100000 in
theorem tb9 : ∀ s, s < 2048 → fld T09 s = fld T08 s + fld T08 (s ^^^ rho 8) * 2 ^ 13 := by decide +kernel
set_option maxRecDepth 100000 in
theorem tb10 : ∀ s, s < 2048 → fld T10 s = fld T09 s + fld T09 (s ^^^ rho 9) * 2 ^ 13 := by decide +kernel
set_option maxRecDepth 100000 in
theorem tb11 : ∀ s, s < 2048 → fld T11 s = fld T10 s + fld T10 (s ^^^ rho 10) * 2 ^ 13 := by decide +kernel
set_option maxRecDepth 100000 in
theorem tb12 : ∀ s, s < 2048 → fld T12 s = fld T11 s + fld T11 (s ^^^ rho 11) * 2 ^ 13 := by decide +kernel
set_option maxRecDepth 100000 in
theorem tbF : ∀ s, s < 2048 → fld T12 s = evP (fun d => arT (wtN (errT s) * 24 + d)) 24 := by decide +kernel
