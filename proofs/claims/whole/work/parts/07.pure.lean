/-! rows that the generator uses beside the j_ rows -/
section JT
variable {p : Program} {l : Launch} {e : Env} {R : Room} {s : State} {m : MethodId} {args : Array Value} {below : List Frame} {meth : Method} {c : Code} {H : Heap} {locs : List Loc} {cells slots : Nat} {Q : State → Prop}
variable {pc : Nat} {ls : Array Slot} {rest : List Value}
theorem j_top {a : Nat} (k : ∀ y : Nat, y = a → W p l e R s m args below meth c H locs cells slots Q (F0 m pc ls (.int (nI y) :: rest))) : W p l e R s m args below meth c H locs cells slots Q (F0 m pc ls (.int (nI a) :: rest)) := k a rfl
theorem j_bool {b : Bool} (kt : b = true → W p l e R s m args below meth c H locs cells slots Q (F0 m pc ls (.int (nI 1) :: rest))) (kf : b = false → W p l e R s m args below meth c H locs cells slots Q (F0 m pc ls (.int (nI 0) :: rest))) : W p l e R s m args below meth c H locs cells slots Q (F0 m pc ls (.int (nI b.toNat) :: rest)) := by
  cases b
  · exact kf rfl
  · exact kt rfl
theorem j_opt {P : Prop} [Decidable P] {x y : Int32} (kt : P → W p l e R s m args below meth c H locs cells slots Q (F0 m pc ls (.int x :: rest))) (kf : ¬ P → W p l e R s m args below meth c H locs cells slots Q (F0 m pc ls (.int y :: rest))) : W p l e R s m args below meth c H locs cells slots Q (F0 m pc ls (.int (if P then x else y) :: rest)) := by
  by_cases h : P
  · rw [if_pos h]; exact kt h
  · rw [if_neg h]; exact kf h
end JT
theorem i32_ne {x : Int32} {k : Nat} (h : ¬ x = nI k) (hk : k < 2147483648) : x.toInt ≠ (k : Int) := fun q => h (Int32.toInt_inj.mp (by rw [nI_toInt hk]; exact q))
def blw (x : Int32) (N : Nat) : Bool := decide (¬ x < 0 ∧ ¬ nI N ≤ x)
theorem blw_t {x : Int32} {N : Nat} (h1 : ¬ x < 0) (h2 : ¬ nI N ≤ x) : blw x N = true := decide_eq_true ⟨h1, h2⟩
theorem blw_f1 {x : Int32} {N : Nat} (h1 : x < 0) : blw x N = false := decide_eq_false (fun h => h.1 h1)
theorem blw_f2 {x : Int32} {N : Nat} (h1 : nI N ≤ x) : blw x N = false := decide_eq_false (fun h => h.2 h1)
theorem blw_ex {x : Int32} {N : Nat} (h : blw x N = true) (hN : N < 2147483648) : ∃ j : Nat, j < N ∧ x = nI j := by
  obtain ⟨h1, h2⟩ := of_decide_eq_true h
  obtain ⟨j, hj, rfl⟩ := nI_of h1
  exact ⟨j, Nat.lt_of_not_le (fun q => h2 (nI_le q hj)), rfl⟩
theorem blw_nI {j N : Nat} (hj : j < 2147483648) (hN : N < 2147483648) : blw (nI j) N = decide (j < N) := by
  unfold blw
  rw [decide_eq_decide]
  constructor
  · intro h
    exact Nat.lt_of_not_le (fun q => h.2 (nI_le q hj))
  · intro h
    exact ⟨nI_pos hj, nI_ge h hN⟩
theorem blw_j {j N : Nat} (hj : j < N) (hN : N < 2147483648) : blw (nI j) N = true := by
  rw [blw_nI (Nat.lt_trans hj hN) hN]; exact decide_eq_true hj
def mvOk (a b : Int32) : Bool := decide (a ≠ 0 ∧ blw a 23 = true ∧ blw b 23 = true)
/-! the mirrors of the static methods, over Nat -/
def bcN (x : Nat) : Nat :=
  let a := x - (x >>> 1 &&& 1431655765)
  let b := (a &&& 858993459) + (a >>> 2 &&& 858993459)
  let c := (b + b >>> 4) &&& 252645135
  let d := c + c >>> 8
  let e := d + d >>> 16
  e &&& 63
def remStep (v p : Nat) : Nat := if (v >>> p &&& 1) = 1 then v ^^^ (3189 <<< (p - 11)) else v
def remL : Nat → Nat → Nat
  | 0, v => v
  | n + 1, v => remL n (remStep v (n + 11))
def remN (v : Nat) : Nat := remL 12 v
def codedN (m : Nat) : Nat := (m <<< 11) ||| remN (m <<< 11)
def widenN (w : Nat) : Nat := w ||| ((bcN w &&& 1) <<< 23)
def turnN (w n : Nat) : Nat := ((w <<< n) ||| (w >>> (23 - n))) &&& 8388607
def chgN (way : Nat) : Nat := if way = 0 then 0 else if way = 1 then 65536 else 131072
def errN (w way : Nat) : Nat := remN (w ^^^ chgN way) ||| chgN way
def tgtN (p a b : Nat) : Nat := (a * p + b) % 23
def carL (w a b : Nat) : Nat → Nat
  | 0 => 0
  | p + 1 => carL w a b p ||| ((w >>> p &&& 1) <<< tgtN p a b)
def carN (w a b : Nat) : Nat := carL w a b 23
def bakL (w a b : Nat) : Nat → Nat
  | 0 => 0
  | p + 1 => bakL w a b p ||| ((w >>> tgtN p a b &&& 1) <<< p)
def bakN (w a b : Nat) : Nat := bakL w a b 23
def stayN (a b : Nat) : Bool := (List.range 12).all (fun i => decide (remN (carN (3189 <<< i) a b) = 0))
theorem remStep_lt {v p : Nat} (hv : v < 16777216) (hp : p ≤ 22) : remStep v p < 16777216 := by
  unfold remStep
  split
  · refine bd_xor 24 hv ?_
    rw [Nat.shiftLeft_eq]
    have : 2 ^ (p - 11) ≤ 2 ^ 11 := Nat.pow_le_pow_right (by decide) (by omega)
    omega
  · exact hv
theorem shl1_lt {x t n : Nat} (ht : t < n) : (x &&& 1) <<< t < 2 ^ n := by
  rw [Nat.shiftLeft_eq]
  have h1 : x &&& 1 ≤ 1 := Nat.and_le_right
  have h2 : 2 ^ t * 2 ≤ 2 ^ n := by rw [← Nat.pow_succ]; exact Nat.pow_le_pow_right (by decide) ht
  have h3 : (x &&& 1) * 2 ^ t ≤ 1 * 2 ^ t := Nat.mul_le_mul_right _ h1
  have h4 : 0 < 2 ^ t := Nat.two_pow_pos t
  omega
theorem tgtN_lt (p a b : Nat) : tgtN p a b < 23 := Nat.mod_lt _ (by decide)
theorem carL_lt (w a b : Nat) : ∀ k, carL w a b k < 8388608
  | 0 => Nat.le_of_ble_eq_true rfl
  | k + 1 => bd_or 23 (carL_lt w a b k) (shl1_lt (tgtN_lt k a b))
theorem bakL_lt (w a b : Nat) : ∀ k, k ≤ 23 → bakL w a b k < 8388608
  | 0, _ => Nat.le_of_ble_eq_true rfl
  | k + 1, h => bd_or 23 (bakL_lt w a b k (by omega)) (shl1_lt (by omega))
theorem tg_bd {p a b : Nat} (hp : p < 24) (ha : a < 24) (hb : b < 24) : a * p + b < 2147483648 := by
  have : a * p ≤ 23 * 23 := Nat.mul_le_mul (by omega) (by omega)
  omega
theorem remL_succ (n v : Nat) : remL (n + 1) v = remL n (remStep v (n + 11)) := rfl
theorem remL_lt : ∀ n v, n ≤ 12 → v < 16777216 → remL n v < 16777216
  | 0, v, _, h => h
  | n + 1, v, hn, h => remL_lt n _ (by omega) (remStep_lt h (by omega))
theorem remN_lt {v : Nat} (h : v < 16777216) : remN v < 16777216 := remL_lt 12 v (by decide) h
theorem remStep_t {v p : Nat} (h : v >>> p &&& 1 = 1) : remStep v p = v ^^^ (3189 <<< (p - 11)) := if_pos h
theorem remStep_f {v p : Nat} (h : ¬ v >>> p &&& 1 = 1) : remStep v p = v := if_neg h
theorem stay_f {a b i : Nat} (hi : i < 12) (h : ¬ remN (carN (3189 <<< i) a b) = 0) : stayN a b = false := Bool.eq_false_iff.mpr (fun q => h (of_decide_eq_true (List.all_eq_true.mp q i (List.mem_range.mpr hi))))
theorem stay_t {a b : Nat} (h : ∀ i, i < 12 → remN (carN (3189 <<< i) a b) = 0) : stayN a b = true := List.all_eq_true.mpr (fun i hi => decide_eq_true (h i (List.mem_range.mp hi)))
theorem bcN_le (x : Nat) : bcN x ≤ 63 := Nat.and_le_right
theorem key_lt {k : Nat} (h : k ≤ 12) : 3189 <<< k < 16777216 := by
  have : 2 ^ k ≤ 2 ^ 12 := Nat.pow_le_pow_right (by decide) h
  rw [Nat.shiftLeft_eq]
  omega
