/-! the mirrors of the reference's methods -/
def inI (x lo hi : Int32) : Bool := decide (lo ≤ x ∧ x ≤ hi)
theorem inI_f1 {x lo hi : Int32} (h : x < lo) : inI x lo hi = false := decide_eq_false (fun q => by
  have h1 := Int32.lt_iff_toInt_lt.mp h
  have h2 := Int32.le_iff_toInt_le.mp q.1
  omega)
theorem inI_f2 {x lo hi : Int32} (h : hi < x) : inI x lo hi = false := decide_eq_false (fun q => by
  have h1 := Int32.lt_iff_toInt_lt.mp h
  have h2 := Int32.le_iff_toInt_le.mp q.2
  omega)
theorem inI_t {x lo hi : Int32} (h1 : ¬ x < lo) (h2 : ¬ hi < x) : inI x lo hi = true := decide_eq_true (by
  have g1 : ¬ x.toInt < lo.toInt := fun q => h1 (Int32.lt_iff_toInt_lt.mpr q)
  have g2 : ¬ hi.toInt < x.toInt := fun q => h2 (Int32.lt_iff_toInt_lt.mpr q)
  exact ⟨Int32.le_iff_toInt_le.mpr (by omega), Int32.le_iff_toInt_le.mpr (by omega)⟩)
theorem inI_toInt (x lo hi : Int32) : inI x lo hi = decide (lo.toInt ≤ x.toInt ∧ x.toInt ≤ hi.toInt) := by
  unfold inI
  rw [decide_eq_decide, Int32.le_iff_toInt_le, Int32.le_iff_toInt_le]
theorem blw_toInt (x : Int32) {N : Nat} (hN : N < 2147483648) : blw x N = decide (0 ≤ x.toInt ∧ x.toInt < N) := by
  unfold blw
  rw [decide_eq_decide, Int32.lt_iff_toInt_lt, Int32.le_iff_toInt_le, nI_toInt hN, Int32.toInt_zero]
  omega
theorem inI_blw (x : Int32) {N : Nat} (h0 : 0 < N) (hN : N < 2147483648) : inI x (nI 0) (nI (N - 1)) = blw x N := by
  rw [inI_toInt, blw_toInt x hN, decide_eq_decide, nI_toInt (by omega), nI_toInt (by omega)]
  omega
theorem inI_sub (x : Int32) {N : Nat} (hN : N < 1073741824) : inI x (nI 0) (nI N - nI 1) = blw x N := by
  rw [inI_toInt, blw_toInt x (by omega), decide_eq_decide, nI_toInt (by omega), pk_sub_toInt hN (by decide)]
  omega
theorem inI_mv (x : Int32) : inI x (nI 1) (nI 22) = true ↔ (x ≠ 0 ∧ blw x 23 = true) := by
  rw [inI_toInt, blw_toInt x (by decide), decide_eq_true_iff, decide_eq_true_iff, nI_toInt (by decide), nI_toInt (by decide)]
  have : x ≠ 0 ↔ x.toInt ≠ 0 := by
    constructor
    · intro h q; exact h (Int32.toInt_inj.mp (by rw [q]; rfl))
    · intro h q; exact h (by rw [q]; rfl)
  rw [this]
  omega
theorem inI_ex {x : Int32} {N : Nat} {y : Int32} (hy : y = nI N) (h : inI x (nI 0) y = true) (hN : N < 2147483647) : ∃ j : Nat, j < N + 1 ∧ x = nI j := by
  rw [hy, show N = (N + 1) - 1 from rfl, inI_blw x (Nat.succ_pos N) (by omega)] at h
  exact blw_ex h (by omega)
def wtL (v : Nat) : Nat → Nat
  | 0 => 0
  | k + 1 => wtL v k + (v >>> k &&& 1)
def wtN (v : Nat) : Nat := wtL v 24
theorem wtL_le (v : Nat) : ∀ k, wtL v k ≤ k
  | 0 => Nat.le_refl 0
  | k + 1 => Nat.add_le_add (wtL_le v k) Nat.and_le_right
theorem wtN_le (v : Nat) : wtN v ≤ 24 := wtL_le v 24
def madeN (k : Nat) : Nat := (k <<< 11) + remN (k <<< 11)
/-- REST stays below 2 to the 11 -/
theorem remStep_lt2 {v n : Nat} (h : v < 2 ^ (n + 12)) : remStep v (n + 11) < 2 ^ (n + 11) := by
  refine Nat.lt_pow_two_of_testBit _ (fun i hi => ?_)
  have hz : ∀ j, n + 12 ≤ j → v.testBit j = false := fun j hj => Nat.testBit_lt_two_pow (Nat.lt_of_lt_of_le h (Nat.pow_le_pow_right (by decide) hj))
  have hb : (v >>> (n + 11) &&& 1 = 1) ↔ v.testBit (n + 11) = true := by
    rw [Nat.testBit, Nat.and_comm]
    have : v >>> (n + 11) &&& 1 < 2 := Nat.lt_of_le_of_lt Nat.and_le_right (by decide)
    rw [Nat.and_comm] at this
    rw [bne_iff_ne]
    omega
  have hk : ∀ j, 12 ≤ j → (3189 : Nat).testBit j = false := fun j hj => Nat.testBit_lt_two_pow (Nat.lt_of_lt_of_le (by decide : (3189 : Nat) < 2 ^ 12) (Nat.pow_le_pow_right (by decide) hj))
  unfold remStep
  split
  · rename_i hc
    rw [Nat.testBit_xor, Nat.testBit_shiftLeft, show n + 11 - 11 = n by omega]
    rcases Nat.eq_or_lt_of_le hi with e | e
    · subst e
      rw [hb.mp hc, show n + 11 - n = 11 by omega]
      have : decide (n + 11 ≥ n) = true := decide_eq_true (by omega)
      rw [this]
      decide
    · rw [hz i (by omega), hk (i - n) (by omega)]
      simp
  · rename_i hc
    rcases Nat.eq_or_lt_of_le hi with e | e
    · subst e
      exact Bool.eq_false_iff.mpr (fun q => hc (hb.mpr q))
    · exact hz i (by omega)
theorem remL_lt2 : ∀ n v, v < 2 ^ (n + 11) → remL n v < 2 ^ 11
  | 0, v, h => by rw [Nat.zero_add] at h; exact h
  | n + 1, v, h => by
    rw [remL_succ]
    exact remL_lt2 n _ (remStep_lt2 (by rw [show n + 12 = n + 1 + 11 by omega]; exact h))
theorem remN_lt11 {v : Nat} (h : v < 8388608) : remN v < 2048 := remL_lt2 12 v h
theorem shl11_lt {k : Nat} (h : k < 4096) : k <<< 11 < 8388608 := by rw [Nat.shiftLeft_eq]; omega
theorem made_lt {k : Nat} (h : k < 4096) : madeN k < 8388608 := by
  have h1 := remN_lt11 (shl11_lt h)
  unfold madeN
  rw [Nat.shiftLeft_eq] at h1 ⊢
  omega
def nearE (E : Nat → Nat) (w : Nat) : Nat := w ^^^ E (remN w)
theorem near_lt {E : Nat → Nat} {w : Nat} (hE : ∀ i, i < 2048 → E i < 8388608) (hw : w < 8388608) : nearE E w < 8388608 := bd_xor 23 hw (hE _ (remN_lt11 hw))
abbrev cl (x : Int32) : Nat := x.toNatClampNeg
theorem cl_nI {j N : Nat} (h : j < N) (hN : N ≤ 2147483648) : cl (nI j) = j := nI_clamp (Nat.lt_of_lt_of_le h hN)
def mMade (x : Int32) : Int32 := if blw x 4096 = true then nI (madeN (cl x)) else -2
def mRest (x : Int32) : Int32 := if blw x 8388608 = true then nI (remN (cl x)) else -2
def mOf (E : Nat → Nat) (x y : Int32) : Int32 := if blw x 8388608 = true then (if y = nI 0 then nI (wtN (cl x)) else if y = nI 1 then nI (nearE E (cl x)) else if y = nI 2 then nI (wtN (E (remN (cl x)))) else if y = nI 3 then nI (nearE E (cl x) >>> 11) else -2) else -2
def aroL (w d : Nat) : Nat → Nat
  | 0 => 0
  | k + 1 => aroL w d k + (if wtN (madeN k ^^^ w) = d then 1 else 0)
def mAround (x y : Int32) : Int32 := if blw x 8388608 = true ∧ blw y 24 = true then nI (aroL (cl x) (cl y) 4096) else -2
theorem aroL_le (w d : Nat) : ∀ k, aroL w d k ≤ k
  | 0 => Nat.le_refl 0
  | k + 1 => Nat.add_le_add (aroL_le w d k) (by split <;> decide)
def trnL (w r : Nat) : Nat → Nat
  | 0 => 0
  | k + 1 => trnL w r k ||| ((w >>> k &&& 1) <<< ((k + r) % 23))
def trnN (w r : Nat) : Nat := trnL w r 23
theorem trnL_lt (w r : Nat) : ∀ k, trnL w r k < 8388608
  | 0 => Nat.le_of_ble_eq_true rfl
  | k + 1 => bd_or 23 (trnL_lt w r k) (shl1_lt (Nat.mod_lt _ (by decide)))
def mTurned (x y : Int32) : Int32 := if blw x 8388608 = true ∧ blw y 23 = true then nI (trnN (cl x) (cl y)) else -2
def catB (way : Nat) : Nat := if way = 0 then 0 else 1 <<< (15 + way)
def catR (w way : Nat) : Nat := remN (w ^^^ catB way)
def catOk (w way : Nat) : Bool := decide (wtN (catR w way) ≤ (if way = 0 then 3 else 2))
def catE (w way : Nat) : Nat := catR w way ||| catB way
theorem catB_lt {way : Nat} (h : way < 3) : catB way < 8388608 := by
  have : way = 0 ∨ way = 1 ∨ way = 2 := by omega
  rcases this with rfl | rfl | rfl <;> decide
theorem catR_lt {w way : Nat} (hw : w < 8388608) (h : way < 3) : catR w way < 2048 := remN_lt11 (bd_xor 23 hw (catB_lt h))
theorem catE_lt {w way : Nat} (hw : w < 8388608) (h : way < 3) : catE w way < 8388608 := bd_or 23 (Nat.lt_trans (catR_lt hw h) (by decide)) (catB_lt h)
def trpV (w j r way : Nat) : Int32 := if j = 0 then nI r else if j = 1 then nI way else nI (trnN (catE (trnN w r) way) (23 - r))
def trpW (w j r : Nat) (d : Int32) : Nat → Int32
  | 0 => d
  | k + 1 => if catOk (trnN w r) (2 - k) = true then trpV w j r (2 - k) else trpW w j r d k
def trpT (w j : Nat) : Nat → Int32
  | 0 => -6
  | k + 1 => trpW w j (22 - k) (trpT w j k) 3
def mTrapped (x y : Int32) : Int32 := if blw x 8388608 = true ∧ blw y 3 = true then trpT (cl x) (cl y) 23 else -2
def wdnN (w : Nat) : Nat := w ||| ((wtN w % 2) <<< 23)
def mWide (x : Int32) : Int32 := if blw x 4096 = true then nI (wdnN (madeN (cl x))) else -2
theorem wdn_lt {w : Nat} (h : w < 8388608) : wdnN w < 16777216 := by
  refine bd_or 24 (Nat.lt_trans h (by decide)) ?_
  rw [Nat.shiftLeft_eq]
  have := Nat.mod_lt (wtN w) (show 2 > 0 by decide)
  omega
def mRead (E : Nat → Nat) (x y : Int32) : Int32 := if blw x 16777216 = true ∧ blw y 2 = true then (if wtN (wdnN (nearE E (cl x % 8388608)) ^^^ cl x) ≤ 3 then (if cl y = 0 then nI (nearE E (cl x % 8388608) >>> 11) else nI (wtN (wdnN (nearE E (cl x % 8388608)) ^^^ cl x))) else -6) else -2
def kepN (a b : Nat) : Bool := (List.range 12).all (fun i => decide (remN (carN (madeN (1 <<< i)) a b) = 0))
theorem kep_f {a b i : Nat} (hi : i < 12) (h : ¬ remN (carN (madeN (1 <<< i)) a b) = 0) : kepN a b = false := Bool.eq_false_iff.mpr (fun q => h (of_decide_eq_true (List.all_eq_true.mp q i (List.mem_range.mpr hi))))
theorem kep_t {a b : Nat} (h : ∀ i, i < 12 → remN (carN (madeN (1 <<< i)) a b) = 0) : kepN a b = true := List.all_eq_true.mpr (fun i hi => decide_eq_true (h i (List.mem_range.mp hi)))
theorem shl_4096 {k : Nat} (h : k < 12) : 1 <<< k < 4096 := by
  rw [Nat.shiftLeft_eq, Nat.one_mul]
  exact Nat.pow_lt_pow_right (by decide) h
def mKeeps (x y : Int32) : Int32 := if mvOk x y = true then (if kepN (cl x) (cl y) = true then nI 1 else nI 0) else -2
def mMoved (x y z : Int32) : Int32 := if blw x 8388608 = true ∧ mvOk y z = true then nI (carN (cl x) (cl y) (cl z)) else -2
theorem mv_ex {x y : Int32} (h : mvOk x y = true) : ∃ a b : Nat, 0 < a ∧ a < 23 ∧ b < 23 ∧ x = nI a ∧ y = nI b := by
  obtain ⟨h1, h2, h3⟩ := of_decide_eq_true h
  obtain ⟨a, ha, rfl⟩ := blw_ex h2 (by decide)
  obtain ⟨b, hb, rfl⟩ := blw_ex h3 (by decide)
  refine ⟨a, b, Nat.pos_of_ne_zero (fun q => h1 (by rw [q]; rfl)), ha, hb, rfl, rfl⟩
theorem mv_nI {a b : Nat} (h0 : 0 < a) (ha : a < 23) (hb : b < 23) : mvOk (nI a) (nI b) = true := decide_eq_true ⟨nI_ne0 h0 (by omega), blw_j ha (by decide), blw_j hb (by decide)⟩
