/-! bitCount is the weight: byte by byte -/
theorem tb_split (k a : Nat) {b : Nat} (hb : b < 2 ^ k) (j : Nat) : (2 ^ k * a + b).testBit j = if j < k then b.testBit j else a.testBit (j - k) := Nat.testBit_two_pow_mul_add a hb j
theorem and_split (k : Nat) {y u M t : Nat} (hu : u < 2 ^ k) (ht : t < 2 ^ k) : (2 ^ k * y + u) &&& (2 ^ k * M + t) = 2 ^ k * (y &&& M) + (u &&& t) := by
  apply Nat.eq_of_testBit_eq
  intro j
  rw [Nat.testBit_and, tb_split k y hu, tb_split k M ht, tb_split k _ (Nat.lt_of_le_of_lt Nat.and_le_left hu)]
  split
  · rw [Nat.testBit_and]
  · rw [Nat.testBit_and]
theorem shr_split (k s : Nat) {y u : Nat} (hs : s ≤ k) : (2 ^ k * y + u) >>> s = 2 ^ (k - s) * y + u >>> s := by
  rw [Nat.shiftRight_eq_div_pow, Nat.shiftRight_eq_div_pow]
  have e : 2 ^ k = 2 ^ s * 2 ^ (k - s) := by rw [← Nat.pow_add]; congr 1; omega
  rw [e, Nat.mul_assoc, Nat.mul_add_div (Nat.two_pow_pos s)]
theorem and_mul (s y M : Nat) : y &&& (2 ^ s * M) = 2 ^ s * ((y >>> s) &&& M) := by
  apply Nat.eq_of_testBit_eq
  intro j
  have h1 : (2 ^ s * M).testBit j = if j < s then false else M.testBit (j - s) := by
    have := tb_split s M (b := 0) (Nat.two_pow_pos s) j
    rw [Nat.add_zero] at this
    rw [this, Nat.zero_testBit]
  have h2 : (2 ^ s * ((y >>> s) &&& M)).testBit j = if j < s then false else ((y >>> s) &&& M).testBit (j - s) := by
    have := tb_split s ((y >>> s) &&& M) (b := 0) (Nat.two_pow_pos s) j
    rw [Nat.add_zero] at this
    rw [this, Nat.zero_testBit]
  rw [Nat.testBit_and, h1, h2]
  split
  · simp
  · rename_i hj
    rw [Nat.testBit_and, Nat.testBit_shiftRight, show s + (j - s) = j by omega]
theorem shr_and_split (k s : Nat) {y u M t : Nat} (hu : u < 2 ^ k) (hs : s ≤ k) (ht : t < 2 ^ (k - s)) : (2 ^ k * y + u) >>> s &&& (2 ^ k * M + t) = 2 ^ k * ((y >>> s) &&& M) + (u >>> s &&& t) := by
  have e : 2 ^ k = 2 ^ (k - s) * 2 ^ s := by rw [← Nat.pow_add]; congr 1; omega
  have hu2 : u >>> s < 2 ^ (k - s) := by
    rw [Nat.shiftRight_eq_div_pow]
    exact Nat.div_lt_of_lt_mul (by rw [Nat.mul_comm, ← e]; exact hu)
  rw [shr_split k s hs]
  conv => lhs; rw [e, Nat.mul_assoc (2 ^ (k - s)) (2 ^ s) M]
  rw [and_split (k - s) hu2 ht, and_mul s y M, ← Nat.mul_assoc, ← e]
/-- one bit of a number in two parts -/
theorem bit_lo (k q : Nat) {y u : Nat} (hu : u < 2 ^ k) (hq : q < k) : (2 ^ k * y + u) >>> q &&& 1 = u >>> q &&& 1 := by
  have h := shr_and_split k q (y := y) (u := u) (M := 0) (t := 1) hu (by omega) (by
    have : 2 ^ 1 ≤ 2 ^ (k - q) := Nat.pow_le_pow_right (by decide) (by omega)
    omega)
  rw [Nat.mul_zero, Nat.zero_add, Nat.and_zero, Nat.mul_zero, Nat.zero_add] at h
  exact h
theorem bit_hi (k q : Nat) {y u : Nat} (hu : u < 2 ^ k) : (2 ^ k * y + u) >>> (k + q) &&& 1 = y >>> q &&& 1 := by
  rw [Nat.shiftRight_add, shr_split k k (Nat.le_refl k), Nat.sub_self, Nat.pow_zero, Nat.one_mul]
  have : u >>> k = 0 := by rw [Nat.shiftRight_eq_div_pow]; exact Nat.div_eq_of_lt hu
  rw [this, Nat.add_zero]
theorem wtL_lo (k : Nat) {y u : Nat} (hu : u < 2 ^ k) : ∀ j, j ≤ k → wtL (2 ^ k * y + u) j = wtL u j
  | 0, _ => rfl
  | j + 1, h => by rw [wtL, wtL, wtL_lo k hu j (by omega), bit_lo k j hu (by omega)]
theorem wtL_hi (k : Nat) {y u : Nat} (hu : u < 2 ^ k) : ∀ j, wtL (2 ^ k * y + u) (k + j) = wtL u k + wtL y j
  | 0 => by rw [Nat.add_zero, wtL_lo k hu k (Nat.le_refl k)]; rfl
  | j + 1 => by rw [← Nat.add_assoc, wtL, wtL_hi k hu j, bit_hi k j hu, wtL, Nat.add_assoc]
theorem wtN_bytes {x0 x1 x2 : Nat} (h0 : x0 < 256) (h1 : x1 < 256) : wtN (2 ^ 8 * (2 ^ 8 * x2 + x1) + x0) = wtL x0 8 + (wtL x1 8 + wtL x2 8) := by
  unfold wtN
  rw [show 24 = 8 + (8 + 8) from rfl, wtL_hi 8 h0, wtL_hi 8 h1]
/-- the steps of bitCount on a byte -/
def bA (v : Nat) : Nat := v - (v >>> 1 &&& 85)
def bB (v : Nat) : Nat := (bA v &&& 51) + (bA v >>> 2 &&& 51)
theorem byte_ok : ∀ v, v < 256 → ((v >>> 1 &&& 85) ≤ v ∧ bA v < 256 ∧ bB v ≤ 68 ∧ bB v % 16 ≤ 4 ∧ (bB v + bB v >>> 4) % 16 = wtL v 8) := by decide +kernel
theorem bc_a {x0 x1 x2 : Nat} (h0 : x0 < 256) (h1 : x1 < 256) (h2 : x2 < 256) : (2 ^ 8 * (2 ^ 8 * x2 + x1) + x0) - ((2 ^ 8 * (2 ^ 8 * x2 + x1) + x0) >>> 1 &&& 1431655765) = 2 ^ 8 * (2 ^ 8 * bA x2 + bA x1) + bA x0 := by
  have e : (2 ^ 8 * (2 ^ 8 * x2 + x1) + x0) >>> 1 &&& 1431655765 = 2 ^ 8 * (2 ^ 8 * (x2 >>> 1 &&& 85) + (x1 >>> 1 &&& 85)) + (x0 >>> 1 &&& 85) := by
    rw [show (1431655765 : Nat) = 2 ^ 8 * (2 ^ 8 * (2 ^ 8 * 85 + 85) + 85) + 85 from rfl, shr_and_split 8 1 h0 (by decide) (by decide), shr_and_split 8 1 h1 (by decide) (by decide)]
    congr 3
    have := shr_and_split 8 1 (y := 0) (u := x2) (M := 85) (t := 85) h2 (by decide) (by decide)
    rw [Nat.mul_zero, Nat.zero_add] at this
    rw [this, Nat.zero_shiftRight, Nat.zero_and, Nat.mul_zero, Nat.zero_add]
  rw [e]
  have a0 := (byte_ok x0 h0).1
  have a1 := (byte_ok x1 h1).1
  have a2 := (byte_ok x2 h2).1
  unfold bA
  omega
theorem and3 {a0 a1 a2 : Nat} (h0 : a0 < 256) (h1 : a1 < 256) (h2 : a2 < 256) : (2 ^ 8 * (2 ^ 8 * a2 + a1) + a0) &&& 858993459 = 2 ^ 8 * (2 ^ 8 * (a2 &&& 51) + (a1 &&& 51)) + (a0 &&& 51) := by
  rw [show (858993459 : Nat) = 2 ^ 8 * (2 ^ 8 * (2 ^ 8 * 51 + 51) + 51) + 51 from rfl, and_split 8 h0 (by decide), and_split 8 h1 (by decide)]
  congr 3
  have := and_split 8 (y := 0) (u := a2) (M := 51) (t := 51) h2 (by decide)
  rw [Nat.mul_zero, Nat.zero_add] at this
  rw [this, Nat.zero_and, Nat.mul_zero, Nat.zero_add]
theorem shr3 {a0 a1 a2 : Nat} (h0 : a0 < 256) (h1 : a1 < 256) (h2 : a2 < 256) : (2 ^ 8 * (2 ^ 8 * a2 + a1) + a0) >>> 2 &&& 858993459 = 2 ^ 8 * (2 ^ 8 * (a2 >>> 2 &&& 51) + (a1 >>> 2 &&& 51)) + (a0 >>> 2 &&& 51) := by
  rw [show (858993459 : Nat) = 2 ^ 8 * (2 ^ 8 * (2 ^ 8 * 51 + 51) + 51) + 51 from rfl, shr_and_split 8 2 h0 (by decide) (by decide), shr_and_split 8 2 h1 (by decide) (by decide)]
  congr 3
  have := shr_and_split 8 2 (y := 0) (u := a2) (M := 51) (t := 51) h2 (by decide) (by decide)
  rw [Nat.mul_zero, Nat.zero_add] at this
  rw [this, Nat.zero_shiftRight, Nat.zero_and, Nat.mul_zero, Nat.zero_add]
theorem and15 {v : Nat} : v &&& 15 = v % 16 := Nat.and_two_pow_sub_one_eq_mod v 4
theorem bc_c {b0 b1 b2 : Nat} (h0 : b0 ≤ 68) (h1 : b1 ≤ 68) (h2 : b2 ≤ 68) (g1 : b1 % 16 ≤ 4) (g2 : b2 % 16 ≤ 4) : ((2 ^ 8 * (2 ^ 8 * b2 + b1) + b0) + (2 ^ 8 * (2 ^ 8 * b2 + b1) + b0) >>> 4) &&& 252645135 = 2 ^ 8 * (2 ^ 8 * ((b2 + b2 >>> 4) % 16) + (b1 + b1 >>> 4) % 16) + (b0 + b0 >>> 4) % 16 := by
  have s0 : b0 >>> 4 = b0 / 16 := Nat.shiftRight_eq_div_pow b0 4
  have s1 : b1 >>> 4 = b1 / 16 := Nat.shiftRight_eq_div_pow b1 4
  have s2 : b2 >>> 4 = b2 / 16 := Nat.shiftRight_eq_div_pow b2 4
  have e : (2 ^ 8 * (2 ^ 8 * b2 + b1) + b0) + (2 ^ 8 * (2 ^ 8 * b2 + b1) + b0) >>> 4 = 2 ^ 8 * (2 ^ 8 * (b2 + b2 / 16) + (16 * (b2 % 16) + b1 + b1 / 16)) + (16 * (b1 % 16) + b0 + b0 / 16) := by
    rw [Nat.shiftRight_eq_div_pow]
    omega
  rw [e, show (252645135 : Nat) = 2 ^ 8 * (2 ^ 8 * (2 ^ 8 * 15 + 15) + 15) + 15 from rfl, and_split 8 (by omega) (by decide), and_split 8 (by omega) (by decide)]
  have t := and_split 8 (y := 0) (u := b2 + b2 / 16) (M := 15) (t := 15) (by omega) (by decide)
  rw [Nat.mul_zero, Nat.zero_add, Nat.zero_and, Nat.mul_zero, Nat.zero_add] at t
  rw [t, and15, and15, and15, s0, s1, s2]
  omega
theorem bc_end {c0 c1 c2 : Nat} (h0 : c0 ≤ 8) (h1 : c1 ≤ 8) (h2 : c2 ≤ 8) : (((2 ^ 8 * (2 ^ 8 * c2 + c1) + c0) + (2 ^ 8 * (2 ^ 8 * c2 + c1) + c0) >>> 8) + ((2 ^ 8 * (2 ^ 8 * c2 + c1) + c0) + (2 ^ 8 * (2 ^ 8 * c2 + c1) + c0) >>> 8) >>> 16) &&& 63 = c0 + (c1 + c2) := by
  rw [show (63 : Nat) = 2 ^ 6 - 1 from rfl, Nat.and_two_pow_sub_one_eq_mod]
  have e1 : (2 ^ 8 * (2 ^ 8 * c2 + c1) + c0) >>> 8 = 2 ^ 8 * c2 + c1 := by rw [Nat.shiftRight_eq_div_pow]; omega
  rw [e1]
  have e2 : (2 ^ 8 * (2 ^ 8 * c2 + c1) + c0 + (2 ^ 8 * c2 + c1)) >>> 16 = c2 := by rw [Nat.shiftRight_eq_div_pow]; omega
  rw [e2]
  omega
theorem bcN_wtN {x : Nat} (hx : x < 16777216) : bcN x = wtN x := by
  obtain ⟨x0, x1, x2, h0, h1, h2, rfl⟩ : ∃ x0 x1 x2 : Nat, x0 < 256 ∧ x1 < 256 ∧ x2 < 256 ∧ x = 2 ^ 8 * (2 ^ 8 * x2 + x1) + x0 := ⟨x % 256, x / 256 % 256, x / 65536, by omega, by omega, by omega, by omega⟩
  obtain ⟨-, p0, q0, r0, z0⟩ := byte_ok x0 h0
  obtain ⟨-, p1, q1, r1, z1⟩ := byte_ok x1 h1
  obtain ⟨-, p2, q2, r2, z2⟩ := byte_ok x2 h2
  rw [wtN_bytes h0 h1, ← z0, ← z1, ← z2]
  show (let a := _; let b := (a &&& 858993459) + (a >>> 2 &&& 858993459); let c := (b + b >>> 4) &&& 252645135; let d := c + c >>> 8; let e := d + d >>> 16; e &&& 63) = _
  rw [bc_a h0 h1 h2]
  dsimp only
  rw [and3 p0 p1 p2, shr3 p0 p1 p2]
  have eb : 2 ^ 8 * (2 ^ 8 * (bA x2 &&& 51) + (bA x1 &&& 51)) + (bA x0 &&& 51) + (2 ^ 8 * (2 ^ 8 * (bA x2 >>> 2 &&& 51) + (bA x1 >>> 2 &&& 51)) + (bA x0 >>> 2 &&& 51)) = 2 ^ 8 * (2 ^ 8 * bB x2 + bB x1) + bB x0 := by
    unfold bB
    omega
  have w0 := wtL_le x0 8
  have w1 := wtL_le x1 8
  have w2 := wtL_le x2 8
  rw [← z0] at w0
  rw [← z1] at w1
  rw [← z2] at w2
  rw [eb, bc_c q0 q1 q2 r1 r2]
  exact bc_end w0 w1 w2
