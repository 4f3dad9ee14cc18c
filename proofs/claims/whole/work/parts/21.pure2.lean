/-! the mirrors of the reference's methods over its state X (40 ints), images Y (80), kept K, tries C -/
def mMoveR (X : Nat → Nat) (x y : Int32) : Int32 := if mvOk x y = true then (if kepN (cl x) (cl y) = true then (if X 0 = 8 then -4 else nI (X 0)) else -5) else -2
def mMoveX (X : Nat → Nat) (x y : Int32) : Nat → Nat := if mvOk x y = true ∧ kepN (cl x) (cl y) = true ∧ ¬ X 0 = 8 then va_up (va_up (va_up X (1 + X 0) (cl x)) (9 + X 0) (cl y)) 0 (X 0 + 1) else X
theorem up_ne {F : Nat → Nat} {k x j : Nat} (h : j ≠ k) : va_up F k x j = F j := if_neg h
theorem up_eq {F : Nat → Nat} {k x : Nat} : va_up F k x k = x := if_pos rfl
def drpS (X : Nat → Nat) (d : Nat) : Nat → Nat := va_up (va_up X (1 + d) (X (1 + d + 1))) (9 + d) (va_up X (1 + d) (X (1 + d + 1)) (9 + d + 1))
def drpF (X : Nat → Nat) (d : Nat) : Nat → (Nat → Nat)
  | 0 => X
  | k + 1 => drpS (drpF X d k) (d + k)
theorem drpF_0 (X : Nat → Nat) (d : Nat) : ∀ k, drpF X d k 0 = X 0
  | 0 => rfl
  | k + 1 => by
    show va_up _ _ _ 0 = _
    rw [up_ne (by omega), up_ne (by omega), drpF_0 X d k]
def mDropR (X : Nat → Nat) (x : Int32) : Int32 := if blw x (X 0) = true then nI (X 0 - 1) else -1
def mDropX (X : Nat → Nat) (x : Int32) : Nat → Nat := if blw x (X 0) = true then va_up (drpF X (cl x) (X 0 - 1 - cl x)) 0 (X 0 - 1) else X
def brX (X : Nat → Nat) (k q : Nat) : Bool := decide (tgtN q (X (1 + k)) (X (9 + k)) < 11)
def covF (X : Nat → Nat) (a b d : Nat) : Nat → Nat
  | 0 => X 0
  | k + 1 => if brX X (X 0 - (k + 1)) a = true ∧ brX X (X 0 - (k + 1)) b = true ∧ brX X (X 0 - (k + 1)) d = true then X 0 - (k + 1) else covF X a b d k
def covX (X : Nat → Nat) (a b d : Nat) : Nat := covF X a b d (X 0)
theorem covF_le (X : Nat → Nat) (a b d : Nat) : ∀ k, covF X a b d k ≤ X 0
  | 0 => Nat.le_refl _
  | k + 1 => by
    rw [covF]
    split
    · omega
    · exact covF_le X a b d k
def triS (X : Nat → Nat) (mv a b d : Nat) (z : Nat × Int32) : Nat × Int32 := if covX X a b d = mv then (z.1 + 1, if z.1 = 0 then nI (529 * a + 23 * b + d) else z.2) else z
def triR (X : Nat → Nat) (mv a b : Nat) : Nat → Nat × Int32 → Nat × Int32
  | 0, z => z
  | k + 1, z => triR X mv a b k (triS X mv a b (22 - k) z)
def triQ (X : Nat → Nat) (mv a : Nat) : Nat → Nat × Int32 → Nat × Int32
  | 0, z => z
  | k + 1, z => triQ X mv a k (triR X mv a (22 - k) k z)
def triP (X : Nat → Nat) (mv : Nat) : Nat → Nat × Int32 → Nat × Int32
  | 0, z => z
  | k + 1, z => triP X mv k (triQ X mv (22 - k) k z)
def triA (X : Nat → Nat) (mv : Nat) : Nat × Int32 := triP X mv 23 (0, -6)
def mToldR (X : Nat → Nat) (x y : Int32) : Int32 := if blw x (X 0) = true then (if blw y 3 = true then (if cl y = 0 then nI (X (1 + cl x)) else if cl y = 1 then nI (X (9 + cl x)) else nI (triA X (cl x)).1) else -2) else -1
def mToldT (X : Nat → Nat) (x y : Int32) (tr : Nat) : Nat := if blw x (X 0) = true ∧ blw y 3 = true then (triA X (cl x)).1 else tr
def mToldF (X : Nat → Nat) (x y : Int32) (fi : Int32) : Int32 := if blw x (X 0) = true ∧ blw y 3 = true then (triA X (cl x)).2 else fi
def mOpenR (X : Nat → Nat) (x : Int32) : Int32 := if blw x 2 = true then (if cl x = 0 then nI (triA X (X 0)).1 else (triA X (X 0)).2) else -2
def mOpenT (X : Nat → Nat) (x : Int32) (tr : Nat) : Nat := if blw x 2 = true then (triA X (X 0)).1 else tr
def mOpenF (X : Nat → Nat) (x : Int32) (fi : Int32) : Int32 := if blw x 2 = true then (triA X (X 0)).2 else fi
def frdR (X : Nat → Nat) (w i : Nat) : Nat := remN (carN w (X (1 + i)) (X (9 + i)))
def frdF (X : Nat → Nat) (w j : Nat) : Nat → Int32
  | 0 => -6
  | k + 1 => if wtN (frdR X w (X 0 - (k + 1))) ≤ 3 then (if j = 0 then nI (X 0 - (k + 1)) else nI (bakN (frdR X w (X 0 - (k + 1))) (X (1 + (X 0 - (k + 1)))) (X (9 + (X 0 - (k + 1)))))) else frdF X w j k
def mFreed (X : Nat → Nat) (x y : Int32) : Int32 := if blw x 8388608 = true ∧ blw y 2 = true then frdF X (cl x) (cl y) (X 0) else -2
def mSureR (X : Nat → Nat) (x y : Int32) : Int32 := if blw x 23 = true ∧ blw y 10 = true then nI (X (17 + cl x)) else -2
def mSureX (X : Nat → Nat) (x y : Int32) : Nat → Nat := if blw x 23 = true ∧ blw y 10 = true then va_up X (17 + cl x) (cl y) else X
def ahdP (X : Nat → Nat) (a k : Nat) : Prop := X (17 + k) < X (17 + a) ∨ (X (17 + k) = X (17 + a) ∧ k < a)
theorem ahdP_f {X : Nat → Nat} {a k : Nat} (h1 : X (17 + a) ≤ X (17 + k)) (h2 : ¬ (X (17 + k) = X (17 + a) ∧ k < a)) : ¬ ahdP X a k := fun h => h.elim (fun q => absurd q (Nat.not_lt.mpr h1)) h2
def ahdB (X : Nat → Nat) (a k : Nat) : Bool := decide (X (17 + k) < X (17 + a)) || (decide (X (17 + k) = X (17 + a)) && decide (k < a))
theorem ahdB_t {X : Nat → Nat} {a k : Nat} (h : ahdP X a k) : ahdB X a k = true := by
  unfold ahdB
  rcases h with h | h
  · simp [h]
  · simp [h.1, h.2]
theorem ahdB_f {X : Nat → Nat} {a k : Nat} (h : ¬ ahdP X a k) : ahdB X a k = false := by
  unfold ahdB
  have h1 : ¬ X (17 + k) < X (17 + a) := fun q => h (Or.inl q)
  have h2 : ¬ (X (17 + k) = X (17 + a) ∧ k < a) := fun q => h (Or.inr q)
  simp [h1]
  omega
def ahdL (X : Nat → Nat) (a : Nat) : Nat → Nat
  | 0 => 0
  | k + 1 => ahdL X a k + (ahdB X a k).toNat
theorem ahdL_le (X : Nat → Nat) (a : Nat) : ∀ k, ahdL X a k ≤ k
  | 0 => Nat.le_refl 0
  | k + 1 => Nat.add_le_add (ahdL_le X a k) (by cases ahdB X a k <;> decide)
def wkL (X : Nat → Nat) (j : Nat) : Nat → Int32
  | 0 => -6
  | k + 1 => if ahdL X k 23 = j then nI k else wkL X j k
def mWeak (X : Nat → Nat) (x : Int32) : Int32 := if blw x 4 = true then wkL X (cl x) 23 else -2
def losL (X : Nat → Nat) (v : Nat) : Nat → Nat
  | 0 => 0
  | k + 1 => losL X v k + (v >>> k &&& 1) * X (17 + k)
theorem losL_le {X : Nat → Nat} (h : ∀ q, q < 23 → X (17 + q) ≤ 9) (v : Nat) : ∀ k, k ≤ 23 → losL X v k ≤ 9 * k
  | 0, _ => Nat.le_refl 0
  | k + 1, hk => by
    have h1 := losL_le h v k (by omega)
    have h2 : (v >>> k &&& 1) * X (17 + k) ≤ 1 * 9 := Nat.mul_le_mul Nat.and_le_right (h k (by omega))
    rw [losL]
    omega
def tryL (wk : Nat → Nat) (w k : Nat) : Nat → Nat
  | 0 => w
  | j + 1 => tryL wk w k j ^^^ ((k >>> j &&& 1) <<< wk j)
theorem tryL_lt {wk : Nat → Nat} {w k : Nat} (hw : w < 8388608) (h : ∀ j, j < 4 → wk j < 23) : ∀ j, j ≤ 4 → tryL wk w k j < 8388608
  | 0, _ => hw
  | j + 1, hj => bd_xor 23 (tryL_lt hw h j (by omega)) (shl1_lt (h j (by omega)))
def comA (E : Nat → Nat) (wk : Nat → Nat) (w t : Nat) (C : Nat → Nat) : Nat → (Nat → Nat)
  | 0 => C
  | k + 1 => va_up (comA E wk w t C k) k (nearE E (tryL wk w k t))
theorem shl16 {t : Nat} (h : t ≤ 4) : 1 <<< t ≤ 16 := by
  rw [Nat.shiftLeft_eq, Nat.one_mul]
  exact Nat.pow_le_pow_right (n := 2) (by decide) h
theorem comA_lt {E wk C : Nat → Nat} {w t : Nat} (hE : ∀ i, i < 2048 → E i < 8388608) (hwk : ∀ j, j < 4 → wk j < 23) (hw : w < 8388608) (ht : t ≤ 4) (hC : ∀ i, i < 16 → C i < 8388608) : ∀ k i, i < 16 → comA E wk w t C k i < 8388608
  | 0, i, hi => hC i hi
  | k + 1, i, hi => by
    show va_up _ _ _ _ < _
    unfold va_up
    split
    · exact near_lt hE (tryL_lt hw hwk t ht)
    · exact comA_lt hE hwk hw ht hC k i hi
def uqN (C : Nat → Nat) (k : Nat) : Bool := (List.range k).all (fun i => decide (¬ C i = C k))
theorem uq_f {C : Nat → Nat} {k i : Nat} (hi : i < k) (h : C i = C k) : uqN C k = false := Bool.eq_false_iff.mpr (fun q => (of_decide_eq_true (List.all_eq_true.mp q i (List.mem_range.mpr hi))) h)
theorem uq_t {C : Nat → Nat} {k : Nat} (h : ∀ i, i < k → ¬ C i = C k) : uqN C k = true := List.all_eq_true.mpr (fun i hi => decide_eq_true (h i (List.mem_range.mp hi)))
def unlL (C : Nat → Nat) : Nat → Nat
  | 0 => 0
  | k + 1 => unlL C k + (uqN C k).toNat
theorem unlL_le (C : Nat → Nat) : ∀ k, unlL C k ≤ k
  | 0 => Nat.le_refl 0
  | k + 1 => Nat.add_le_add (unlL_le C k) (by cases uqN C k <;> decide)
def bstL (X C : Nat → Nat) (w : Nat) : Nat → Nat
  | 0 => 0
  | k + 1 => if losL X (C (k + 1) ^^^ w) 23 < losL X (C (bstL X C w k) ^^^ w) 23 then k + 1 else bstL X C w k
theorem bstL_le (X C : Nat → Nat) (w : Nat) : ∀ k, bstL X C w k ≤ k
  | 0 => Nat.le_refl 0
  | k + 1 => by
    rw [bstL]
    split
    · exact Nat.le_refl _
    · exact Nat.le_trans (bstL_le X C w k) (Nat.le_succ k)
def chsV (X C : Nat → Nat) (w t j : Nat) : Int32 := if j = 0 then nI (C (bstL X C w (1 <<< t - 1))) else if j = 1 then nI (losL X (C (bstL X C w (1 <<< t - 1)) ^^^ w) 23) else if j = 2 then nI (bstL X C w (1 <<< t - 1)) else nI (unlL C (1 <<< t))
def mChosen (E wk X C : Nat → Nat) (x y z : Int32) : Int32 := if blw x 8388608 = true ∧ blw y 5 = true ∧ blw z 4 = true then chsV X (comA E wk (cl x) (cl y) C (1 <<< cl y)) (cl x) (cl y) (cl z) else -2
def mChosenC (E wk C : Nat → Nat) (x y z : Int32) : Nat → Nat := if blw x 8388608 = true ∧ blw y 5 = true ∧ blw z 4 = true then comA E wk (cl x) (cl y) C (1 <<< cl y) else C
def imgF (X Y : Nat → Nat) (d : Nat) : Nat → (Nat → Nat)
  | 0 => Y
  | k + 1 => va_up (imgF X Y d k) (40 * d + k) (X k)
def mImageR (x : Int32) : Int32 := if blw x 2 = true then nI 1 else -2
def mImageY (X Y : Nat → Nat) (x : Int32) : Nat → Nat := if blw x 2 = true then imgF X Y (cl x) 40 else Y
def mImageK (K : Nat → Nat) (x : Int32) : Nat → Nat := if blw x 2 = true then va_up K (cl x) 1 else K
def rstF (X Y : Nat → Nat) (d : Nat) : Nat → (Nat → Nat)
  | 0 => X
  | k + 1 => va_up (rstF X Y d k) k (Y (40 * d + k))
def mRestoreR (K : Nat → Nat) (x : Int32) : Int32 := if blw x 2 = true then (if K (cl x) = 0 then -3 else nI 1) else -2
def mRestoreX (X Y K : Nat → Nat) (x : Int32) : Nat → Nat := if blw x 2 = true ∧ ¬ K (cl x) = 0 then rstF X Y (cl x) 40 else X
def sumL (X : Nat → Nat) : Nat → Nat
  | 0 => 0
  | k + 1 => sumL X k + X (17 + k)
def mCount (X K : Nat → Nat) (x : Int32) : Int32 := if inI x (nI 10) (nI 33) = true then nI (aroL 0 (cl x - 10) 4096) else if inI x (nI 40) (nI 62) = true then nI (X (17 + cl x - 40)) else if x = nI 0 then nI (X 0) else if x = nI 1 then nI (sumL X 23) else if x = nI 2 then nI ((if K 0 = 0 then 0 else 1) + (if K 1 = 0 then 0 else 2)) else -2
theorem inI_ex2 {x : Int32} {a b : Nat} (h : inI x (nI a) (nI b) = true) (ha : a < 2147483648) (hb : b < 2147483648) : ∃ j : Nat, a ≤ j ∧ j ≤ b ∧ x = nI j := by
  rw [inI_toInt, nI_toInt ha, nI_toInt hb] at h
  obtain ⟨h1, h2⟩ := of_decide_eq_true h
  obtain ⟨j, hj, rfl⟩ := nI_of (x := x) (fun q => by
    have := Int32.lt_iff_toInt_lt.mp q
    rw [Int32.toInt_zero] at this
    omega)
  rw [nI_toInt hj] at h1 h2
  exact ⟨j, by omega, by omega, rfl⟩
theorem triS_n {X : Nat → Nat} {mv a b d : Nat} {z : Nat × Int32} (h : ¬ covX X a b d = mv) : triS X mv a b d z = z := if_neg h
theorem triS_0 {X : Nat → Nat} {mv a b d t : Nat} {f : Int32} (h : covX X a b d = mv) (h0 : t = 0) : triS X mv a b d (t, f) = (t + 1, nI (529 * a + 23 * b + d)) := by
  unfold triS
  rw [if_pos h, if_pos h0]
theorem triS_1 {X : Nat → Nat} {mv a b d t : Nat} {f : Int32} (h : covX X a b d = mv) (h0 : ¬ t = 0) : triS X mv a b d (t, f) = (t + 1, f) := by
  unfold triS
  rw [if_pos h, if_neg h0]
