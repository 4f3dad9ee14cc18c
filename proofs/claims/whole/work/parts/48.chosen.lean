/-! the tries: doubled, or one by one -/
theorem flI_get (D : Nat → Nat) (g q i : Nat) : ∀ n, n ≤ q → flI D g q n i = if q ≤ i ∧ i < q + n then D (i - q) ^^^ g else D i
  | 0, _ => by rw [if_neg (by omega)]; rfl
  | n + 1, hn => by
    rw [flI]
    by_cases e : i = q + n
    · rw [e, up_eq, flI_get D g q n n (by omega), if_neg (by omega), if_pos (by omega), show q + n - q = n by omega]
    · rw [up_ne e, flI_get D g q i n (by omega)]
      by_cases c : q ≤ i ∧ i < q + n
      · rw [if_pos c, if_pos (by omega)]
      · rw [if_neg c, if_neg (by omega)]
theorem tryL_lo (wk : Nat → Nat) (w q i : Nat) (hi : i < 2 ^ q) : ∀ j, j ≤ q → tryL wk w (2 ^ q + i) j = tryL wk w i j
  | 0, _ => rfl
  | j + 1, hj => by
    have := bit_lo q j (y := 1) hi (by omega)
    rw [Nat.mul_one] at this
    rw [tryL, tryL, tryL_lo wk w q i hi j (by omega), this]
theorem one_shl (j : Nat) : 1 <<< j = 2 ^ j := by rw [Nat.shiftLeft_eq, Nat.one_mul]
theorem flO_try (V : Nat → Nat) (w : Nat) (C : Nat → Nat) : ∀ j i, i < 2 ^ j → flO V w C j i = tryL (wsN V) w i j
  | 0, i, hi => by
    have : i = 0 := by rw [Nat.pow_zero] at hi; omega
    rw [this]
    exact up_eq
  | j + 1, i, hi => by
    rw [Nat.pow_succ, Nat.mul_two] at hi
    rw [flO, one_shl j, flI_get _ _ _ _ _ (Nat.le_refl _), tryL]
    by_cases c : 2 ^ j ≤ i
    · rw [if_pos (by omega), flO_try V w C j (i - 2 ^ j) (by omega)]
      have e : i = 2 ^ j + (i - 2 ^ j) := by omega
      have hb : i >>> j &&& 1 = 1 := by
        have := bit_hi j 0 (y := 1) (u := i - 2 ^ j) (by omega)
        rw [Nat.mul_one, Nat.add_zero, ← e] at this
        rw [this]
        rfl
      rw [hb]
      congr 1
      rw [e, tryL_lo _ _ _ _ (by omega) j (Nat.le_refl _), show 2 ^ j + (i - 2 ^ j) - 2 ^ j = i - 2 ^ j by omega]
    · have hb : i >>> j &&& 1 = 0 := by
        rw [Nat.shiftRight_eq_div_pow, Nat.div_eq_of_lt (by omega), Nat.zero_and]
      rw [if_neg (by omega), flO_try V w C j i (by omega), hb, Nat.zero_shiftLeft, Nat.xor_zero]
theorem flN_get (E D : Nat → Nat) : ∀ n i, flN E D n i = if i < n then nearE E (D i) else D i
  | 0, i => by rw [if_neg (Nat.not_lt_zero _)]; rfl
  | n + 1, i => by
    rw [flN]
    by_cases e : i = n
    · rw [e, up_eq, flN_get E D n n, if_neg (Nat.lt_irrefl _), if_pos (Nat.lt_succ_self _)]
    · rw [up_ne e, flN_get E D n i]
      by_cases c : i < n
      · rw [if_pos c, if_pos (by omega)]
      · rw [if_neg c, if_neg (by omega)]
theorem comA_get (E wk : Nat → Nat) (w t : Nat) (C : Nat → Nat) : ∀ n i, comA E wk w t C n i = if i < n then nearE E (tryL wk w i t) else C i
  | 0, i => by rw [if_neg (Nat.not_lt_zero _)]; rfl
  | n + 1, i => by
    rw [comA]
    by_cases e : i = n
    · rw [e, up_eq, if_pos (Nat.lt_succ_self _)]
    · rw [up_ne e, comA_get E wk w t C n i]
      by_cases c : i < n
      · rw [if_pos c, if_pos (by omega)]
      · rw [if_neg c, if_neg (by omega)]
theorem tries_eq (E V C D : Nat → Nat) (w t : Nat) : ∀ i, i < 1 <<< t → flN E (flO V w C t) (1 <<< t) i = comA E (wsN V) w t D (1 <<< t) i := by
  intro i hi
  rw [flN_get, comA_get, if_pos hi, if_pos hi, flO_try V w C t i (by rw [← one_shl]; exact hi)]
theorem uq_congr {C D : Nat → Nat} {k : Nat} (h : ∀ i, i ≤ k → C i = D i) : uqN C k = uqN D k := by
  cases e : uqN D k
  · have : ¬ (∀ i, i < k → ¬ D i = D k) := fun q => by rw [uq_t q] at e; cases e
    rw [Classical.not_forall] at this
    obtain ⟨i, hi⟩ := this
    rw [Classical.not_imp, Classical.not_not] at hi
    exact uq_f hi.1 (by rw [h i (by omega), h k (Nat.le_refl _)]; exact hi.2)
  · refine uq_t (fun i hi q => ?_)
    rw [h i (by omega), h k (Nat.le_refl _)] at q
    rw [uq_f hi q] at e
    cases e
theorem unl_congr {C D : Nat → Nat} : ∀ n, (∀ i, i < n → C i = D i) → unlL C n = unlL D n
  | 0, _ => rfl
  | n + 1, h => by rw [unlL, unlL, unl_congr n (fun i hi => h i (by omega)), uq_congr (fun i hi => h i (by omega))]
theorem sm_los {V X : Nat → Nat} (h : ∀ q, q < 23 → X (17 + q) = V q) (v : Nat) : ∀ k, k ≤ 23 → smL V v k = losL X v k
  | 0, _ => rfl
  | k + 1, hk => by
    rw [smL, losL, sm_los h v k (by omega), h k (by omega)]
    by_cases c : v >>> k &&& 1 = 1
    · rw [if_pos c, c, Nat.one_mul]
    · have : v >>> k &&& 1 < 2 := Nat.lt_of_le_of_lt Nat.and_le_right (by decide)
      rw [if_neg c, show v >>> k &&& 1 = 0 by omega, Nat.zero_mul, Nat.add_zero]
theorem bt_bst {V X C D : Nat → Nat} (h : ∀ q, q < 23 → X (17 + q) = V q) (w : Nat) : ∀ k, (∀ i, i ≤ k → C i = D i) → btL V C w k = (bstL X D w k, losL X (D (bstL X D w k) ^^^ w) 23)
  | 0, hk => by rw [btL, bstL, sm_los h _ 23 (Nat.le_refl _), hk 0 (Nat.le_refl _)]
  | k + 1, hk => by
    rw [btL, bstL, bt_bst h w k (fun i hi => hk i (by omega)), sm_los h _ 23 (Nat.le_refl _), hk (k + 1) (Nat.le_refl _)]
    by_cases c : losL X (D (k + 1) ^^^ w) 23 < losL X (D (bstL X D w k) ^^^ w) 23
    · rw [if_pos c, if_pos c]
    · rw [if_neg c, if_neg c]
theorem E_chosen {kp : Nat} {n0 : Nat} {F : Nat → Nat} {S : Nat → Nat} {B : Nat → Nat} {V : Nat → Nat} {n1 : Nat} {F1 : Nat → Nat} {S1 : Nat → Nat} {B1 : Nat → Nat} {V1 : Nat → Nat} {n2 : Nat} {F2 : Nat → Nat} {S2 : Nat → Nat} {B2 : Nat → Nat} {V2 : Nat → Nat} {C : Nat → Nat} {X : Nat → Nat} {Y : Nat → Nat} {K : Nat → Nat} {D : Nat → Nat} (h : LR kp n0 F S B V n1 F1 S1 B1 V1 n2 F2 S2 B2 V2 C X Y K D) (x y z : Int32) : cChosen errT V C x y z = mChosen errT (wsN V) X D x y z := by
  unfold cChosen mChosen
  by_cases g : blw x 8388608 = true ∧ blw y 5 = true ∧ blw z 4 = true
  · rw [if_pos g, if_pos g]
    obtain ⟨w, hw, rfl⟩ := blw_ex g.1 (by decide)
    obtain ⟨t, ht, rfl⟩ := blw_ex g.2.1 (by decide)
    obtain ⟨j, hj, rfl⟩ := blw_ex g.2.2 (by decide)
    rw [cl_nI hw (by decide), cl_nI ht (by decide), cl_nI hj (by decide)]
    have te := tries_eq errT V C D w t
    have h01 : 1 ≤ 1 <<< t := by rw [one_shl]; exact Nat.one_le_two_pow
    have hV := fun q hq => (h.1.2.2.2 q hq).1
    generalize flN errT (flO V w C t) (1 <<< t) = C' at te ⊢
    generalize comA errT (wsN V) w t D (1 <<< t) = D' at te ⊢
    have hb := bt_bst (V := V) (X := X) (C := C') (D := D') hV w (1 <<< t - 1) (fun i hi => te i (by omega))
    have hle := bstL_le X D' w (1 <<< t - 1)
    unfold chcV chsV
    rw [hb, unl_congr _ te, sm_los hV _ 23 (Nat.le_refl _)]
    show (if j = 3 then _ else if j = 2 then nI (bstL X D' w (1 <<< t - 1)) else if j = 0 then nI (C' (bstL X D' w (1 <<< t - 1))) else nI (losL X (C' (bstL X D' w (1 <<< t - 1)) ^^^ w) 23)) = _
    rw [te _ (by omega)]
    rcases (show j = 0 ∨ j = 1 ∨ j = 2 ∨ j = 3 by omega) with rfl | rfl | rfl | rfl
    · rw [if_neg (by decide), if_neg (by decide), if_pos rfl, if_pos rfl]
    · rw [if_neg (by decide), if_neg (by decide), if_neg (by decide), if_neg (by decide), if_pos rfl]
    · rw [if_neg (by decide), if_pos rfl, if_neg (by decide), if_neg (by decide), if_pos rfl]
    · rw [if_pos rfl, if_neg (by decide), if_neg (by decide), if_neg (by decide)]
  · rw [if_neg g, if_neg g]
