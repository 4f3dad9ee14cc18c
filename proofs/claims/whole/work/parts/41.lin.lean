/-! REST is linear; turning; the ways of trapping -/
theorem and1_tb (v p : Nat) : (v >>> p &&& 1 = 1) ↔ v.testBit p = true := by
  rw [Nat.testBit, Nat.and_comm, bne_iff_ne]
  have : 1 &&& v >>> p < 2 := Nat.lt_of_le_of_lt Nat.and_le_left (by decide)
  omega
theorem and1_0 (v p : Nat) : (v >>> p &&& 1 = 0) ↔ v.testBit p = false := by
  rw [Nat.testBit, Nat.and_comm, bne_eq_false_iff_eq]
theorem remStep_tb (v p : Nat) : remStep v p = if v.testBit p = true then v ^^^ (3189 <<< (p - 11)) else v := by
  unfold remStep
  by_cases h : v.testBit p = true
  · rw [if_pos ((and1_tb v p).mpr h), if_pos h]
  · rw [if_neg (fun q => h ((and1_tb v p).mp q)), if_neg h]
theorem xor_kk (x y k : Nat) : (x ^^^ k) ^^^ (y ^^^ k) = x ^^^ y := by
  rw [Nat.xor_comm y k, ← Nat.xor_assoc, Nat.xor_assoc x k k, Nat.xor_self, Nat.xor_zero]
theorem remStep_xor (x y p : Nat) : remStep (x ^^^ y) p = remStep x p ^^^ remStep y p := by
  rw [remStep_tb, remStep_tb, remStep_tb, Nat.testBit_xor]
  cases x.testBit p <;> cases y.testBit p <;> simp
  · rw [Nat.xor_assoc]
  · rw [Nat.xor_assoc, Nat.xor_comm y, ← Nat.xor_assoc]
  · exact (xor_kk x y _).symm
theorem remL_xor : ∀ n x y, remL n (x ^^^ y) = remL n x ^^^ remL n y
  | 0, _, _ => rfl
  | n + 1, x, y => by rw [remL_succ, remL_succ, remL_succ, remStep_xor, remL_xor n]
theorem remN_xor (x y : Nat) : remN (x ^^^ y) = remN x ^^^ remN y := remL_xor 12 x y
theorem codedN_madeN {k : Nat} (h : k < 4096) : codedN k = madeN k := by
  unfold codedN madeN
  rw [Nat.shiftLeft_add_eq_or_of_lt (remN_lt11 (shl11_lt h))]
theorem tb_lt {w k i : Nat} (hw : w < 2 ^ k) (hi : k ≤ i) : w.testBit i = false := Nat.testBit_lt_two_pow (Nat.lt_of_lt_of_le hw (Nat.pow_le_pow_right (by decide) hi))
/-- one bit, shifted to a place -/
theorem tb_bit (w k t i : Nat) : ((w >>> k &&& 1) <<< t).testBit i = (decide (i = t) && w.testBit k) := by
  rw [Nat.testBit_shiftLeft]
  by_cases h : i = t
  · subst h
    have e : decide (i ≥ i) = true := decide_eq_true (Nat.le_refl i)
    rw [e, Nat.sub_self]
    have : (w >>> k &&& 1).testBit 0 = w.testBit k := by
      rw [Nat.testBit_and, Nat.testBit_shiftRight, Nat.add_zero]
      simp
    rw [this]
    simp
  · have e : decide (i = t) = false := decide_eq_false h
    rw [e]
    by_cases g : i ≥ t
    · have : (w >>> k &&& 1).testBit (i - t) = false := tb_lt (k := 1) (Nat.lt_of_le_of_lt Nat.and_le_right (by decide)) (by omega)
      rw [this]; simp
    · have : decide (i ≥ t) = false := decide_eq_false g
      rw [this]; simp
theorem trnL_tb (w r : Nat) (hr : r ≤ 23) (i : Nat) (hi : i < 23) : ∀ k, k ≤ 23 → (trnL w r k).testBit i = (decide ((i + 23 - r) % 23 < k) && w.testBit ((i + 23 - r) % 23))
  | 0, _ => by simp [trnL]
  | k + 1, hk => by
    rw [trnL, Nat.testBit_or, trnL_tb w r hr i hi k (by omega), tb_bit]
    by_cases h : (i + 23 - r) % 23 = k
    · have e1 : i = (k + r) % 23 := by omega
      rw [h, decide_eq_true e1]
      simp
    · have e1 : ¬ i = (k + r) % 23 := by omega
      rw [decide_eq_false e1]
      have e2 : decide ((i + 23 - r) % 23 < k + 1) = decide ((i + 23 - r) % 23 < k) := by
        rw [decide_eq_decide]; omega
      rw [e2]
      simp
theorem turn_trn {w r : Nat} (hw : w < 8388608) (hr : r ≤ 23) : turnN w r = trnN w r := by
  apply Nat.eq_of_testBit_eq
  intro i
  by_cases hi : i < 23
  · unfold trnN turnN
    rw [trnL_tb w r hr i hi 23 (Nat.le_refl _), Nat.testBit_and, Nat.testBit_or, Nat.testBit_shiftLeft, Nat.testBit_shiftRight]
    have e1 : decide ((i + 23 - r) % 23 < 23) = true := decide_eq_true (Nat.mod_lt _ (by decide))
    have e2 : (8388607 : Nat).testBit i = true := by
      rw [show (8388607 : Nat) = 2 ^ 23 - 1 from rfl, Nat.testBit_two_pow_sub_one]
      exact decide_eq_true hi
    rw [e1, e2]
    by_cases g : r ≤ i
    · have e3 : (i + 23 - r) % 23 = i - r := by omega
      have e4 : decide (i ≥ r) = true := decide_eq_true g
      have e5 : w.testBit (23 - r + i) = false := tb_lt (k := 23) hw (by omega)
      rw [e3, e4, e5]; simp
    · have e3 : (i + 23 - r) % 23 = 23 - r + i := by omega
      have e4 : decide (i ≥ r) = false := decide_eq_false g
      rw [e3, e4]; simp
  · rw [tb_lt (k := 23) (turnN_lt w r) (by omega), tb_lt (w := trnN w r) (k := 23) (i := i) (trnL_lt w r 23) (by omega)]
theorem chg_cat {k : Nat} (h : k < 3) : chgN k = catB k := by
  have : k = 0 ∨ k = 1 ∨ k = 2 := by omega
  rcases this with rfl | rfl | rfl <;> decide
theorem err_cat {w k : Nat} (h : k < 3) : errN w k = catE w k := by
  unfold errN catE catR
  rw [chg_cat h]
theorem wt_or : ∀ r, r < 2048 → wtN (r ||| 0) = wtN r ∧ wtN (r ||| 65536) = wtN r + 1 ∧ wtN (r ||| 131072) = wtN r + 1 := by decide +kernel
theorem ok_cat {w k : Nat} (hw : w < 8388608) (h : k < 3) : bcN (errN w k) ≤ 3 ↔ catOk w k = true := by
  rw [bcN_wtN (Nat.lt_trans (errN_lt hw) (by decide)), err_cat h]
  have hr := wt_or (catR w k) (catR_lt hw h)
  unfold catOk catE
  rw [decide_eq_true_iff]
  have : k = 0 ∨ k = 1 ∨ k = 2 := by omega
  rcases this with rfl | rfl | rfl
  · rw [show catB 0 = 0 from rfl, hr.1]; simp
  · rw [show catB 1 = 65536 from rfl, hr.2.1, if_neg (by decide)]; omega
  · rw [show catB 2 = 131072 from rfl, hr.2.2, if_neg (by decide)]; omega
theorem tpV_eq {w j r k : Nat} (hw : w < 8388608) (hr : r < 23) (hk : k < 3) : ctpV w j r k = trpV w j r k := by
  unfold ctpV trpV
  rw [turn_trn hw (by omega), err_cat hk, turn_trn (w := catE (trnN w r) k) (catE_lt (trnL_lt _ _ _) hk) (by omega)]
theorem tpW_eq {w j r : Nat} (d : Int32) (hw : w < 8388608) (hr : r < 23) : ∀ k, k ≤ 3 → ctpW w j r d k = trpW w j r d k
  | 0, _ => rfl
  | k + 1, hk => by
    rw [ctpW, trpW, tpW_eq d hw hr k (by omega), tpV_eq hw hr (by omega), turn_trn hw (by omega)]
    have := ok_cat (w := trnN w r) (k := 2 - k) (trnL_lt _ _ _) (by omega)
    by_cases c : catOk (trnN w r) (2 - k) = true
    · rw [if_pos c, if_pos (this.mpr c)]
    · rw [if_neg c, if_neg (fun q => c (this.mp q))]
theorem tpT_eq {w j : Nat} (hw : w < 8388608) : ∀ k, k ≤ 23 → ctpT w j k = trpT w j k
  | 0, _ => rfl
  | k + 1, hk => by rw [ctpT, trpT, tpT_eq hw k (by omega), tpW_eq _ hw (by omega) 3 (Nat.le_refl _)]
theorem widen_wdn {w : Nat} (hw : w < 8388608) : widenN w = wdnN w := by
  unfold widenN wdnN
  rw [bcN_wtN (Nat.lt_trans hw (by decide)), Nat.and_one_is_mod]
theorem E_made (x : Int32) : cMade x = mMade x := by
  unfold cMade mMade
  by_cases h : blw x 4096 = true
  · obtain ⟨w, hw, rfl⟩ := blw_ex h (by decide)
    rw [if_pos h, if_pos h, cl_nI hw (by decide), codedN_madeN hw]
  · rw [if_neg h, if_neg h]
theorem E_turned (x y : Int32) : cTurned x y = mTurned x y := by
  unfold cTurned mTurned
  by_cases h : blw x 8388608 = true ∧ blw y 23 = true
  · rw [if_pos h, if_pos h]
    obtain ⟨w, hw, rfl⟩ := blw_ex h.1 (by decide)
    obtain ⟨j, hj, rfl⟩ := blw_ex h.2 (by decide)
    rw [cl_nI hw (by decide), cl_nI hj (by decide), turn_trn hw (by omega)]
  · rw [if_neg h, if_neg h]
theorem E_trapped (x y : Int32) : cTrapped x y = mTrapped x y := by
  unfold cTrapped mTrapped
  by_cases h : blw x 8388608 = true ∧ blw y 3 = true
  · rw [if_pos h, if_pos h]
    obtain ⟨w, hw, rfl⟩ := blw_ex h.1 (by decide)
    rw [cl_nI hw (by decide), tpT_eq hw 23 (Nat.le_refl _)]
  · rw [if_neg h, if_neg h]
theorem E_wide (x : Int32) : cWide x = mWide x := by
  unfold cWide mWide
  by_cases h : blw x 4096 = true
  · obtain ⟨w, hw, rfl⟩ := blw_ex h (by decide)
    rw [if_pos h, if_pos h, cl_nI hw (by decide), codedN_madeN hw, widen_wdn (made_lt hw)]
  · rw [if_neg h, if_neg h]
