/-! the sum of X to the power of the distance, X being 2 to the 13 -/
def sX (w : Nat) : Nat → Nat
  | 0 => 0
  | k + 1 => sX w k + 2 ^ (13 * wtN (madeN k ^^^ w))
theorem evP_add (f : Nat → Nat) (t : Nat) : ∀ n, evP (fun d => f d + (if t = d then 1 else 0)) n = evP f n + (if t < n then 2 ^ (13 * t) else 0)
  | 0 => by simp [evP]
  | n + 1 => by
    rw [evP, evP, evP_add f t n]
    by_cases h : t = n
    · subst h
      rw [if_pos rfl, if_neg (Nat.lt_irrefl _), if_pos (Nat.lt_succ_self _), Nat.add_mul, Nat.one_mul]
      omega
    · by_cases g : t < n
      · rw [if_neg h, if_pos g, if_pos (by omega)]
        simp only [Nat.add_zero]
        omega
      · rw [if_neg h, if_neg g, if_neg (by omega)]
        simp only [Nat.add_zero]
theorem evP_0 : ∀ n, evP (fun _ => 0) n = 0
  | 0 => rfl
  | n + 1 => by rw [evP, evP_0 n, Nat.zero_mul]
theorem sX_ev (w : Nat) : ∀ k, sX w k = evP (fun d => aroL w d k) 25
  | 0 => (evP_0 25).symm
  | k + 1 => by
    rw [sX, sX_ev w k]
    have h := evP_add (fun d => aroL w d k) (wtN (madeN k ^^^ w)) 25
    rw [if_pos (by have := wtN_le (madeN k ^^^ w); omega)] at h
    rw [← h]
    rfl
theorem evP_lt {f : Nat → Nat} (h : ∀ d, f d < 8192) : ∀ n, evP f n < 2 ^ (13 * n)
  | 0 => Nat.le_of_ble_eq_true rfl
  | n + 1 => by
    rw [evP]
    have h1 := evP_lt h n
    have h2 : (f n + 1) * 2 ^ (13 * n) ≤ 8192 * 2 ^ (13 * n) := Nat.mul_le_mul_right _ (h n)
    have h3 : 2 ^ (13 * (n + 1)) = 8192 * 2 ^ (13 * n) := by rw [show 13 * (n + 1) = 13 + 13 * n by omega, Nat.pow_add]
    rw [h3]
    rw [Nat.add_mul, Nat.one_mul] at h2
    omega
theorem evP_inj {f g : Nat → Nat} (hf : ∀ d, f d < 8192) (hg : ∀ d, g d < 8192) : ∀ n, evP f n = evP g n → ∀ d, d < n → f d = g d
  | 0, _, d, hd => absurd hd (Nat.not_lt_zero _)
  | n + 1, h, d, hd => by
    rw [evP, evP] at h
    have h1 := evP_lt hf n
    have h2 := evP_lt hg n
    have e : f n = g n := by
      have a1 : (evP f n + f n * 2 ^ (13 * n)) / 2 ^ (13 * n) = f n := by
        rw [Nat.add_mul_div_right _ _ (Nat.two_pow_pos _), Nat.div_eq_of_lt h1, Nat.zero_add]
      have a2 : (evP g n + g n * 2 ^ (13 * n)) / 2 ^ (13 * n) = g n := by
        rw [Nat.add_mul_div_right _ _ (Nat.two_pow_pos _), Nat.div_eq_of_lt h2, Nat.zero_add]
      rw [← a1, ← a2, h]
    by_cases q : d = n
    · rw [q]; exact e
    · refine evP_inj hf hg n ?_ d (by omega)
      rw [e] at h
      omega
theorem evP_congr {f g : Nat → Nat} : ∀ n, (∀ d, d < n → f d = g d) → evP f n = evP g n
  | 0, _ => rfl
  | n + 1, h => by rw [evP, evP, evP_congr n (fun d hd => h d (by omega)), h n (Nat.lt_succ_self n)]
/-- the code is linear -/
theorem made_xor_form {k : Nat} (h : k < 4096) : madeN k = (k <<< 11) ^^^ remN (k <<< 11) := by
  have hr := remN_lt11 (shl11_lt h)
  unfold madeN
  rw [Nat.shiftLeft_add_eq_or_of_lt hr]
  apply Nat.eq_of_testBit_eq
  intro i
  rw [Nat.testBit_or, Nat.testBit_xor, Nat.testBit_shiftLeft]
  by_cases g : i ≥ 11
  · rw [tb_lt (k := 11) hr g]; simp
  · rw [decide_eq_false g]; simp
theorem add_xor {j k : Nat} (h : k < 2 ^ j) : 2 ^ j + k = (1 <<< j) ^^^ k := by
  apply Nat.eq_of_testBit_eq
  intro i
  have t := tb_split j 1 h i
  rw [Nat.mul_one] at t
  rw [t, Nat.testBit_xor, Nat.testBit_shiftLeft]
  by_cases g : i < j
  · rw [if_pos g, decide_eq_false (by omega)]; simp
  · rw [if_neg g, tb_lt (k := j) h (by omega), decide_eq_true (by omega)]; simp
theorem shl_xor (x y s : Nat) : (x ^^^ y) <<< s = (x <<< s) ^^^ (y <<< s) := by
  apply Nat.eq_of_testBit_eq
  intro i
  rw [Nat.testBit_xor, Nat.testBit_shiftLeft, Nat.testBit_shiftLeft, Nat.testBit_shiftLeft, Nat.testBit_xor]
  cases decide (i ≥ s) <;> simp
theorem pow_4096 {j : Nat} (hj : j < 12) {k : Nat} (hk : k < 2 ^ j) : 2 ^ j + k < 4096 := by
  have : 2 ^ (j + 1) ≤ 2 ^ 12 := Nat.pow_le_pow_right (by decide) (by omega)
  rw [Nat.pow_succ] at this
  omega
theorem made_add {j k : Nat} (hj : j < 12) (hk : k < 2 ^ j) : madeN (2 ^ j + k) = madeN (1 <<< j) ^^^ madeN k := by
  have h1 := pow_4096 hj hk
  rw [made_xor_form h1, made_xor_form (shl_4096 hj), made_xor_form (by omega), add_xor hk, shl_xor, remN_xor]
  rw [Nat.xor_assoc, Nat.xor_assoc]
  congr 1
  rw [← Nat.xor_assoc, ← Nat.xor_assoc, Nat.xor_comm (k <<< 11)]
theorem made_rho {j : Nat} (hj : j < 12) : madeN (1 <<< j) = (1 <<< (11 + j)) ^^^ rho j := by
  rw [made_xor_form (shl_4096 hj)]
  unfold rho
  rw [← Nat.shiftLeft_add, Nat.add_comm j 11]
theorem rho_lt {j : Nat} (hj : j < 12) : rho j < 2048 := remN_lt11 (shl1 (n := 23) (by omega))
theorem made_lt2 {j k : Nat} (hj : j ≤ 12) (hk : k < 2 ^ j) : madeN k < 2 ^ (11 + j) := by
  have h4 : k < 4096 := Nat.lt_of_lt_of_le hk (Nat.pow_le_pow_right (n := 2) (by decide) hj)
  rw [made_xor_form h4]
  refine bd_xor _ ?_ (Nat.lt_of_lt_of_le (remN_lt11 (shl11_lt h4)) (show 2 ^ 11 ≤ 2 ^ (11 + j) from Nat.pow_le_pow_right (by decide) (by omega)))
  rw [Nat.shiftLeft_eq, Nat.pow_add, Nat.mul_comm]
  exact Nat.mul_lt_mul_of_pos_left hk (Nat.two_pow_pos 11)
theorem wt_top {q v : Nat} (hq : q < 24) (hv : v < 2 ^ q) : wtN ((1 <<< q) ^^^ v) = wtN v + 1 := by
  rw [← add_xor hv]
  unfold wtN
  have e : (24 : Nat) = q + (24 - q) := by omega
  have h1 := wtL_hi q (y := 1) hv (24 - q)
  have h0 := wtL_hi q (y := 0) hv (24 - q)
  rw [Nat.mul_one] at h1
  rw [Nat.mul_zero, Nat.zero_add] at h0
  rw [e, h1, h0]
  have z : ∀ n, wtL 0 n = 0 := fun n => by
    induction n with
    | zero => rfl
    | succ n ih => rw [wtL, ih, Nat.zero_shiftRight, Nat.zero_and]
  have o : ∀ n, wtL 1 (n + 1) = 1 := fun n => by
    induction n with
    | zero => rfl
    | succ n ih =>
      rw [wtL, ih]
      have : (1 : Nat) >>> (n + 1) = 0 := by
        rw [Nat.shiftRight_eq_div_pow]
        exact Nat.div_eq_of_lt (Nat.one_lt_two_pow (by omega))
      rw [this, Nat.zero_and]
  rw [z, show 24 - q = (23 - q) + 1 by omega, o, Nat.add_zero]
theorem xor4 (a b c d : Nat) : ((a ^^^ b) ^^^ c) ^^^ d = a ^^^ (c ^^^ (d ^^^ b)) := by
  rw [Nat.xor_assoc a b c, Nat.xor_assoc a, Nat.xor_comm b c, Nat.xor_assoc c b d, Nat.xor_comm b d]
theorem sX_add {j s : Nat} (hj : j < 12) (hs : s < 2048) : ∀ k, k ≤ 2 ^ j → sX s (2 ^ j + k) = sX s (2 ^ j) + sX (s ^^^ rho j) k * 2 ^ 13
  | 0, _ => by rw [Nat.add_zero, sX, Nat.zero_mul, Nat.add_zero]
  | k + 1, hk => by
    rw [← Nat.add_assoc, sX, sX_add hj hs k (by omega), sX, Nat.add_mul, ← Nat.add_assoc]
    congr 1
    have hsr : s ^^^ rho j < 2048 := bd_xor 11 hs (rho_lt hj)
    have hv : madeN k ^^^ (s ^^^ rho j) < 2 ^ (11 + j) := bd_xor _ (made_lt2 (by omega) (by omega)) (Nat.lt_of_lt_of_le hsr (show 2 ^ 11 ≤ 2 ^ (11 + j) from Nat.pow_le_pow_right (by decide) (by omega)))
    rw [made_add hj (by omega), made_rho hj, xor4, wt_top (by omega) hv, show 13 * (wtN (madeN k ^^^ (s ^^^ rho j)) + 1) = 13 * wtN (madeN k ^^^ (s ^^^ rho j)) + 13 by omega, Nat.pow_add]
theorem sX_step {j s : Nat} (hj : j < 12) (hs : s < 2048) : sX s (2 ^ (j + 1)) = sX s (2 ^ j) + sX (s ^^^ rho j) (2 ^ j) * 2 ^ 13 := by
  rw [Nat.pow_succ, Nat.mul_two]
  exact sX_add hj hs (2 ^ j) (Nat.le_refl _)
theorem sr_lt {s j : Nat} (hs : s < 2048) (hj : j < 12) : s ^^^ rho j < 2048 := bd_xor 11 hs (rho_lt hj)
theorem sX_0 : ∀ s, s < 2048 → sX s (2 ^ 0) = fld T00 s := fun s hs => by
  rw [tb0 s hs]
  show 0 + 2 ^ (13 * wtN (madeN 0 ^^^ s)) = _
  rw [Nat.zero_add, show madeN 0 = 0 from by decide, Nat.zero_xor]
theorem sX_1 : ∀ s, s < 2048 → sX s (2 ^ 1) = fld T01 s := fun s hs => by rw [sX_step (j := 0) (by decide) hs, sX_0 s hs, sX_0 _ (sr_lt hs (by decide)), tb1 s hs]
theorem sX_2 : ∀ s, s < 2048 → sX s (2 ^ 2) = fld T02 s := fun s hs => by rw [sX_step (j := 1) (by decide) hs, sX_1 s hs, sX_1 _ (sr_lt hs (by decide)), tb2 s hs]
theorem sX_3 : ∀ s, s < 2048 → sX s (2 ^ 3) = fld T03 s := fun s hs => by rw [sX_step (j := 2) (by decide) hs, sX_2 s hs, sX_2 _ (sr_lt hs (by decide)), tb3 s hs]
theorem sX_4 : ∀ s, s < 2048 → sX s (2 ^ 4) = fld T04 s := fun s hs => by rw [sX_step (j := 3) (by decide) hs, sX_3 s hs, sX_3 _ (sr_lt hs (by decide)), tb4 s hs]
theorem sX_5 : ∀ s, s < 2048 → sX s (2 ^ 5) = fld T05 s := fun s hs => by rw [sX_step (j := 4) (by decide) hs, sX_4 s hs, sX_4 _ (sr_lt hs (by decide)), tb5 s hs]
theorem sX_6 : ∀ s, s < 2048 → sX s (2 ^ 6) = fld T06 s := fun s hs => by rw [sX_step (j := 5) (by decide) hs, sX_5 s hs, sX_5 _ (sr_lt hs (by decide)), tb6 s hs]
theorem sX_7 : ∀ s, s < 2048 → sX s (2 ^ 7) = fld T07 s := fun s hs => by rw [sX_step (j := 6) (by decide) hs, sX_6 s hs, sX_6 _ (sr_lt hs (by decide)), tb7 s hs]
theorem sX_8 : ∀ s, s < 2048 → sX s (2 ^ 8) = fld T08 s := fun s hs => by rw [sX_step (j := 7) (by decide) hs, sX_7 s hs, sX_7 _ (sr_lt hs (by decide)), tb8 s hs]
theorem sX_9 : ∀ s, s < 2048 → sX s (2 ^ 9) = fld T09 s := fun s hs => by rw [sX_step (j := 8) (by decide) hs, sX_8 s hs, sX_8 _ (sr_lt hs (by decide)), tb9 s hs]
theorem sX_10 : ∀ s, s < 2048 → sX s (2 ^ 10) = fld T10 s := fun s hs => by rw [sX_step (j := 9) (by decide) hs, sX_9 s hs, sX_9 _ (sr_lt hs (by decide)), tb10 s hs]
theorem sX_11 : ∀ s, s < 2048 → sX s (2 ^ 11) = fld T11 s := fun s hs => by rw [sX_step (j := 10) (by decide) hs, sX_10 s hs, sX_10 _ (sr_lt hs (by decide)), tb11 s hs]
theorem sX_12 : ∀ s, s < 2048 → sX s (2 ^ 12) = fld T12 s := fun s hs => by rw [sX_step (j := 11) (by decide) hs, sX_11 s hs, sX_11 _ (sr_lt hs (by decide)), tb12 s hs]
theorem arT_lt : ∀ i, arT i < 8192 := by
  intro i
  have h : ∀ i, i < 96 → arT i < 8192 := by decide +kernel
  by_cases g : i < 96
  · exact h i g
  · have : arT i = 0 := by
      unfold arT
      rw [List.getD_eq_getElem?_getD, List.getElem?_eq_none (by rw [show arL.length = 96 from rfl]; omega)]
      rfl
    rw [this]; decide
/-- no word of 23 places lies farther than 23 from the code's words -/
theorem wt23 {v : Nat} (hv : v < 8388608) : wtN v ≤ 23 := by
  unfold wtN
  rw [show (24 : Nat) = 23 + 1 from rfl, wtL]
  have h1 := wtL_le v 23
  have : v >>> 23 = 0 := by rw [Nat.shiftRight_eq_div_pow]; exact Nat.div_eq_of_lt hv
  rw [this, Nat.zero_and]
  omega
theorem aroL_24 {w : Nat} (hw : w < 8388608) : ∀ k, k ≤ 4096 → aroL w 24 k = 0
  | 0, _ => rfl
  | k + 1, hk => by
    rw [aroL, aroL_24 hw k (by omega), if_neg]
    have := wt23 (bd_xor 23 (made_lt (show k < 4096 by omega)) hw)
    intro h
    have h2 : wtN (madeN k ^^^ w) ≤ 23 := this
    omega
theorem aro_rest {s d : Nat} (hs : s < 2048) (hd : d < 24) : aroL s d 4096 = arT (wtN (errT s) * 24 + d) := by
  have h := sX_12 s hs
  rw [show (2 : Nat) ^ 12 = 4096 from rfl, sX_ev, tbF s hs, show (25 : Nat) = 24 + 1 from rfl, evP, aroL_24 (Nat.lt_trans hs (by decide)) 4096 (Nat.le_refl _), Nat.zero_mul, Nat.add_zero] at h
  exact evP_inj (f := fun d => aroL s d 4096) (fun d => Nat.lt_of_le_of_lt (aroL_le s d 4096) (by decide)) (fun d => arT_lt _) 24 h d hd
/-! a word and its rest have the same counts -/
theorem aro_add (w d : Nat) {j : Nat} (hj : j < 12) : ∀ k, k ≤ 2 ^ j → aroL w d (2 ^ j + k) = aroL w d (2 ^ j) + aroL (w ^^^ madeN (1 <<< j)) d k
  | 0, _ => rfl
  | k + 1, hk => by
    rw [← Nat.add_assoc, aroL, aro_add w d hj k (by omega), aroL, made_add hj (by omega), Nat.add_assoc]
    congr 3
    rw [Nat.xor_comm (madeN (1 <<< j)), Nat.xor_assoc, Nat.xor_comm (madeN (1 <<< j)) w]
theorem aro_dbl (w d : Nat) {j : Nat} (hj : j < 12) : aroL w d (2 ^ (j + 1)) = aroL w d (2 ^ j) + aroL (w ^^^ madeN (1 <<< j)) d (2 ^ j) := by
  rw [Nat.pow_succ, Nat.mul_two]
  exact aro_add w d hj (2 ^ j) (Nat.le_refl _)
theorem xor_r (a b c : Nat) : (a ^^^ b) ^^^ c = (a ^^^ c) ^^^ b := by rw [Nat.xor_assoc, Nat.xor_comm b c, Nat.xor_assoc]
theorem aro_inv (d i : Nat) : ∀ j, j ≤ 12 → i < j → ∀ w, aroL (w ^^^ madeN (1 <<< i)) d (2 ^ j) = aroL w d (2 ^ j)
  | 0, _, h, _ => absurd h (Nat.not_lt_zero _)
  | j + 1, hj, h, w => by
    rw [aro_dbl _ d (by omega), aro_dbl w d (by omega)]
    by_cases e : i = j
    · subst e
      rw [Nat.xor_assoc, Nat.xor_self, Nat.xor_zero, Nat.add_comm]
    · rw [xor_r, aro_inv d i j (by omega) (by omega) w, aro_inv d i j (by omega) (by omega) (w ^^^ madeN (1 <<< j))]
theorem aro_code (d : Nat) : ∀ j, j ≤ 12 → ∀ k, k < 2 ^ j → ∀ w, aroL (w ^^^ madeN k) d 4096 = aroL w d 4096
  | 0, _, k, hk, w => by
    have : k = 0 := by rw [Nat.pow_zero] at hk; omega
    rw [this, show madeN 0 = 0 from by decide, Nat.xor_zero]
  | j + 1, hj, k, hk, w => by
    by_cases h : k < 2 ^ j
    · exact aro_code d j (by omega) k h w
    · obtain ⟨r, hr⟩ : ∃ r, k = 2 ^ j + r := ⟨k - 2 ^ j, by omega⟩
      rw [Nat.pow_succ, Nat.mul_two] at hk
      subst hr
      rw [made_add (by omega) (by omega), ← Nat.xor_assoc, aro_code d j (by omega) r (by omega)]
      exact aro_inv d j 12 (Nat.le_refl _) (by omega) w
theorem rem_small {v : Nat} (h : v < 2048) : ∀ n, remL n v = v
  | 0 => rfl
  | n + 1 => by
    rw [remL_succ, remStep_tb, if_neg (by rw [tb_lt (k := 11) h (by omega)]; decide)]
    exact rem_small h n
theorem rest_form {w : Nat} (hw : w < 8388608) : w ^^^ madeN (w >>> 11) = remN w := by
  have hm : w >>> 11 < 4096 := by rw [Nat.shiftRight_eq_div_pow]; omega
  have e : w = ((w >>> 11) <<< 11) ^^^ (w % 2048) := by
    apply Nat.eq_of_testBit_eq
    intro i
    rw [Nat.testBit_xor, Nat.testBit_shiftLeft, Nat.testBit_shiftRight, show (2048 : Nat) = 2 ^ 11 from rfl, Nat.testBit_mod_two_pow]
    by_cases g : i ≥ 11
    · rw [decide_eq_true g, decide_eq_false (by omega), show 11 + (i - 11) = i by omega]; simp
    · rw [decide_eq_false g, decide_eq_true (by omega)]; simp
  rw [made_xor_form hm]
  have hlo : remN (w % 2048) = w % 2048 := rem_small (Nat.mod_lt _ (by decide)) 12
  generalize (w >>> 11) <<< 11 = hi at e ⊢
  generalize w % 2048 = lo at e hlo
  rw [e, remN_xor, hlo, Nat.xor_comm hi lo, Nat.xor_assoc lo, ← Nat.xor_assoc hi hi, Nat.xor_self, Nat.zero_xor, Nat.xor_comm]
theorem aro_all {w d : Nat} (hw : w < 8388608) (hd : d < 24) : aroL w d 4096 = arT (wtN (errT (remN w)) * 24 + d) := by
  have hm : w >>> 11 < 2 ^ 12 := by rw [Nat.shiftRight_eq_div_pow]; omega
  rw [← aro_rest (remN_lt11 hw) hd, ← rest_form hw, aro_code d 12 (Nat.le_refl _) _ hm w]
theorem E_around (x y : Int32) : cAround errT x y = mAround x y := by
  unfold cAround mAround
  by_cases h : blw x 8388608 = true ∧ blw y 24 = true
  · rw [if_pos h, if_pos h]
    obtain ⟨w, hw, rfl⟩ := blw_ex h.1 (by decide)
    obtain ⟨j, hj, rfl⟩ := blw_ex h.2 (by decide)
    rw [cl_nI hw (by decide), cl_nI hj (by decide), aro_all hw hj, bcN_wtN (Nat.lt_trans (errT_lt _ (remN_lt11 hw)) (by decide))]
  · rw [if_neg h, if_neg h]
theorem aro_zero {d : Nat} (hd : d < 24) : aroL 0 d 4096 = arT d := by
  rw [aro_all (by decide) hd, show remN 0 = 0 from by decide, errT_0, show wtN 0 = 0 from by decide, Nat.zero_mul, Nat.zero_add]
