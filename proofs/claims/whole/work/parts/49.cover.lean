/-! triples that the moves bring to the checks: by sets, and one by one -/
theorem bakL_tb (w a b q : Nat) : ∀ k, (bakL w a b k).testBit q = (decide (q < k) && w.testBit (tgtN q a b))
  | 0 => by simp [bakL]
  | k + 1 => by
    rw [bakL, Nat.testBit_or, bakL_tb w a b q k, tb_bit]
    by_cases e : q = k
    · subst e
      rw [decide_eq_false (Nat.lt_irrefl _), decide_eq_true rfl, decide_eq_true (Nat.lt_succ_self _)]; simp
    · rw [decide_eq_false e]
      have : decide (q < k + 1) = decide (q < k) := by rw [decide_eq_decide]; omega
      rw [this]; simp
theorem br_tb {n : Nat} {F S B V X : Nat → Nat} (h : RS n F S B V X) {i q : Nat} (hi : i < n) (hq : q < 23) : brX X i q = (B i).testBit q := by
  obtain ⟨e1, e2, -, -, -, e3⟩ := h.2.2.1 i hi
  unfold brX
  rw [e1, e2, e3]
  unfold bakN
  rw [bakL_tb, decide_eq_true hq, Bool.true_and, show (2047 : Nat) = 2 ^ 11 - 1 from rfl, Nat.testBit_two_pow_sub_one]
/-- one of the first k moves brings all three -/
def cvN (B : Nat → Nat) (a b d : Nat) : Nat → Bool
  | 0 => false
  | k + 1 => cvN B a b d k || ((B k).testBit a && ((B k).testBit b && (B k).testBit d))
theorem pr_sub {v a b : Nat} : (v &&& pr a b = pr a b) ↔ (v.testBit a = true ∧ v.testBit b = true) := by
  have tb : ∀ i, (pr a b).testBit i = (decide (i = a) || decide (i = b)) := fun i => by
    unfold pr
    have h1 := tb_bit 1 0 a i
    have h2 := tb_bit 1 0 b i
    rw [show (1 : Nat) >>> 0 &&& 1 = 1 from rfl] at h1 h2
    rw [Nat.testBit_or, h1, h2]
    simp
  constructor
  · intro h
    have ha := congrArg (fun z => z.testBit a) h
    have hb := congrArg (fun z => z.testBit b) h
    rw [Nat.testBit_and, tb] at ha
    rw [Nat.testBit_and, tb] at hb
    simp at ha hb
    exact ⟨ha, hb⟩
  · intro h
    apply Nat.eq_of_testBit_eq
    intro i
    rw [Nat.testBit_and, tb]
    by_cases e : i = a
    · rw [e, h.1]; simp
    · by_cases f : i = b
      · rw [f, h.2]; simp
      · rw [decide_eq_false e, decide_eq_false f]; simp
theorem jon_tb (B : Nat → Nat) (a b d : Nat) : ∀ k, (jonL B (pr a b) k).testBit d = cvN B a b d k
  | 0 => Nat.zero_testBit d
  | k + 1 => by
    rw [jonL, cvN]
    by_cases c : B k &&& pr a b = pr a b
    · have q := pr_sub.mp c
      rw [if_pos c, Nat.testBit_or, jon_tb B a b d k, q.1, q.2]; simp
    · rw [if_neg c, jon_tb B a b d k]
      have : ((B k).testBit a && ((B k).testBit b && (B k).testBit d)) = false := by
        cases e1 : (B k).testBit a
        · rfl
        · cases e2 : (B k).testBit b
          · rfl
          · exact absurd (pr_sub.mpr ⟨e1, e2⟩) c
      rw [this, Bool.or_false]
/-- the first move that brings three places: below k just where one of the first k does -/
theorem cov_lt {n : Nat} {F S B V X : Nat → Nat} (h : RS n F S B V X) {a b d : Nat} (ha : a < 23) (hb : b < 23) (hd : d < 23) : ∀ r, r ≤ n → ∀ k, n - r ≤ k → k ≤ n → cvN B a b d (n - r) = false → decide (covF X a b d r < k) = cvN B a b d k
  | 0, _, k, h1, h2, h3 => by
    have e : k = n := by omega
    rw [covF, h.2.1, e, decide_eq_false (Nat.lt_irrefl _), ← h3, Nat.sub_zero]
  | r + 1, hr, k, h1, h2, h3 => by
    have hi : n - (r + 1) < n := by omega
    rw [covF, h.2.1, br_tb h hi ha, br_tb h hi hb, br_tb h hi hd]
    have step : cvN B a b d (n - r) = ((B (n - (r + 1))).testBit a && ((B (n - (r + 1))).testBit b && (B (n - (r + 1))).testBit d)) := by
      rw [show n - r = (n - (r + 1)) + 1 by omega, cvN, h3, Bool.false_or]
    by_cases c : (B (n - (r + 1))).testBit a = true ∧ (B (n - (r + 1))).testBit b = true ∧ (B (n - (r + 1))).testBit d = true
    · rw [if_pos c]
      rw [c.1, c.2.1, c.2.2] at step
      by_cases e : n - (r + 1) < k
      · rw [decide_eq_true e]
        have mono : ∀ j, cvN B a b d (n - r + j) = true := fun j => by
          induction j with
          | zero => exact step
          | succ j ih => rw [← Nat.add_assoc, cvN, ih, Bool.true_or]
        have := mono (k - (n - r))
        rw [show n - r + (k - (n - r)) = k by omega] at this
        exact this.symm
      · have e2 : k = n - (r + 1) := by omega
        rw [decide_eq_false e, e2, h3]
    · rw [if_neg c]
      have s0 : cvN B a b d (n - r) = false := by
        rw [step]
        cases e1 : (B (n - (r + 1))).testBit a
        · rfl
        · cases e2 : (B (n - (r + 1))).testBit b
          · rfl
          · cases e3 : (B (n - (r + 1))).testBit d
            · rfl
            · exact absurd ⟨e1, e2, e3⟩ c
      by_cases e : n - r ≤ k
      · exact cov_lt h ha hb hd r (by omega) k e h2 s0
      · have e2 : k = n - (r + 1) := by omega
        have t := cov_lt h ha hb hd r (by omega) (n - r) (Nat.le_refl _) (by omega) s0
        rw [s0] at t
        have := of_decide_eq_false t
        rw [e2, h3]
        exact decide_eq_false (by omega)
theorem covX_lt {n : Nat} {F S B V X : Nat → Nat} (h : RS n F S B V X) {a b d k : Nat} (ha : a < 23) (hb : b < 23) (hd : d < 23) (hk : k ≤ n) : decide (covX X a b d < k) = cvN B a b d k := by
  unfold covX
  rw [h.2.1]
  exact cov_lt h ha hb hd n (Nat.le_refl _) k (by omega) hk (by rw [Nat.sub_self]; rfl)
/-! sums over the triples, in the order of the loops -/
def s3R (f : Nat → Nat → Nat → Nat) (a b : Nat) : Nat → Nat
  | 0 => 0
  | k + 1 => f a b (22 - k) + s3R f a b k
def s3Q (f : Nat → Nat → Nat → Nat) (a : Nat) : Nat → Nat
  | 0 => 0
  | k + 1 => s3R f a (22 - k) k + s3Q f a k
def s3P (f : Nat → Nat → Nat → Nat) : Nat → Nat
  | 0 => 0
  | k + 1 => s3Q f (22 - k) k + s3P f k
theorem s3R_add {f g u : Nat → Nat → Nat → Nat} {a b : Nat} (ha : a < 23) (hb : b < 23) (h : ∀ d, d < 23 → f a b d = g a b d + u a b d) : ∀ k, s3R f a b k = s3R g a b k + s3R u a b k
  | 0 => rfl
  | k + 1 => by rw [s3R, s3R, s3R, s3R_add ha hb h k, h _ (by omega)]; omega
theorem s3Q_add {f g u : Nat → Nat → Nat → Nat} {a : Nat} (ha : a < 23) (h : ∀ b d, b < 23 → d < 23 → f a b d = g a b d + u a b d) : ∀ k, s3Q f a k = s3Q g a k + s3Q u a k
  | 0 => rfl
  | k + 1 => by rw [s3Q, s3Q, s3Q, s3Q_add ha h k, s3R_add ha (by omega) (fun d hd => h _ d (by omega) hd)]; omega
theorem s3P_add {f g u : Nat → Nat → Nat → Nat} (h : ∀ a b d, a < 23 → b < 23 → d < 23 → f a b d = g a b d + u a b d) : ∀ k, s3P f k = s3P g k + s3P u k
  | 0 => rfl
  | k + 1 => by rw [s3P, s3P, s3P, s3P_add h k, s3Q_add (by omega) (fun b d hb hd => h _ b d (by omega) hb hd)]; omega
def ind (X : Nat → Nat) (mv a b d : Nat) : Nat := if covX X a b d = mv then 1 else 0
theorem triR_1 (X : Nat → Nat) (mv a b : Nat) : ∀ k z, (triR X mv a b k z).1 = z.1 + s3R (ind X mv) a b k
  | 0, z => rfl
  | k + 1, z => by
    rw [triR, triR_1 X mv a b k, s3R]
    unfold triS ind
    by_cases c : covX X a b (22 - k) = mv
    · rw [if_pos c, if_pos c]; show z.1 + 1 + _ = _; omega
    · rw [if_neg c, if_neg c]; omega
theorem triQ_1 (X : Nat → Nat) (mv a : Nat) : ∀ k z, (triQ X mv a k z).1 = z.1 + s3Q (ind X mv) a k
  | 0, z => rfl
  | k + 1, z => by rw [triQ, triQ_1 X mv a k, triR_1, s3Q]; omega
theorem triP_1 (X : Nat → Nat) (mv : Nat) : ∀ k z, (triP X mv k z).1 = z.1 + s3P (ind X mv) k
  | 0, z => rfl
  | k + 1, z => by rw [triP, triP_1 X mv k, triQ_1, s3P]; omega
theorem triA_1 (X : Nat → Nat) (mv : Nat) : (triA X mv).1 = s3P (ind X mv) 23 := by
  unfold triA
  rw [triP_1]
  show 0 + _ = _
  omega
def cvI (B : Nat → Nat) (k a b d : Nat) : Nat := (cvN B a b d k).toNat
theorem wt_half {v : Nat} (hv : v < 16777216) : wtN v = (v &&& 1) + wtN (v >>> 1) := by
  have hs : ∀ n, wtL v (n + 1) = (v &&& 1) + wtL (v >>> 1) n := fun n => by
    induction n with
    | zero => show 0 + (v >>> 0 &&& 1) = (v &&& 1) + 0; rw [Nat.shiftRight_zero]; omega
    | succ n ih => rw [wtL, ih, wtL, ← Nat.shiftRight_add, Nat.add_comm 1 n]; omega
  unfold wtN
  rw [show (24 : Nat) = 23 + 1 from rfl, hs 23]
  have : v >>> 1 >>> 23 = 0 := by
    rw [← Nat.shiftRight_add, Nat.shiftRight_eq_div_pow]
    exact Nat.div_eq_of_lt hv
  rw [show wtL (v >>> 1) (23 + 1) = wtL (v >>> 1) 23 + (v >>> 1 >>> 23 &&& 1) from rfl, this, Nat.zero_and, Nat.add_zero]
theorem s3R_wt {B : Nat → Nat} {k0 a b : Nat} (hJ : jonL B (pr a b) k0 < 8388608) : ∀ k, k ≤ 23 → s3R (cvI B k0) a b k = wtN (jonL B (pr a b) k0 >>> (23 - k))
  | 0, _ => by
    have : jonL B (pr a b) k0 >>> 23 = 0 := by rw [Nat.shiftRight_eq_div_pow]; exact Nat.div_eq_of_lt hJ
    rw [s3R, Nat.sub_zero, this]
    decide
  | k + 1, hk => by
    rw [s3R, s3R_wt hJ k (by omega), wt_half (v := jonL B (pr a b) k0 >>> (23 - (k + 1))) (bd_shr (Nat.lt_trans hJ (by decide))), ← Nat.shiftRight_add, show 23 - (k + 1) + 1 = 23 - k by omega]
    congr 1
    unfold cvI
    rw [← jon_tb, show 23 - (k + 1) = 22 - k by omega]
    cases e : (jonL B (pr a b) k0).testBit (22 - k)
    · rw [(and1_0 _ _).mpr e]; rfl
    · rw [(and1_tb _ _).mpr e]; rfl
theorem cbQ_s {B : Nat → Nat} {k0 n : Nat} (hB : ∀ i, i < n → B i < 8388608) (hk0 : k0 ≤ n) (a : Nat) : ∀ k t, k ≤ 22 → cbQ B k0 a k t = t + s3Q (cvI B k0) a k
  | 0, t, _ => rfl
  | k + 1, t, hk => by
    have hJ := jonL_lt (q := pr a (22 - k)) hB k0 hk0
    rw [cbQ, cbQ_s hB hk0 a k _ (by omega), s3Q, s3R_wt hJ k (by omega), bcN_wtN (bd_shr (Nat.lt_trans hJ (by decide))), show 22 - k + 1 = 23 - k by omega]
    omega
theorem cbP_s {B : Nat → Nat} {k0 n : Nat} (hB : ∀ i, i < n → B i < 8388608) (hk0 : k0 ≤ n) : ∀ k t, k ≤ 23 → cbP B k0 k t = t + s3P (cvI B k0) k
  | 0, t, _ => rfl
  | k + 1, t, hk => by
    rw [cbP, cbP_s hB hk0 k _ (by omega), cbQ_s hB hk0 _ k t (by omega), s3P]
    omega
theorem told_sum {n : Nat} {F S B V X : Nat → Nat} (h : RS n F S B V X) (hB : ∀ i, i < n → B i < 8388608) {mv : Nat} (hm : mv < n) : cbP B (mv + 1) 23 0 = cbP B mv 23 0 + (triA X mv).1 := by
  rw [cbP_s hB (by omega) 23 0 (Nat.le_refl _), cbP_s hB (by omega) 23 0 (Nat.le_refl _), triA_1, Nat.zero_add, Nat.zero_add]
  refine s3P_add (fun a b d ha hb hd => ?_) 23
  unfold cvI ind
  rw [← covX_lt h ha hb hd (show mv + 1 ≤ n by omega), ← covX_lt h ha hb hd (show mv ≤ n by omega)]
  by_cases c1 : covX X a b d < mv
  · rw [decide_eq_true (show covX X a b d < mv + 1 by omega), decide_eq_true c1, if_neg (by omega)]; rfl
  · by_cases c2 : covX X a b d = mv
    · rw [decide_eq_true (show covX X a b d < mv + 1 by omega), decide_eq_false c1, if_pos c2]; rfl
    · rw [decide_eq_false (show ¬ covX X a b d < mv + 1 by omega), decide_eq_false c1, if_neg c2]; rfl
theorem s3_one : s3P (fun _ _ _ => 1) 23 = 1771 := by decide +kernel
theorem open_sum {n : Nat} {F S B V X : Nat → Nat} (h : RS n F S B V X) (hB : ∀ i, i < n → B i < 8388608) : 1771 = cbP B n 23 0 + (triA X n).1 := by
  rw [cbP_s hB (Nat.le_refl _) 23 0 (Nat.le_refl _), triA_1, Nat.zero_add, ← s3_one]
  refine s3P_add (fun a b d ha hb hd => ?_) 23
  unfold cvI ind
  rw [← covX_lt h ha hb hd (Nat.le_refl _)]
  have hle : covX X a b d ≤ n := by have := covF_le X a b d (X 0); rw [h.2.1] at this; unfold covX; rw [h.2.1]; exact this
  by_cases c1 : covX X a b d < n
  · rw [decide_eq_true c1, if_neg (by omega)]; rfl
  · rw [decide_eq_false c1, if_pos (by omega)]; rfl
/-! the first triple that is not covered -/
theorem triR_p {X : Nat → Nat} {mv a b : Nat} : ∀ k (t : Nat) (f : Int32), 0 < t → 0 < (triR X mv a b k (t, f)).1 ∧ (triR X mv a b k (t, f)).2 = f
  | 0, t, f, h => ⟨h, rfl⟩
  | k + 1, t, f, h => by
    rw [triR]
    by_cases c : covX X a b (22 - k) = mv
    · rw [triS_1 c (by omega)]; exact triR_p k (t + 1) f (by omega)
    · rw [triS_n c]; exact triR_p k t f h
theorem triQ_p {X : Nat → Nat} {mv a : Nat} : ∀ k (t : Nat) (f : Int32), 0 < t → 0 < (triQ X mv a k (t, f)).1 ∧ (triQ X mv a k (t, f)).2 = f
  | 0, t, f, h => ⟨h, rfl⟩
  | k + 1, t, f, h => by
    rw [triQ]
    have := triR_p (X := X) (mv := mv) (a := a) (b := 22 - k) k t f h
    generalize triR X mv a (22 - k) k (t, f) = z at this ⊢
    obtain ⟨z1, z2⟩ := z
    have e : z2 = f := this.2
    subst e
    exact triQ_p k z1 z2 this.1
theorem triP_p {X : Nat → Nat} {mv : Nat} : ∀ k (t : Nat) (f : Int32), 0 < t → (triP X mv k (t, f)).2 = f
  | 0, t, f, h => rfl
  | k + 1, t, f, h => by
    rw [triP]
    have := triQ_p (X := X) (mv := mv) (a := 22 - k) k t f h
    generalize triQ X mv (22 - k) k (t, f) = z at this ⊢
    obtain ⟨z1, z2⟩ := z
    have e : z2 = f := this.2
    subst e
    exact triP_p k z1 z2 this.1
theorem bit_cov {n : Nat} {F S B V X : Nat → Nat} (h : RS n F S B V X) {a b d : Nat} (ha : a < 23) (hb : b < 23) (hd : d < 23) : (jonL B (pr a b) n >>> d &&& 1 = 0) ↔ covX X a b d = n := by
  rw [and1_0, jon_tb, ← covX_lt h ha hb hd (Nat.le_refl _)]
  have hle : covX X a b d ≤ n := by have := covF_le X a b d (X 0); rw [h.2.1] at this; unfold covX; rw [h.2.1]; exact this
  constructor
  · intro q
    have := of_decide_eq_false q
    omega
  · intro q
    exact decide_eq_false (by omega)
theorem fnR_tri {n : Nat} {F S B V X : Nat → Nat} (h : RS n F S B V X) {a b : Nat} (ha : a < 23) (hb : b < 23) (f : Int32) : ∀ k, ((∃ v, 0 < (triR X n a b k (0, f)).1 ∧ (triR X n a b k (0, f)).2 = v ∧ ∀ z, fnR (jonL B (pr a b) n) a b k z = v) ∨ (triR X n a b k (0, f) = (0, f) ∧ ∀ z, fnR (jonL B (pr a b) n) a b k z = z))
  | 0 => Or.inr ⟨rfl, fun _ => rfl⟩
  | k + 1 => by
    have bc := bit_cov h ha hb (d := 22 - k) (by omega)
    by_cases c : covX X a b (22 - k) = n
    · refine Or.inl ⟨nI (529 * a + 23 * b + (22 - k)), ?_, ?_, fun z => ?_⟩
      · rw [triR, triS_0 c rfl]; exact (triR_p k _ _ (by omega)).1
      · rw [triR, triS_0 c rfl]; exact (triR_p k _ _ (by omega)).2
      · rw [fnR, if_pos (bc.mpr c)]
        congr 1
        omega
    · rw [triR, triS_n c]
      rcases fnR_tri h ha hb f k with ⟨v, h1, h2, h3⟩ | ⟨h1, h2⟩
      · exact Or.inl ⟨v, h1, h2, fun z => by rw [fnR, if_neg (fun q => c (bc.mp q))]; exact h3 z⟩
      · exact Or.inr ⟨h1, fun z => by rw [fnR, if_neg (fun q => c (bc.mp q))]; exact h2 z⟩
theorem fnQ_tri {n : Nat} {F S B V X : Nat → Nat} (h : RS n F S B V X) {a : Nat} (ha : a < 23) (f : Int32) : ∀ k, ((∃ v, 0 < (triQ X n a k (0, f)).1 ∧ (triQ X n a k (0, f)).2 = v ∧ ∀ z, fnQ B n a k z = v) ∨ (triQ X n a k (0, f) = (0, f) ∧ ∀ z, fnQ B n a k z = z))
  | 0 => Or.inr ⟨rfl, fun _ => rfl⟩
  | k + 1 => by
    rw [triQ]
    rcases fnR_tri h ha (b := 22 - k) (by omega) f k with ⟨v, h1, h2, h3⟩ | ⟨h1, h2⟩
    · refine Or.inl ⟨v, ?_, ?_, fun z => by rw [fnQ]; exact h3 _⟩
      · generalize triR X n a (22 - k) k (0, f) = z at h1 h2 ⊢
        obtain ⟨z1, z2⟩ := z
        exact (triQ_p k z1 z2 h1).1
      · generalize triR X n a (22 - k) k (0, f) = z at h1 h2 ⊢
        obtain ⟨z1, z2⟩ := z
        rw [(triQ_p k z1 z2 h1).2]
        exact h2
    · rw [h1]
      rcases fnQ_tri h ha f k with ⟨v, g1, g2, g3⟩ | ⟨g1, g2⟩
      · exact Or.inl ⟨v, g1, g2, fun z => by rw [fnQ, h2]; exact g3 z⟩
      · exact Or.inr ⟨g1, fun z => by rw [fnQ, h2]; exact g2 z⟩
theorem fnP_tri {n : Nat} {F S B V X : Nat → Nat} (h : RS n F S B V X) (f : Int32) : ∀ k, (triP X n k (0, f)).2 = fnP B n k f
  | 0 => rfl
  | k + 1 => by
    rw [triP, fnP]
    rcases fnQ_tri h (a := 22 - k) (by omega) f k with ⟨v, h1, h2, h3⟩ | ⟨h1, h2⟩
    · rw [h3]
      generalize triQ X n (22 - k) k (0, f) = z at h1 h2 ⊢
      obtain ⟨z1, z2⟩ := z
      rw [triP_p k z1 z2 h1]
      exact h2
    · rw [h1, h2]
      exact fnP_tri h f k
theorem E_told {kp : Nat} {n0 : Nat} {F : Nat → Nat} {S : Nat → Nat} {B : Nat → Nat} {V : Nat → Nat} {n1 : Nat} {F1 : Nat → Nat} {S1 : Nat → Nat} {B1 : Nat → Nat} {V1 : Nat → Nat} {n2 : Nat} {F2 : Nat → Nat} {S2 : Nat → Nat} {B2 : Nat → Nat} {V2 : Nat → Nat} {C : Nat → Nat} {X : Nat → Nat} {Y : Nat → Nat} {K : Nat → Nat} {D : Nat → Nat} (h : LR kp n0 F S B V n1 F1 S1 B1 V1 n2 F2 S2 B2 V2 C X Y K D) (x y : Int32) : cTold n0 F S B x y = mToldR X x y := by
  unfold cTold mToldR
  rw [h.1.2.1]
  by_cases g : blw x n0 = true
  · rw [if_pos g, if_pos g]
    have h8 := h.1.1
    obtain ⟨d, hd, rfl⟩ := blw_ex g (by omega)
    rw [cl_nI hd (by omega)]
    obtain ⟨e1, e2, -⟩ := h.1.2.2.1 d hd
    by_cases c : blw y 3 = true
    · rw [if_pos c]
      obtain ⟨j, hj, rfl⟩ := blw_ex c (by decide)
      rw [cl_nI hj (by decide), e1, e2, told_sum h.1 h.bb hd]
      rcases (show j = 0 ∨ j = 1 ∨ j = 2 by omega) with rfl | rfl | rfl
      · rw [if_pos rfl, if_pos rfl]
      · rw [if_neg (by decide), if_pos rfl, if_neg (by decide), if_pos rfl]
      · rw [if_neg (by decide), if_neg (by decide), if_pos rfl, if_neg (by decide), if_neg (by decide), pk_sub (Nat.le_add_right _ _), Nat.add_sub_cancel_left]
    · have no : ∀ k, k < 3 → ¬ y = nI k := fun k hk e => c (by rw [e]; exact blw_j hk (by decide))
      rw [if_neg c, if_neg (no 0 (by decide)), if_neg (no 1 (by decide)), if_neg (no 2 (by decide))]
  · rw [if_neg g, if_neg g]
theorem E_open {kp : Nat} {n0 : Nat} {F : Nat → Nat} {S : Nat → Nat} {B : Nat → Nat} {V : Nat → Nat} {n1 : Nat} {F1 : Nat → Nat} {S1 : Nat → Nat} {B1 : Nat → Nat} {V1 : Nat → Nat} {n2 : Nat} {F2 : Nat → Nat} {S2 : Nat → Nat} {B2 : Nat → Nat} {V2 : Nat → Nat} {C : Nat → Nat} {X : Nat → Nat} {Y : Nat → Nat} {K : Nat → Nat} {D : Nat → Nat} (h : LR kp n0 F S B V n1 F1 S1 B1 V1 n2 F2 S2 B2 V2 C X Y K D) (x : Int32) : cOpen n0 B x = mOpenR X x := by
  unfold cOpen mOpenR
  rw [h.1.2.1]
  by_cases c : blw x 2 = true
  · rw [if_pos c]
    obtain ⟨j, hj, rfl⟩ := blw_ex c (by decide)
    rw [cl_nI hj (by decide)]
    rcases (show j = 0 ∨ j = 1 by omega) with rfl | rfl
    · rw [if_pos rfl, if_pos rfl, open_sum h.1 h.bb, pk_sub (Nat.le_add_right _ _), Nat.add_sub_cancel_left]
    · rw [if_neg (by decide), if_pos rfl, if_neg (by decide)]
      exact (fnP_tri h.1 (-6) 23).symm
  · have no : ∀ k, k < 2 → ¬ x = nI k := fun k hk e => c (by rw [e]; exact blw_j hk (by decide))
    rw [if_neg c, if_neg (no 0 (by decide)), if_neg (no 1 (by decide))]
