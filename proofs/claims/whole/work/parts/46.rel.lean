def RS (n : Nat) (F S B V X : Nat → Nat) : Prop := n ≤ 8 ∧ X 0 = n ∧ (∀ i, i < n → X (1 + i) = F i ∧ X (9 + i) = S i ∧ 0 < F i ∧ F i < 23 ∧ S i < 23 ∧ B i = bakN 2047 (F i) (S i)) ∧ ∀ q, q < 23 → X (17 + q) = V q ∧ V q ≤ 9
def LR (kp : Nat) (n0 : Nat) (F : Nat → Nat) (S : Nat → Nat) (B : Nat → Nat) (V : Nat → Nat) (n1 : Nat) (F1 : Nat → Nat) (S1 : Nat → Nat) (B1 : Nat → Nat) (V1 : Nat → Nat) (n2 : Nat) (F2 : Nat → Nat) (S2 : Nat → Nat) (B2 : Nat → Nat) (V2 : Nat → Nat) (C : Nat → Nat) (X : Nat → Nat) (Y : Nat → Nat) (K : Nat → Nat) (D : Nat → Nat) : Prop := RS n0 F S B V X ∧ kp < 4 ∧ (∀ d, d < 2 → K d = kp >>> d &&& 1) ∧ (¬ kp >>> 0 &&& 1 = 0 → RS n1 F1 S1 B1 V1 Y) ∧ (¬ kp >>> 1 &&& 1 = 0 → RS n2 F2 S2 B2 V2 (fun i => Y (40 + i))) ∧ (∀ i, i < 16 → C i < 8388608) ∧ ∀ i, i < 16 → D i < 8388608


theorem RS.congr {n : Nat} {F S B V X X' : Nat → Nat} (h : RS n F S B V X) (hX : ∀ i, i < 40 → X' i = X i) : RS n F S B V X' := by
  obtain ⟨h1, h2, h3, h4⟩ := h
  refine ⟨h1, by rw [hX 0 (by decide)]; exact h2, fun i hi => ?_, fun q hq => ?_⟩
  · have := h3 i hi
    rw [hX _ (by omega), hX _ (by omega)]
    exact this
  · rw [hX _ (by omega)]
    exact h4 q hq
theorem mv_cond {n0 : Nat} {X : Nat → Nat} (hX : X 0 = n0) (x y : Int32) : cMoveOk n0 x y = true ↔ (mvOk x y = true ∧ kepN (cl x) (cl y) = true ∧ ¬ X 0 = 8) := by
  unfold cMoveOk
  rw [decide_eq_true_iff, hX]
  constructor
  · intro h
    obtain ⟨a, b, h0, ha, hb, rfl, rfl⟩ := mv_ex h.1
    have e := (stay_kep a ha b hb).resolve_left (by omega)
    rw [cl_nI ha (by decide), cl_nI hb (by decide), e] at h
    rw [cl_nI ha (by decide), cl_nI hb (by decide)]
    exact h
  · intro h
    obtain ⟨a, b, h0, ha, hb, rfl, rfl⟩ := mv_ex h.1
    have e := (stay_kep a ha b hb).resolve_left (by omega)
    rw [cl_nI ha (by decide), cl_nI hb (by decide), ← e] at h
    rw [cl_nI ha (by decide), cl_nI hb (by decide)]
    exact h
theorem RS.move {n0 : Nat} {F S B V X : Nat → Nat} (h : RS n0 F S B V X) (x y : Int32) : RS (cMoveN n0 x y) (cMoveF n0 F x y) (cMoveS n0 S x y) (cMoveB n0 B x y) V (mMoveX X x y) := by
  obtain ⟨h1, h2, h3, h4⟩ := h
  have hc := mv_cond h2 x y
  by_cases ok : cMoveOk n0 x y = true
  · have g := hc.mp ok
    unfold cMoveN cMoveF cMoveS cMoveB mMoveX
    rw [if_pos ok, if_pos ok, if_pos ok, if_pos ok, if_pos g]
    obtain ⟨a, b, a0, ha, hb, rfl, rfl⟩ := mv_ex g.1
    rw [cl_nI ha (by decide), cl_nI hb (by decide)]
    have h8 : n0 < 8 := by have := g.2.2; omega
    rw [h2]
    refine ⟨by omega, up_eq, fun i hi => ?_, fun q hq => ?_⟩
    · by_cases e : i = n0
      · subst e
        refine ⟨by rw [up_ne (by omega), up_ne (by omega), up_eq, up_eq], by rw [up_ne (by omega), up_eq, up_eq], by rw [up_eq]; exact a0, by rw [up_eq]; exact ha, by rw [up_eq]; exact hb, by rw [up_eq, up_eq, up_eq]⟩
      · have hh := h3 i (by omega)
        refine ⟨by rw [up_ne (by omega), up_ne (by omega), up_ne (by omega), up_ne e]; exact hh.1, by rw [up_ne (by omega), up_ne (by omega), up_ne (by omega), up_ne e]; exact hh.2.1, by rw [up_ne e]; exact hh.2.2.1, by rw [up_ne e]; exact hh.2.2.2.1, by rw [up_ne e]; exact hh.2.2.2.2.1, by rw [up_ne e, up_ne e, up_ne e]; exact hh.2.2.2.2.2⟩
    · rw [up_ne (by omega), up_ne (by omega), up_ne (by omega)]
      exact h4 q hq
  · unfold cMoveN cMoveF cMoveS cMoveB mMoveX
    rw [if_neg ok, if_neg ok, if_neg ok, if_neg ok, if_neg (fun g => ok (hc.mpr g))]
    exact ⟨h1, h2, h3, h4⟩
theorem shL_get (F : Nat → Nat) (d i : Nat) : ∀ k, shL F d k i = if d ≤ i ∧ i < d + k then F (i + 1) else F i
  | 0 => by rw [if_neg (by omega)]; rfl
  | k + 1 => by
    rw [shL]
    by_cases e : i = d + k
    · rw [e, up_eq, shL_get F d (d + k + 1) k, if_neg (by omega), if_pos (by omega)]
    · rw [up_ne e, shL_get F d i k]
      by_cases g : d ≤ i ∧ i < d + k
      · rw [if_pos g, if_pos (by omega)]
      · rw [if_neg g, if_neg (by omega)]
theorem drpF_get {X : Nat → Nat} {d n : Nat} (hn : n ≤ 8) : ∀ k, d + k + 1 ≤ n → ∀ j, drpF X d k j = if (d + 1 ≤ j ∧ j < d + 1 + k) ∨ (d + 9 ≤ j ∧ j < d + 9 + k) then X (j + 1) else X j
  | 0, _, j => by rw [if_neg (by omega)]; rfl
  | k + 1, hk, j => by
    have ih := drpF_get (X := X) (d := d) hn k (by omega)
    rw [drpF, drpS]
    by_cases e : j = 9 + (d + k)
    · rw [e, up_eq, up_ne (by omega), ih, if_neg (by omega), if_pos (by omega)]
    · rw [up_ne e]
      by_cases f : j = 1 + (d + k)
      · rw [f, up_eq, ih, if_neg (by omega), if_pos (by omega)]
      · rw [up_ne f, ih]
        by_cases g : (d + 1 ≤ j ∧ j < d + 1 + k) ∨ (d + 9 ≤ j ∧ j < d + 9 + k)
        · rw [if_pos g, if_pos (by omega)]
        · rw [if_neg g, if_neg (by omega)]
theorem RS.drop {n0 : Nat} {F S B V X : Nat → Nat} (h : RS n0 F S B V X) (x : Int32) : RS (cDropN n0 x) (cDropA n0 F x) (cDropA n0 S x) (cDropA n0 B x) V (mDropX X x) := by
  obtain ⟨h1, h2, h3, h4⟩ := h
  unfold cDropN cDropA mDropX
  rw [h2]
  by_cases ok : blw x n0 = true
  · rw [if_pos ok, if_pos ok, if_pos ok, if_pos ok, if_pos ok]
    obtain ⟨d, hd, rfl⟩ := blw_ex ok (by omega)
    rw [cl_nI hd (by omega)]
    have dg := drpF_get (X := X) (d := d) h1 (n0 - 1 - d) (by omega)
    refine ⟨by omega, up_eq, fun i hi => ?_, fun q hq => ?_⟩
    · rw [up_ne (by omega), up_ne (by omega), dg, dg, shL_get, shL_get, shL_get]
      by_cases g : d ≤ i
      · rw [if_pos (by omega), if_pos (by omega), if_pos (by omega), if_pos (by omega), if_pos (by omega)]
        have := h3 (i + 1) (by omega)
        rw [show 1 + i + 1 = 1 + (i + 1) by omega, show 9 + i + 1 = 9 + (i + 1) by omega]
        exact this
      · rw [if_neg (by omega), if_neg (by omega), if_neg (by omega), if_neg (by omega), if_neg (by omega)]
        exact h3 i (by omega)
    · rw [up_ne (by omega), dg, if_neg (by omega)]
      exact h4 q hq
  · rw [if_neg ok, if_neg ok, if_neg ok, if_neg ok, if_neg ok]
    exact ⟨h1, h2, h3, h4⟩
theorem RS.sure {n0 : Nat} {F S B V X : Nat → Nat} (h : RS n0 F S B V X) (x y : Int32) : RS n0 F S B (cSureV V x y) (mSureX X x y) := by
  obtain ⟨h1, h2, h3, h4⟩ := h
  unfold cSureV mSureX
  by_cases ok : blw x 23 = true ∧ blw y 10 = true
  · rw [if_pos ok, if_pos ok]
    obtain ⟨d, hd, rfl⟩ := blw_ex ok.1 (by decide)
    obtain ⟨v, hv, rfl⟩ := blw_ex ok.2 (by decide)
    rw [cl_nI hd (by decide), cl_nI hv (by decide)]
    refine ⟨h1, by rw [up_ne (by omega)]; exact h2, fun i hi => ?_, fun q hq => ?_⟩
    · rw [up_ne (by omega), up_ne (by omega)]
      exact h3 i hi
    · by_cases e : q = d
      · rw [e, up_eq, up_eq]
        exact ⟨rfl, by omega⟩
      · rw [up_ne (by omega), up_ne e]
        exact h4 q hq
  · rw [if_neg ok, if_neg ok]
    exact ⟨h1, h2, h3, h4⟩
theorem imgF_get (X Y : Nat → Nat) (d : Nat) : ∀ k j, imgF X Y d k j = if 40 * d ≤ j ∧ j < 40 * d + k then X (j - 40 * d) else Y j
  | 0, j => by rw [if_neg (by omega)]; rfl
  | k + 1, j => by
    rw [imgF]
    by_cases e : j = 40 * d + k
    · rw [e, up_eq, if_pos (by omega), show 40 * d + k - 40 * d = k by omega]
    · rw [up_ne e, imgF_get X Y d k j]
      by_cases g : 40 * d ≤ j ∧ j < 40 * d + k
      · rw [if_pos g, if_pos (by omega)]
      · rw [if_neg g, if_neg (by omega)]
theorem rstF_get (X Y : Nat → Nat) (d : Nat) : ∀ k j, rstF X Y d k j = if j < k then Y (40 * d + j) else X j
  | 0, j => by rw [if_neg (by omega)]; rfl
  | k + 1, j => by
    rw [rstF]
    by_cases e : j = k
    · rw [e, up_eq, if_pos (by omega)]
    · rw [up_ne e, rstF_get X Y d k j]
      by_cases g : j < k
      · rw [if_pos g, if_pos (by omega)]
      · rw [if_neg g, if_neg (by omega)]
theorem kp_or : ∀ kp, kp < 4 → (kp ||| 1 <<< 0 < 4 ∧ (kp ||| 1 <<< 0) >>> 0 &&& 1 = 1 ∧ (kp ||| 1 <<< 0) >>> 1 &&& 1 = kp >>> 1 &&& 1) ∧ (kp ||| 1 <<< 1 < 4 ∧ (kp ||| 1 <<< 1) >>> 1 &&& 1 = 1 ∧ (kp ||| 1 <<< 1) >>> 0 &&& 1 = kp >>> 0 &&& 1) := by decide

theorem cfF_eq {n0 : Nat} {F S B V X : Nat → Nat} (h : RS n0 F S B V X) (w j : Nat) : ∀ k, k ≤ n0 → cfF n0 F S w j k = frdF X w j k
  | 0, _ => rfl
  | k + 1, hk => by
    obtain ⟨e1, e2, -⟩ := h.2.2.1 (n0 - (k + 1)) (by omega)
    rw [cfF, frdF, cfF_eq h w j k (by omega), h.2.1]
    unfold cfR frdR
    rw [e1, e2, bcN_wtN (x := remN (carN w (F (n0 - (k + 1))) (S (n0 - (k + 1))))) (remN_lt (Nat.lt_trans (carL_lt _ _ _ _) (by decide)))]
theorem smL_sum {V X : Nat → Nat} (h : ∀ q, q < 23 → X (17 + q) = V q) : ∀ k, k ≤ 23 → smL V 8388607 k = sumL X k
  | 0, _ => rfl
  | k + 1, hk => by
    have e : 8388607 >>> k &&& 1 = 1 := by
      rw [and1_tb, show (8388607 : Nat) = 2 ^ 23 - 1 from rfl, Nat.testBit_two_pow_sub_one]
      exact decide_eq_true (by omega)
    rw [smL, sumL, if_pos e, smL_sum h k (by omega), h k (by omega)]
theorem kp_sum : ∀ kp, kp < 4 → (if kp >>> 0 &&& 1 = 0 then 0 else 1) + (if kp >>> 1 &&& 1 = 0 then 0 else 2) = kp := by decide

theorem LR.x8 {kp : Nat} {n0 : Nat} {F : Nat → Nat} {S : Nat → Nat} {B : Nat → Nat} {V : Nat → Nat} {n1 : Nat} {F1 : Nat → Nat} {S1 : Nat → Nat} {B1 : Nat → Nat} {V1 : Nat → Nat} {n2 : Nat} {F2 : Nat → Nat} {S2 : Nat → Nat} {B2 : Nat → Nat} {V2 : Nat → Nat} {C : Nat → Nat} {X : Nat → Nat} {Y : Nat → Nat} {K : Nat → Nat} {D : Nat → Nat} (h : LR kp n0 F S B V n1 F1 S1 B1 V1 n2 F2 S2 B2 V2 C X Y K D) : X 0 ≤ 8 := by rw [h.1.2.1]; exact h.1.1
theorem LR.xm {kp : Nat} {n0 : Nat} {F : Nat → Nat} {S : Nat → Nat} {B : Nat → Nat} {V : Nat → Nat} {n1 : Nat} {F1 : Nat → Nat} {S1 : Nat → Nat} {B1 : Nat → Nat} {V1 : Nat → Nat} {n2 : Nat} {F2 : Nat → Nat} {S2 : Nat → Nat} {B2 : Nat → Nat} {V2 : Nat → Nat} {C : Nat → Nat} {X : Nat → Nat} {Y : Nat → Nat} {K : Nat → Nat} {D : Nat → Nat} (h : LR kp n0 F S B V n1 F1 S1 B1 V1 n2 F2 S2 B2 V2 C X Y K D) : ∀ k, k < X 0 → X (1 + k) < 23 ∧ X (9 + k) < 23 := fun k hk => by
  rw [h.1.2.1] at hk
  obtain ⟨e1, e2, -, e3, e4, -⟩ := h.1.2.2.1 k hk
  rw [e1, e2]; exact ⟨e3, e4⟩
theorem LR.xv {kp : Nat} {n0 : Nat} {F : Nat → Nat} {S : Nat → Nat} {B : Nat → Nat} {V : Nat → Nat} {n1 : Nat} {F1 : Nat → Nat} {S1 : Nat → Nat} {B1 : Nat → Nat} {V1 : Nat → Nat} {n2 : Nat} {F2 : Nat → Nat} {S2 : Nat → Nat} {B2 : Nat → Nat} {V2 : Nat → Nat} {C : Nat → Nat} {X : Nat → Nat} {Y : Nat → Nat} {K : Nat → Nat} {D : Nat → Nat} (h : LR kp n0 F S B V n1 F1 S1 B1 V1 n2 F2 S2 B2 V2 C X Y K D) : ∀ q, q < 23 → X (17 + q) ≤ 9 := fun q hq => by rw [(h.1.2.2.2 q hq).1]; exact (h.1.2.2.2 q hq).2
theorem LR.n8 {kp : Nat} {n0 : Nat} {F : Nat → Nat} {S : Nat → Nat} {B : Nat → Nat} {V : Nat → Nat} {n1 : Nat} {F1 : Nat → Nat} {S1 : Nat → Nat} {B1 : Nat → Nat} {V1 : Nat → Nat} {n2 : Nat} {F2 : Nat → Nat} {S2 : Nat → Nat} {B2 : Nat → Nat} {V2 : Nat → Nat} {C : Nat → Nat} {X : Nat → Nat} {Y : Nat → Nat} {K : Nat → Nat} {D : Nat → Nat} (h : LR kp n0 F S B V n1 F1 S1 B1 V1 n2 F2 S2 B2 V2 C X Y K D) : n0 ≤ 8 := h.1.1
theorem LR.bb {kp : Nat} {n0 : Nat} {F : Nat → Nat} {S : Nat → Nat} {B : Nat → Nat} {V : Nat → Nat} {n1 : Nat} {F1 : Nat → Nat} {S1 : Nat → Nat} {B1 : Nat → Nat} {V1 : Nat → Nat} {n2 : Nat} {F2 : Nat → Nat} {S2 : Nat → Nat} {B2 : Nat → Nat} {V2 : Nat → Nat} {C : Nat → Nat} {X : Nat → Nat} {Y : Nat → Nat} {K : Nat → Nat} {D : Nat → Nat} (h : LR kp n0 F S B V n1 F1 S1 B1 V1 n2 F2 S2 B2 V2 C X Y K D) : ∀ i, i < n0 → B i < 8388608 := fun i hi => by rw [(h.1.2.2.1 i hi).2.2.2.2.2]; exact bakL_lt _ _ _ 23 (Nat.le_refl _)
theorem LR.fs {kp : Nat} {n0 : Nat} {F : Nat → Nat} {S : Nat → Nat} {B : Nat → Nat} {V : Nat → Nat} {n1 : Nat} {F1 : Nat → Nat} {S1 : Nat → Nat} {B1 : Nat → Nat} {V1 : Nat → Nat} {n2 : Nat} {F2 : Nat → Nat} {S2 : Nat → Nat} {B2 : Nat → Nat} {V2 : Nat → Nat} {C : Nat → Nat} {X : Nat → Nat} {Y : Nat → Nat} {K : Nat → Nat} {D : Nat → Nat} (h : LR kp n0 F S B V n1 F1 S1 B1 V1 n2 F2 S2 B2 V2 C X Y K D) : ∀ i, i < n0 → F i < 23 ∧ S i < 23 := fun i hi => ⟨(h.1.2.2.1 i hi).2.2.2.1, (h.1.2.2.1 i hi).2.2.2.2.1⟩
theorem LR.vb {kp : Nat} {n0 : Nat} {F : Nat → Nat} {S : Nat → Nat} {B : Nat → Nat} {V : Nat → Nat} {n1 : Nat} {F1 : Nat → Nat} {S1 : Nat → Nat} {B1 : Nat → Nat} {V1 : Nat → Nat} {n2 : Nat} {F2 : Nat → Nat} {S2 : Nat → Nat} {B2 : Nat → Nat} {V2 : Nat → Nat} {C : Nat → Nat} {X : Nat → Nat} {Y : Nat → Nat} {K : Nat → Nat} {D : Nat → Nat} (h : LR kp n0 F S B V n1 F1 S1 B1 V1 n2 F2 S2 B2 V2 C X Y K D) : ∀ q, q < 23 → V q ≤ 9 := fun q hq => (h.1.2.2.2 q hq).2
theorem LR.cb {kp : Nat} {n0 : Nat} {F : Nat → Nat} {S : Nat → Nat} {B : Nat → Nat} {V : Nat → Nat} {n1 : Nat} {F1 : Nat → Nat} {S1 : Nat → Nat} {B1 : Nat → Nat} {V1 : Nat → Nat} {n2 : Nat} {F2 : Nat → Nat} {S2 : Nat → Nat} {B2 : Nat → Nat} {V2 : Nat → Nat} {C : Nat → Nat} {X : Nat → Nat} {Y : Nat → Nat} {K : Nat → Nat} {D : Nat → Nat} (h : LR kp n0 F S B V n1 F1 S1 B1 V1 n2 F2 S2 B2 V2 C X Y K D) : ∀ i, i < 16 → C i < 8388608 := h.2.2.2.2.2.1
theorem LR.db {kp : Nat} {n0 : Nat} {F : Nat → Nat} {S : Nat → Nat} {B : Nat → Nat} {V : Nat → Nat} {n1 : Nat} {F1 : Nat → Nat} {S1 : Nat → Nat} {B1 : Nat → Nat} {V1 : Nat → Nat} {n2 : Nat} {F2 : Nat → Nat} {S2 : Nat → Nat} {B2 : Nat → Nat} {V2 : Nat → Nat} {C : Nat → Nat} {X : Nat → Nat} {Y : Nat → Nat} {K : Nat → Nat} {D : Nat → Nat} (h : LR kp n0 F S B V n1 F1 S1 B1 V1 n2 F2 S2 B2 V2 C X Y K D) : ∀ i, i < 16 → D i < 8388608 := h.2.2.2.2.2.2
theorem LR.kb {kp : Nat} {n0 : Nat} {F : Nat → Nat} {S : Nat → Nat} {B : Nat → Nat} {V : Nat → Nat} {n1 : Nat} {F1 : Nat → Nat} {S1 : Nat → Nat} {B1 : Nat → Nat} {V1 : Nat → Nat} {n2 : Nat} {F2 : Nat → Nat} {S2 : Nat → Nat} {B2 : Nat → Nat} {V2 : Nat → Nat} {C : Nat → Nat} {X : Nat → Nat} {Y : Nat → Nat} {K : Nat → Nat} {D : Nat → Nat} (h : LR kp n0 F S B V n1 F1 S1 B1 V1 n2 F2 S2 B2 V2 C X Y K D) : ∀ i, i < 2 → K i ≤ 1 := fun i hi => by rw [h.2.2.1 i hi]; exact Nat.and_le_right
theorem LR.k4 {kp : Nat} {n0 : Nat} {F : Nat → Nat} {S : Nat → Nat} {B : Nat → Nat} {V : Nat → Nat} {n1 : Nat} {F1 : Nat → Nat} {S1 : Nat → Nat} {B1 : Nat → Nat} {V1 : Nat → Nat} {n2 : Nat} {F2 : Nat → Nat} {S2 : Nat → Nat} {B2 : Nat → Nat} {V2 : Nat → Nat} {C : Nat → Nat} {X : Nat → Nat} {Y : Nat → Nat} {K : Nat → Nat} {D : Nat → Nat} (h : LR kp n0 F S B V n1 F1 S1 B1 V1 n2 F2 S2 B2 V2 C X Y K D) : kp < 4 := h.2.1
theorem LR.move {kp : Nat} {n0 : Nat} {F : Nat → Nat} {S : Nat → Nat} {B : Nat → Nat} {V : Nat → Nat} {n1 : Nat} {F1 : Nat → Nat} {S1 : Nat → Nat} {B1 : Nat → Nat} {V1 : Nat → Nat} {n2 : Nat} {F2 : Nat → Nat} {S2 : Nat → Nat} {B2 : Nat → Nat} {V2 : Nat → Nat} {C : Nat → Nat} {X : Nat → Nat} {Y : Nat → Nat} {K : Nat → Nat} {D : Nat → Nat} (h : LR kp n0 F S B V n1 F1 S1 B1 V1 n2 F2 S2 B2 V2 C X Y K D) (x y : Int32) : LR kp (cMoveN n0 x y) (cMoveF n0 F x y) (cMoveS n0 S x y) (cMoveB n0 B x y) V n1 F1 S1 B1 V1 n2 F2 S2 B2 V2 C (mMoveX X x y) Y K D := ⟨h.1.move x y, h.2⟩
theorem LR.drop {kp : Nat} {n0 : Nat} {F : Nat → Nat} {S : Nat → Nat} {B : Nat → Nat} {V : Nat → Nat} {n1 : Nat} {F1 : Nat → Nat} {S1 : Nat → Nat} {B1 : Nat → Nat} {V1 : Nat → Nat} {n2 : Nat} {F2 : Nat → Nat} {S2 : Nat → Nat} {B2 : Nat → Nat} {V2 : Nat → Nat} {C : Nat → Nat} {X : Nat → Nat} {Y : Nat → Nat} {K : Nat → Nat} {D : Nat → Nat} (h : LR kp n0 F S B V n1 F1 S1 B1 V1 n2 F2 S2 B2 V2 C X Y K D) (x : Int32) : LR kp (cDropN n0 x) (cDropA n0 F x) (cDropA n0 S x) (cDropA n0 B x) V n1 F1 S1 B1 V1 n2 F2 S2 B2 V2 C (mDropX X x) Y K D := ⟨h.1.drop x, h.2⟩
theorem LR.sure {kp : Nat} {n0 : Nat} {F : Nat → Nat} {S : Nat → Nat} {B : Nat → Nat} {V : Nat → Nat} {n1 : Nat} {F1 : Nat → Nat} {S1 : Nat → Nat} {B1 : Nat → Nat} {V1 : Nat → Nat} {n2 : Nat} {F2 : Nat → Nat} {S2 : Nat → Nat} {B2 : Nat → Nat} {V2 : Nat → Nat} {C : Nat → Nat} {X : Nat → Nat} {Y : Nat → Nat} {K : Nat → Nat} {D : Nat → Nat} (h : LR kp n0 F S B V n1 F1 S1 B1 V1 n2 F2 S2 B2 V2 C X Y K D) (x y : Int32) : LR kp n0 F S B (cSureV V x y) n1 F1 S1 B1 V1 n2 F2 S2 B2 V2 C (mSureX X x y) Y K D := ⟨h.1.sure x y, h.2⟩
theorem LR.chosen {kp : Nat} {n0 : Nat} {F : Nat → Nat} {S : Nat → Nat} {B : Nat → Nat} {V : Nat → Nat} {n1 : Nat} {F1 : Nat → Nat} {S1 : Nat → Nat} {B1 : Nat → Nat} {V1 : Nat → Nat} {n2 : Nat} {F2 : Nat → Nat} {S2 : Nat → Nat} {B2 : Nat → Nat} {V2 : Nat → Nat} {C : Nat → Nat} {X : Nat → Nat} {Y : Nat → Nat} {K : Nat → Nat} {D : Nat → Nat} (h : LR kp n0 F S B V n1 F1 S1 B1 V1 n2 F2 S2 B2 V2 C X Y K D) (x y z : Int32) : LR kp n0 F S B V n1 F1 S1 B1 V1 n2 F2 S2 B2 V2 (cChosenC errT V C x y z) X Y K (mChosenC errT (wsN V) D x y z) := by
  refine ⟨h.1, h.2.1, h.2.2.1, h.2.2.2.1, h.2.2.2.2.1, ?_, ?_⟩
  · unfold cChosenC
    split
    · rename_i q
      obtain ⟨w, hw, rfl⟩ := blw_ex q.1 (by decide)
      obtain ⟨t, ht, rfl⟩ := blw_ex q.2.1 (by decide)
      rw [cl_nI hw (by decide), cl_nI ht (by decide)]
      exact flN_lt errT_lt (flO_lt hw h.2.2.2.2.2.1 t (by omega)) _ (shl16 (by omega))
    · exact h.2.2.2.2.2.1
  · unfold mChosenC
    split
    · rename_i q
      obtain ⟨w, hw, rfl⟩ := blw_ex q.1 (by decide)
      obtain ⟨t, ht, rfl⟩ := blw_ex q.2.1 (by decide)
      rw [cl_nI hw (by decide), cl_nI ht (by decide)]
      exact comA_lt errT_lt (fun j _ => wbN_lt _ _) hw (by omega) h.2.2.2.2.2.2 _
    · exact h.2.2.2.2.2.2
theorem LR.image0 {kp : Nat} {n0 : Nat} {F : Nat → Nat} {S : Nat → Nat} {B : Nat → Nat} {V : Nat → Nat} {n1 : Nat} {F1 : Nat → Nat} {S1 : Nat → Nat} {B1 : Nat → Nat} {V1 : Nat → Nat} {n2 : Nat} {F2 : Nat → Nat} {S2 : Nat → Nat} {B2 : Nat → Nat} {V2 : Nat → Nat} {C : Nat → Nat} {X : Nat → Nat} {Y : Nat → Nat} {K : Nat → Nat} {D : Nat → Nat} (h : LR kp n0 F S B V n1 F1 S1 B1 V1 n2 F2 S2 B2 V2 C X Y K D) : LR (kp ||| 1 <<< 0) n0 F S B V (n0) (F) (S) (B) (V) n2 F2 S2 B2 V2 C X (mImageY X Y (nI 0)) (mImageK K (nI 0)) D := by
  have kq := (kp_or kp h.2.1).1
  have e1 : mImageY X Y (nI 0) = imgF X Y 0 40 := by unfold mImageY; rw [if_pos (blw_j (by decide) (by decide)), cl_nI (N := 1) (by decide) (by decide)]
  have e2 : mImageK K (nI 0) = va_up K 0 1 := by unfold mImageK; rw [if_pos (blw_j (by decide) (by decide)), cl_nI (N := 1) (by decide) (by decide)]
  rw [e1, e2]
  refine ⟨h.1, kq.1, fun d hd => ?_, fun _ => h.1.congr (fun i hi => by rw [imgF_get, if_pos (by omega), Nat.mul_zero, Nat.sub_zero]), fun g => ?_, h.2.2.2.2.2⟩
  · rcases (show d = 0 ∨ d = 1 by omega) with rfl | rfl
    · rw [up_eq, kq.2.1]
    · rw [up_ne (by decide), h.2.2.1 1 (by decide), kq.2.2]
  · rw [kq.2.2] at g
    exact (h.2.2.2.2.1 g).congr (fun i hi => by show imgF X Y 0 40 (40 + i) = _; rw [imgF_get, if_neg (by omega)])
theorem LR.image1 {kp : Nat} {n0 : Nat} {F : Nat → Nat} {S : Nat → Nat} {B : Nat → Nat} {V : Nat → Nat} {n1 : Nat} {F1 : Nat → Nat} {S1 : Nat → Nat} {B1 : Nat → Nat} {V1 : Nat → Nat} {n2 : Nat} {F2 : Nat → Nat} {S2 : Nat → Nat} {B2 : Nat → Nat} {V2 : Nat → Nat} {C : Nat → Nat} {X : Nat → Nat} {Y : Nat → Nat} {K : Nat → Nat} {D : Nat → Nat} (h : LR kp n0 F S B V n1 F1 S1 B1 V1 n2 F2 S2 B2 V2 C X Y K D) : LR (kp ||| 1 <<< 1) n0 F S B V n1 F1 S1 B1 V1 (n0) (F) (S) (B) (V) C X (mImageY X Y (nI 1)) (mImageK K (nI 1)) D := by
  have kq := (kp_or kp h.2.1).2
  have e1 : mImageY X Y (nI 1) = imgF X Y 1 40 := by unfold mImageY; rw [if_pos (blw_j (by decide) (by decide)), cl_nI (N := 2) (by decide) (by decide)]
  have e2 : mImageK K (nI 1) = va_up K 1 1 := by unfold mImageK; rw [if_pos (blw_j (by decide) (by decide)), cl_nI (N := 2) (by decide) (by decide)]
  rw [e1, e2]
  refine ⟨h.1, kq.1, fun d hd => ?_, fun g => ?_, fun _ => h.1.congr (fun i hi => by show imgF X Y 1 40 (40 + i) = _; rw [imgF_get, if_pos (by omega), show 40 + i - 40 * 1 = i by omega]), h.2.2.2.2.2⟩
  · rcases (show d = 0 ∨ d = 1 by omega) with rfl | rfl
    · rw [up_ne (by decide), h.2.2.1 0 (by decide), kq.2.2]
    · rw [up_eq, kq.2.1]
  · rw [kq.2.2] at g
    exact (h.2.2.2.1 g).congr (fun i hi => by rw [imgF_get, if_neg (by omega)])
theorem LR.image_n {kp : Nat} {n0 : Nat} {F : Nat → Nat} {S : Nat → Nat} {B : Nat → Nat} {V : Nat → Nat} {n1 : Nat} {F1 : Nat → Nat} {S1 : Nat → Nat} {B1 : Nat → Nat} {V1 : Nat → Nat} {n2 : Nat} {F2 : Nat → Nat} {S2 : Nat → Nat} {B2 : Nat → Nat} {V2 : Nat → Nat} {C : Nat → Nat} {X : Nat → Nat} {Y : Nat → Nat} {K : Nat → Nat} {D : Nat → Nat} (h : LR kp n0 F S B V n1 F1 S1 B1 V1 n2 F2 S2 B2 V2 C X Y K D) {x : Int32} (hx : blw x 2 = false) : LR kp n0 F S B V n1 F1 S1 B1 V1 n2 F2 S2 B2 V2 C X (mImageY X Y x) (mImageK K x) D := by
  have e1 : mImageY X Y x = Y := by unfold mImageY; rw [if_neg (by rw [hx]; decide)]
  have e2 : mImageK K x = K := by unfold mImageK; rw [if_neg (by rw [hx]; decide)]
  rw [e1, e2]; exact h
theorem LR.restore_s {kp : Nat} {n0 : Nat} {F : Nat → Nat} {S : Nat → Nat} {B : Nat → Nat} {V : Nat → Nat} {n1 : Nat} {F1 : Nat → Nat} {S1 : Nat → Nat} {B1 : Nat → Nat} {V1 : Nat → Nat} {n2 : Nat} {F2 : Nat → Nat} {S2 : Nat → Nat} {B2 : Nat → Nat} {V2 : Nat → Nat} {C : Nat → Nat} {X : Nat → Nat} {Y : Nat → Nat} {K : Nat → Nat} {D : Nat → Nat} (h : LR kp n0 F S B V n1 F1 S1 B1 V1 n2 F2 S2 B2 V2 C X Y K D) {d : Nat} (hd : d < 2) (hk : kp >>> d &&& 1 = 0) : LR kp n0 F S B V n1 F1 S1 B1 V1 n2 F2 S2 B2 V2 C (mRestoreX X Y K (nI d)) Y K D := by
  have e1 : mRestoreX X Y K (nI d) = X := by unfold mRestoreX; rw [if_neg (fun q => q.2 (by rw [cl_nI hd (by decide), h.2.2.1 d hd]; exact hk))]
  rw [e1]; exact h
theorem LR.restore0 {kp : Nat} {n0 : Nat} {F : Nat → Nat} {S : Nat → Nat} {B : Nat → Nat} {V : Nat → Nat} {n1 : Nat} {F1 : Nat → Nat} {S1 : Nat → Nat} {B1 : Nat → Nat} {V1 : Nat → Nat} {n2 : Nat} {F2 : Nat → Nat} {S2 : Nat → Nat} {B2 : Nat → Nat} {V2 : Nat → Nat} {C : Nat → Nat} {X : Nat → Nat} {Y : Nat → Nat} {K : Nat → Nat} {D : Nat → Nat} (h : LR kp n0 F S B V n1 F1 S1 B1 V1 n2 F2 S2 B2 V2 C X Y K D) (hk : ¬ kp >>> 0 &&& 1 = 0) : LR kp (n1) (F1) (S1) (B1) (V1) n1 F1 S1 B1 V1 n2 F2 S2 B2 V2 C (mRestoreX X Y K (nI 0)) Y K D := by
  have e1 : mRestoreX X Y K (nI 0) = rstF X Y 0 40 := by unfold mRestoreX; rw [cl_nI (N := 1) (by decide) (by decide), if_pos ⟨blw_j (by decide) (by decide), by rw [h.2.2.1 0 (by decide)]; exact hk⟩]
  rw [e1]
  exact ⟨(h.2.2.2.1 hk).congr (fun i hi => by rw [rstF_get, if_pos hi, Nat.mul_zero, Nat.zero_add]), h.2⟩
theorem LR.restore1 {kp : Nat} {n0 : Nat} {F : Nat → Nat} {S : Nat → Nat} {B : Nat → Nat} {V : Nat → Nat} {n1 : Nat} {F1 : Nat → Nat} {S1 : Nat → Nat} {B1 : Nat → Nat} {V1 : Nat → Nat} {n2 : Nat} {F2 : Nat → Nat} {S2 : Nat → Nat} {B2 : Nat → Nat} {V2 : Nat → Nat} {C : Nat → Nat} {X : Nat → Nat} {Y : Nat → Nat} {K : Nat → Nat} {D : Nat → Nat} (h : LR kp n0 F S B V n1 F1 S1 B1 V1 n2 F2 S2 B2 V2 C X Y K D) (hk : ¬ kp >>> 1 &&& 1 = 0) : LR kp (n2) (F2) (S2) (B2) (V2) n1 F1 S1 B1 V1 n2 F2 S2 B2 V2 C (mRestoreX X Y K (nI 1)) Y K D := by
  have e1 : mRestoreX X Y K (nI 1) = rstF X Y 1 40 := by unfold mRestoreX; rw [cl_nI (N := 2) (by decide) (by decide), if_pos ⟨blw_j (by decide) (by decide), by rw [h.2.2.1 1 (by decide)]; exact hk⟩]
  rw [e1]
  exact ⟨(h.2.2.2.2.1 hk).congr (fun i hi => by rw [rstF_get, if_pos hi]), h.2⟩
theorem LR.restore_n {kp : Nat} {n0 : Nat} {F : Nat → Nat} {S : Nat → Nat} {B : Nat → Nat} {V : Nat → Nat} {n1 : Nat} {F1 : Nat → Nat} {S1 : Nat → Nat} {B1 : Nat → Nat} {V1 : Nat → Nat} {n2 : Nat} {F2 : Nat → Nat} {S2 : Nat → Nat} {B2 : Nat → Nat} {V2 : Nat → Nat} {C : Nat → Nat} {X : Nat → Nat} {Y : Nat → Nat} {K : Nat → Nat} {D : Nat → Nat} (h : LR kp n0 F S B V n1 F1 S1 B1 V1 n2 F2 S2 B2 V2 C X Y K D) {x : Int32} (hx : blw x 2 = false) : LR kp n0 F S B V n1 F1 S1 B1 V1 n2 F2 S2 B2 V2 C (mRestoreX X Y K x) Y K D := by
  have e1 : mRestoreX X Y K x = X := by unfold mRestoreX; rw [if_neg (fun q => by rw [hx] at q; exact absurd q.1 (by decide))]
  rw [e1]; exact h
theorem LR_start  : LR 0 0 (fun _ => 0) (fun _ => 0) (fun _ => 0) (fun _ => 9) 0 (fun _ => 0) (fun _ => 0) (fun _ => 0) (fun _ => 9) 0 (fun _ => 0) (fun _ => 0) (fun _ => 0) (fun _ => 9) (fun _ => 0) stX0 (fun _ => 0) (fun _ => 0) (fun _ => 0) := by
  have z : RS 0 (fun _ => 0) (fun _ => 0) (fun _ => 0) (fun _ => 9) stX0 := ⟨by decide, rfl, fun i hi => absurd hi (Nat.not_lt_zero _), fun q hq => ⟨by show (if 17 + q < 17 then 0 else 9) = 9; rw [if_neg (by omega)], Nat.le_refl _⟩⟩
  refine ⟨z, by decide, fun d _ => by rw [Nat.zero_shiftRight]; rfl, fun g => absurd (by decide) g, fun g => absurd (by decide) g, fun _ _ => Nat.le_of_ble_eq_true rfl, fun _ _ => Nat.le_of_ble_eq_true rfl⟩
theorem E_move {kp : Nat} {n0 : Nat} {F : Nat → Nat} {S : Nat → Nat} {B : Nat → Nat} {V : Nat → Nat} {n1 : Nat} {F1 : Nat → Nat} {S1 : Nat → Nat} {B1 : Nat → Nat} {V1 : Nat → Nat} {n2 : Nat} {F2 : Nat → Nat} {S2 : Nat → Nat} {B2 : Nat → Nat} {V2 : Nat → Nat} {C : Nat → Nat} {X : Nat → Nat} {Y : Nat → Nat} {K : Nat → Nat} {D : Nat → Nat} (h : LR kp n0 F S B V n1 F1 S1 B1 V1 n2 F2 S2 B2 V2 C X Y K D) (x y : Int32) : cMoveR n0 x y = mMoveR X x y := by
  unfold cMoveR mMoveR
  rw [h.1.2.1]
  by_cases g : mvOk x y = true
  · rw [if_pos g, if_pos g]
    obtain ⟨a, b, a0, ha, hb, rfl, rfl⟩ := mv_ex g
    rw [cl_nI ha (by decide), cl_nI hb (by decide), (stay_kep a ha b hb).resolve_left (by omega)]
  · rw [if_neg g, if_neg g]
theorem E_drop {kp : Nat} {n0 : Nat} {F : Nat → Nat} {S : Nat → Nat} {B : Nat → Nat} {V : Nat → Nat} {n1 : Nat} {F1 : Nat → Nat} {S1 : Nat → Nat} {B1 : Nat → Nat} {V1 : Nat → Nat} {n2 : Nat} {F2 : Nat → Nat} {S2 : Nat → Nat} {B2 : Nat → Nat} {V2 : Nat → Nat} {C : Nat → Nat} {X : Nat → Nat} {Y : Nat → Nat} {K : Nat → Nat} {D : Nat → Nat} (h : LR kp n0 F S B V n1 F1 S1 B1 V1 n2 F2 S2 B2 V2 C X Y K D) (x : Int32) : cDropR n0 x = mDropR X x := by
  unfold cDropR mDropR
  rw [h.1.2.1]
theorem E_sure {kp : Nat} {n0 : Nat} {F : Nat → Nat} {S : Nat → Nat} {B : Nat → Nat} {V : Nat → Nat} {n1 : Nat} {F1 : Nat → Nat} {S1 : Nat → Nat} {B1 : Nat → Nat} {V1 : Nat → Nat} {n2 : Nat} {F2 : Nat → Nat} {S2 : Nat → Nat} {B2 : Nat → Nat} {V2 : Nat → Nat} {C : Nat → Nat} {X : Nat → Nat} {Y : Nat → Nat} {K : Nat → Nat} {D : Nat → Nat} (h : LR kp n0 F S B V n1 F1 S1 B1 V1 n2 F2 S2 B2 V2 C X Y K D) (x y : Int32) : cSureR V x y = mSureR X x y := by
  unfold cSureR mSureR
  by_cases g : blw x 23 = true ∧ blw y 10 = true
  · rw [if_pos g, if_pos g]
    obtain ⟨d, hd, rfl⟩ := blw_ex g.1 (by decide)
    rw [cl_nI hd (by decide), (h.1.2.2.2 d hd).1]
  · rw [if_neg g, if_neg g]
theorem E_image (d : Nat) (hd : d < 2) : mImageR (nI d) = nI 1 := by unfold mImageR; rw [if_pos (blw_j hd (by decide))]
theorem E_image_n {x : Int32} (hx : blw x 2 = false) : mImageR x = -2 := by unfold mImageR; rw [if_neg (by rw [hx]; decide)]
theorem E_restore_s {kp : Nat} {n0 : Nat} {F : Nat → Nat} {S : Nat → Nat} {B : Nat → Nat} {V : Nat → Nat} {n1 : Nat} {F1 : Nat → Nat} {S1 : Nat → Nat} {B1 : Nat → Nat} {V1 : Nat → Nat} {n2 : Nat} {F2 : Nat → Nat} {S2 : Nat → Nat} {B2 : Nat → Nat} {V2 : Nat → Nat} {C : Nat → Nat} {X : Nat → Nat} {Y : Nat → Nat} {K : Nat → Nat} {D : Nat → Nat} (h : LR kp n0 F S B V n1 F1 S1 B1 V1 n2 F2 S2 B2 V2 C X Y K D) {d : Nat} (hd : d < 2) (hk : kp >>> d &&& 1 = 0) : mRestoreR K (nI d) = -3 := by unfold mRestoreR; rw [if_pos (blw_j hd (by decide)), cl_nI hd (by decide), if_pos (by rw [h.2.2.1 d hd]; exact hk)]
theorem E_restore_k {kp : Nat} {n0 : Nat} {F : Nat → Nat} {S : Nat → Nat} {B : Nat → Nat} {V : Nat → Nat} {n1 : Nat} {F1 : Nat → Nat} {S1 : Nat → Nat} {B1 : Nat → Nat} {V1 : Nat → Nat} {n2 : Nat} {F2 : Nat → Nat} {S2 : Nat → Nat} {B2 : Nat → Nat} {V2 : Nat → Nat} {C : Nat → Nat} {X : Nat → Nat} {Y : Nat → Nat} {K : Nat → Nat} {D : Nat → Nat} (h : LR kp n0 F S B V n1 F1 S1 B1 V1 n2 F2 S2 B2 V2 C X Y K D) {d : Nat} (hd : d < 2) (hk : ¬ kp >>> d &&& 1 = 0) : mRestoreR K (nI d) = nI 1 := by unfold mRestoreR; rw [if_pos (blw_j hd (by decide)), cl_nI hd (by decide), if_neg (by rw [h.2.2.1 d hd]; exact hk)]
theorem E_restore_n {x : Int32} {K : Nat → Nat} (hx : blw x 2 = false) : mRestoreR K x = -2 := by unfold mRestoreR; rw [if_neg (by rw [hx]; decide)]
theorem E_freed {kp : Nat} {n0 : Nat} {F : Nat → Nat} {S : Nat → Nat} {B : Nat → Nat} {V : Nat → Nat} {n1 : Nat} {F1 : Nat → Nat} {S1 : Nat → Nat} {B1 : Nat → Nat} {V1 : Nat → Nat} {n2 : Nat} {F2 : Nat → Nat} {S2 : Nat → Nat} {B2 : Nat → Nat} {V2 : Nat → Nat} {C : Nat → Nat} {X : Nat → Nat} {Y : Nat → Nat} {K : Nat → Nat} {D : Nat → Nat} (h : LR kp n0 F S B V n1 F1 S1 B1 V1 n2 F2 S2 B2 V2 C X Y K D) (x y : Int32) : cFreed n0 F S x y = mFreed X x y := by
  unfold cFreed mFreed
  by_cases g : blw x 8388608 = true ∧ blw y 2 = true
  · rw [if_pos g, if_pos g, cfF_eq h.1 _ _ n0 (Nat.le_refl _), h.1.2.1]
  · rw [if_neg g, if_neg g]
theorem E_count {kp : Nat} {n0 : Nat} {F : Nat → Nat} {S : Nat → Nat} {B : Nat → Nat} {V : Nat → Nat} {n1 : Nat} {F1 : Nat → Nat} {S1 : Nat → Nat} {B1 : Nat → Nat} {V1 : Nat → Nat} {n2 : Nat} {F2 : Nat → Nat} {S2 : Nat → Nat} {B2 : Nat → Nat} {V2 : Nat → Nat} {C : Nat → Nat} {X : Nat → Nat} {Y : Nat → Nat} {K : Nat → Nat} {D : Nat → Nat} (h : LR kp n0 F S B V n1 F1 S1 B1 V1 n2 F2 S2 B2 V2 C X Y K D) (x : Int32) : cCount n0 kp V x = mCount X K x := by
  unfold cCount mCount
  by_cases a : inI x (nI 10) (nI 33) = true
  · obtain ⟨j, h1, h2, rfl⟩ := inI_ex2 a (by decide) (by decide)
    rw [if_neg (nI_ne0 (by omega) (by omega)), if_neg (fun q => by have := (nI_eqI (by omega) (by omega)).mp q; omega), if_neg (fun q => by have := (nI_eqI (by omega) (by omega)).mp q; omega), if_pos a, if_pos a, cl_nI (N := 34) (by omega) (by decide), aro_zero (by omega)]
  · by_cases b : inI x (nI 40) (nI 62) = true
    · obtain ⟨j, h1, h2, rfl⟩ := inI_ex2 b (by decide) (by decide)
      rw [if_neg (nI_ne0 (by omega) (by omega)), if_neg (fun q => by have := (nI_eqI (by omega) (by omega)).mp q; omega), if_neg (fun q => by have := (nI_eqI (by omega) (by omega)).mp q; omega), if_neg a, if_pos b, if_neg a, if_pos b, cl_nI (N := 63) (by omega) (by decide), show 17 + j - 40 = 17 + (j - 40) by omega, (h.1.2.2.2 (j - 40) (by omega)).1]
    · rw [if_neg a, if_neg b, if_neg a, if_neg b, show (0 : Int32) = nI 0 from rfl, h.1.2.1, smL_sum (fun q hq => (h.1.2.2.2 q hq).1) 23 (Nat.le_refl _), h.2.2.1 0 (by decide), h.2.2.1 1 (by decide), kp_sum kp h.2.1]
