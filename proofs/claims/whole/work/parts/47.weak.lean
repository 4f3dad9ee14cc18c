/-! the j-th of the weakest places: by choosing, and by rank -/
def cnt (f : Nat → Bool) : Nat → Nat
  | 0 => 0
  | n + 1 => cnt f n + (f n).toNat
theorem cnt_congr {f g : Nat → Bool} : ∀ n, (∀ k, k < n → f k = g k) → cnt f n = cnt g n
  | 0, _ => rfl
  | n + 1, h => by rw [cnt, cnt, cnt_congr n (fun k hk => h k (by omega)), h n (Nat.lt_succ_self n)]
theorem cnt_mono {f g : Nat → Bool} : ∀ n, (∀ k, k < n → f k = true → g k = true) → cnt f n ≤ cnt g n
  | 0, _ => Nat.le_refl 0
  | n + 1, h => by
    have h1 := cnt_mono n (fun k hk => h k (by omega))
    have h2 := h n (Nat.lt_succ_self n)
    rw [cnt, cnt]
    cases e1 : f n
    · have : (false).toNat = 0 := rfl
      omega
    · rw [h2 e1]
      omega
theorem cnt_lt {f g : Nat → Bool} (u : Nat) (hu : g u = true) (hf : f u = false) : ∀ n, u < n → (∀ k, k < n → f k = true → g k = true) → cnt f n < cnt g n
  | 0, h, _ => absurd h (Nat.not_lt_zero _)
  | n + 1, h, hm => by
    rw [cnt, cnt]
    by_cases e : u = n
    · subst e
      have h1 := cnt_mono u (fun k hk => hm k (by omega))
      rw [hu, hf]
      show cnt f u + 0 < cnt g u + 1
      omega
    · have h1 := cnt_lt u hu hf n (by omega) (fun k hk => hm k (by omega))
      have h2 := hm n (Nat.lt_succ_self n)
      cases e1 : f n
      · show cnt f n + 0 < _
        omega
      · rw [h2 e1]
        omega
theorem cnt_ex {f : Nat → Bool} : ∀ n, cnt f n < n → ∃ k, k < n ∧ f k = false
  | 0, h => absurd h (Nat.not_lt_zero _)
  | n + 1, h => by
    rw [cnt] at h
    cases e : f n
    · exact ⟨n, Nat.lt_succ_self n, e⟩
    · rw [e] at h
      have : cnt f n < n := by
        have h2 : cnt f n + 1 < n + 1 := h
        omega
      obtain ⟨k, hk, q⟩ := cnt_ex n this
      exact ⟨k, by omega, q⟩
theorem cnt_add {f : Nat → Bool} (u : Nat) (hf : f u = false) : ∀ n, u < n → cnt (fun k => f k || decide (k = u)) n = cnt f n + 1
  | 0, h => absurd h (Nat.not_lt_zero _)
  | n + 1, h => by
    rw [cnt, cnt]
    by_cases e : u = n
    · subst e
      rw [cnt_congr (f := fun k => f k || decide (k = u)) (g := f) u (fun k hk => by rw [decide_eq_false (by omega), Bool.or_false]), hf]
      simp
    · rw [cnt_add u hf n (by omega), decide_eq_false (by omega), Bool.or_false]
      omega
theorem cnt_false : ∀ n, cnt (fun _ => false) n = 0
  | 0 => rfl
  | n + 1 => by rw [cnt, cnt_false n]; rfl
/-- places by how sure they are, and by number -/
def gk (V : Nat → Nat) (k : Nat) : Nat := 23 * V k + k
def rkN (V : Nat → Nat) (a : Nat) : Nat := cnt (fun k => decide (gk V k < gk V a)) 23
theorem ahd_cnt {V X : Nat → Nat} (h : ∀ q, q < 23 → X (17 + q) = V q) {a : Nat} (ha : a < 23) : ∀ k, k ≤ 23 → ahdL X a k = cnt (fun k => decide (gk V k < gk V a)) k
  | 0, _ => rfl
  | k + 1, hk => by
    rw [ahdL, cnt, ahd_cnt h ha k (by omega)]
    congr 2
    unfold ahdB gk
    rw [h k (by omega), h a ha]
    by_cases c1 : V k < V a
    · rw [decide_eq_true c1, decide_eq_true (show 23 * V k + k < 23 * V a + a by omega)]; rfl
    · by_cases c2 : V k = V a
      · rw [decide_eq_false c1, decide_eq_true c2]
        by_cases c3 : k < a
        · rw [decide_eq_true c3, decide_eq_true (by omega)]; rfl
        · rw [decide_eq_false c3, decide_eq_false (by omega)]; rfl
      · rw [decide_eq_false c1, decide_eq_false c2, decide_eq_false (show ¬ 23 * V k + k < 23 * V a + a by omega)]; rfl
theorem gk_inj {V : Nat → Nat} {a b : Nat} (ha : a < 23) (hb : b < 23) (h : gk V a = gk V b) : a = b := by
  unfold gk at h
  omega
theorem rk_lt {V : Nat → Nat} {a b : Nat} (ha : a < 23) (h : gk V a < gk V b) : rkN V a < rkN V b := by
  refine cnt_lt a (decide_eq_true h) (decide_eq_false (Nat.lt_irrefl _)) 23 ha (fun k _ q => ?_)
  have := of_decide_eq_true q
  exact decide_eq_true (by omega)
theorem rk_inj {V : Nat → Nat} {a b : Nat} (ha : a < 23) (hb : b < 23) (h : rkN V a = rkN V b) : a = b := by
  rcases Nat.lt_trichotomy (gk V a) (gk V b) with q | q | q
  · have := rk_lt ha q; omega
  · exact gk_inj ha hb q
  · have := rk_lt hb q; omega
/-- what weakestBut chooses -/
theorem wb_spec {V : Nat → Nat} (hV : ∀ q, q < 23 → V q ≤ 9) (v : Nat) : ∀ n, n ≤ 23 → ((∀ k, k < n → v.testBit k = true) ∧ wbL V v n = (0, 10)) ∨ ∃ u, u < n ∧ v.testBit u = false ∧ wbL V v n = (u, V u) ∧ ∀ k, k < n → v.testBit k = false → gk V u ≤ gk V k
  | 0, _ => Or.inl ⟨fun k hk => absurd hk (Nat.not_lt_zero _), rfl⟩
  | n + 1, hn => by
    have hb : v >>> n &&& 1 = 0 ↔ v.testBit n = false := and1_0 v n
    rcases wb_spec hV v n (by omega) with ⟨h1, h2⟩ | ⟨u, hu, hv, h2, h3⟩
    · by_cases c : v.testBit n = false
      · refine Or.inr ⟨n, Nat.lt_succ_self n, c, ?_, fun k hk q => ?_⟩
        · have := hV n (by omega)
          rw [wbL, h2, if_pos ⟨hb.mpr c, by show V n < 10; omega⟩]
        · by_cases e : k = n
          · rw [e]; exact Nat.le_refl _
          · rw [h1 k (by omega)] at q; cases q
      · refine Or.inl ⟨fun k hk => ?_, ?_⟩
        · by_cases e : k = n
          · rw [e]; cases z : v.testBit n
            · exact absurd z c
            · rfl
          · exact h1 k (by omega)
        · rw [wbL, h2, if_neg (fun q => c (hb.mp q.1))]
    · by_cases c : v.testBit n = false ∧ V n < V u
      · refine Or.inr ⟨n, Nat.lt_succ_self n, c.1, ?_, fun k hk q => ?_⟩
        · rw [wbL, h2, if_pos ⟨hb.mpr c.1, c.2⟩]
        · by_cases e : k = n
          · rw [e]; exact Nat.le_refl _
          · have := h3 k (by omega) q
            unfold gk at this ⊢
            omega
      · refine Or.inr ⟨u, by omega, hv, ?_, fun k hk q => ?_⟩
        · rw [wbL, h2, if_neg (fun q => c ⟨hb.mp q.1, q.2⟩)]
        · by_cases e : k = n
          · subst e
            have : ¬ V k < V u := fun z => c ⟨q, z⟩
            unfold gk
            omega
          · exact h3 k (by omega) q
theorem tk_spec {V : Nat → Nat} (hV : ∀ q, q < 23 → V q ≤ 9) : ∀ j, j ≤ 22 → (∀ k, k < 23 → (tkN V j).testBit k = decide (rkN V k < j)) ∧ cnt (fun k => decide (rkN V k < j)) 23 = j ∧ wsN V j < 23 ∧ rkN V (wsN V j) = j := by
  have key : ∀ j, j ≤ 22 → (∀ k, k < 23 → (tkN V j).testBit k = decide (rkN V k < j)) → cnt (fun k => decide (rkN V k < j)) 23 = j → wsN V j < 23 ∧ rkN V (wsN V j) = j := by
    intro j hj h1 h2
    obtain ⟨k0, hk0, q0⟩ := cnt_ex (f := fun k => decide (rkN V k < j)) 23 (by omega)
    rcases wb_spec hV (tkN V j) 23 (Nat.le_refl _) with ⟨g1, -⟩ | ⟨u, hu, hv, g2, g3⟩
    · have := g1 k0 hk0
      rw [h1 k0 hk0] at this
      rw [this] at q0
      cases q0
    · have e : wsN V j = u := by
        unfold wsN wbN
        rw [g2]
      rw [e]
      refine ⟨hu, ?_⟩
      have hju : ¬ rkN V u < j := by
        rw [h1 u hu] at hv
        exact of_decide_eq_false hv
      have e2 : rkN V u = cnt (fun k => decide (rkN V k < j)) 23 := by
        show cnt (fun k => decide (gk V k < gk V u)) 23 = _
        refine cnt_congr 23 (fun k hk => ?_)
        rw [decide_eq_decide]
        constructor
        · intro q
          refine Classical.byContradiction (fun z => ?_)
          have := g3 k hk (by rw [h1 k hk]; exact decide_eq_false z)
          omega
        · intro q
          rcases Nat.lt_or_ge (gk V k) (gk V u) with z | z
          · exact z
          · have : rkN V u ≤ rkN V k := by
              rcases Nat.eq_or_lt_of_le z with w | w
              · rw [gk_inj hu hk w]; exact Nat.le_refl _
              · exact Nat.le_of_lt (rk_lt hu w)
            omega
      rw [e2, h2]
  intro j
  induction j with
  | zero =>
    intro hj
    have h1 : ∀ k, k < 23 → (tkN V 0).testBit k = decide (rkN V k < 0) := fun k _ => by
      rw [decide_eq_false (Nat.not_lt_zero _)]; exact Nat.zero_testBit k
    have h2 : cnt (fun k => decide (rkN V k < 0)) 23 = 0 := by
      rw [cnt_congr (g := fun _ => false) 23 (fun k _ => decide_eq_false (Nat.not_lt_zero _)), cnt_false]
    exact ⟨h1, h2, key 0 hj h1 h2⟩
  | succ j ih =>
    intro hj
    obtain ⟨a1, a2, a3, a4⟩ := ih (by omega)
    have hs : ∀ k, k < 23 → decide (rkN V k < j + 1) = (decide (rkN V k < j) || decide (k = wsN V j)) := fun k hk => by
      by_cases e : k = wsN V j
      · rw [decide_eq_true e, Bool.or_true]
        exact decide_eq_true (by rw [e, a4]; omega)
      · rw [decide_eq_false e, Bool.or_false, decide_eq_decide]
        have : rkN V k ≠ j := fun q => e (rk_inj hk a3 (by rw [q, a4]))
        omega
    have h1 : ∀ k, k < 23 → (tkN V (j + 1)).testBit k = decide (rkN V k < j + 1) := fun k hk => by
      rw [hs k hk, tkN, Nat.testBit_or, a1 k hk]
      congr 1
      show (1 <<< wsN V j).testBit k = _
      have := tb_bit 1 0 (wsN V j) k
      rw [show (1 : Nat) >>> 0 &&& 1 = 1 from rfl] at this
      rw [this]
      simp
    have h2 : cnt (fun k => decide (rkN V k < j + 1)) 23 = j + 1 := by
      rw [cnt_congr (g := fun k => decide (rkN V k < j) || decide (k = wsN V j)) 23 hs, cnt_add (f := fun k => decide (rkN V k < j)) (wsN V j) (decide_eq_false (by rw [a4]; omega)) 23 a3, a2]
    exact ⟨h1, h2, key (j + 1) hj h1 h2⟩
theorem wkL_at {X : Nat → Nat} {j u : Nat} (hu : ahdL X u 23 = j) (hq : ∀ k, k < 23 → ahdL X k 23 = j → k = u) : ∀ n, n ≤ 23 → u < n → wkL X j n = nI u
  | 0, _, h => absurd h (Nat.not_lt_zero _)
  | n + 1, hn, h => by
    rw [wkL]
    by_cases e : u = n
    · rw [if_pos (by rw [← e]; exact hu), e]
    · rw [if_neg (fun z => e (hq n (by omega) z).symm)]
      exact wkL_at hu hq n (by omega) (by omega)
theorem wk_all {V X : Nat → Nat} (hX : ∀ q, q < 23 → X (17 + q) = V q) (hV : ∀ q, q < 23 → V q ≤ 9) {j : Nat} (hj : j < 4) : wkL X j 23 = nI (wsN V j) := by
  obtain ⟨-, -, h3, h4⟩ := tk_spec hV j (by omega)
  refine wkL_at ?_ (fun k hk z => ?_) 23 (Nat.le_refl _) h3
  · rw [ahd_cnt hX h3 23 (Nat.le_refl _)]; exact h4
  · rw [ahd_cnt hX hk 23 (Nat.le_refl _)] at z
    exact rk_inj hk h3 (Eq.trans (show rkN V k = j from z) h4.symm)
theorem LR.wk {kp : Nat} {n0 : Nat} {F : Nat → Nat} {S : Nat → Nat} {B : Nat → Nat} {V : Nat → Nat} {n1 : Nat} {F1 : Nat → Nat} {S1 : Nat → Nat} {B1 : Nat → Nat} {V1 : Nat → Nat} {n2 : Nat} {F2 : Nat → Nat} {S2 : Nat → Nat} {B2 : Nat → Nat} {V2 : Nat → Nat} {C : Nat → Nat} {X : Nat → Nat} {Y : Nat → Nat} {K : Nat → Nat} {D : Nat → Nat} (h : LR kp n0 F S B V n1 F1 S1 B1 V1 n2 F2 S2 B2 V2 C X Y K D) : ∀ j, j < 4 → wkL X j 23 = nI (wsN V j) := fun j hj => wk_all (fun q hq => (h.1.2.2.2 q hq).1) (fun q hq => (h.1.2.2.2 q hq).2) hj
theorem E_weak {kp : Nat} {n0 : Nat} {F : Nat → Nat} {S : Nat → Nat} {B : Nat → Nat} {V : Nat → Nat} {n1 : Nat} {F1 : Nat → Nat} {S1 : Nat → Nat} {B1 : Nat → Nat} {V1 : Nat → Nat} {n2 : Nat} {F2 : Nat → Nat} {S2 : Nat → Nat} {B2 : Nat → Nat} {V2 : Nat → Nat} {C : Nat → Nat} {X : Nat → Nat} {Y : Nat → Nat} {K : Nat → Nat} {D : Nat → Nat} (h : LR kp n0 F S B V n1 F1 S1 B1 V1 n2 F2 S2 B2 V2 C X Y K D) (x : Int32) : cWeak V x = mWeak X x := by
  unfold cWeak mWeak
  by_cases g : blw x 4 = true
  · rw [if_pos g, if_pos g]
    obtain ⟨j, hj, rfl⟩ := blw_ex g (by decide)
    rw [cl_nI hj (by decide), h.wk j hj]
  · rw [if_neg g, if_neg g]
