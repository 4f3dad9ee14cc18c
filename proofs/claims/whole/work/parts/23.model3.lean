set_option maxHeartbeats 4000000 in
set_option maxRecDepth 100000 in
/-- layTries -/
theorem c_X6_layTries (l : Launch) (G : EG) (o : Nat) (sa : Nat) (ia : Nat) (ka : Nat) (ea : Nat) (ca : Nat) (tr : Nat) (fi : Int32) (X : Nat → Nat) (hlv : ∀ q, q < 23 → X (17 + q) ≤ 9) (E : Nat → Nat) (hEb : ∀ i, i < 2048 → E i < 8388608) (C : Nat → Nat) (wk : Nat → Nat) (hwk : ∀ j, j < 4 → wkL X j 23 = nI (wk j)) (hwk2 : ∀ j, j < 4 → wk j < 23) (w : Nat) (t : Nat) (hw : w < 8388608) (ht : t ≤ 4) (sz : Nat) : WR l yX6_layTries wsX6_layTries (rmR 2 43) G sz [(o, .inr (5, [.ref sa, .ref ia, .ref ka, .ref ea, .int (nI tr), .int fi, .ref ca])), (sa, aI G 40 X), (ea, aI G 2048 E), (ca, aI G 16 C)] [.ref o, .int (nI w), .int (nI t)] [(o, .inr (5, [.ref sa, .ref ia, .ref ka, .ref ea, .int (nI tr), .int fi, .ref ca])), (sa, aI G 40 X), (ea, aI G 2048 E), (ca, aI G 16 (comA E wk w t C (1 <<< t)))] none := by
  refine WR.start (by decide) rfl (Nat.le_of_ble_eq_true rfl) ?_
  intro p e s m below meth c hx hb hr hml hts hown hlocks hE A hA H locs hP hD hS ls hl
  have hown : s.vm.findClass RX6 = some m.cls := hown
  have hl : lv_has ls 6 [(0, .ref o), (1, .int (nI w)), (2, .int (nI t))] := hl
  refine lv_iconst (v := nI 0) hx hb dX6_layTries_0 (by decide) ?_
  refine lv_istore_n (lv' := [(3, .int (nI 0)), (0, .ref o), (1, .int (nI w)), (2, .int (nI t))]) hx hb dX6_layTries_1 rfl hl (by decide) rfl (fun ls hl => ?_)
  have loop2 : ∀ (fuel : Nat) (k : Nat) (D : Nat → Nat), (k ≤ 1 <<< t) → (D = comA E wk w t C k) → 1 <<< t - k < fuel → ∀ (H : Heap) (locs : List Loc), va_P G.1 vwCl [(o, .inr (5, [.ref sa, .ref ia, .ref ka, .ref ea, .int (nI tr), .int fi, .ref ca])), (sa, aI G 40 X), (ea, aI G 2048 E), (ca, aI G 16 D)] H → va_D A [(o, .inr (5, [.ref sa, .ref ia, .ref ka, .ref ea, .int (nI tr), .int fi, .ref ca])), (sa, aI G 40 X), (ea, aI G 2048 E), (ca, aI G 16 D)] → va_S A s.heap H locs → ∀ ls : Array Slot, lv_has ls 6 [(3, .int (nI k)), (0, .ref o), (1, .int (nI w)), (2, .int (nI t))] → W p l e (rmR 2 43) s m ([.ref o, .int (nI w), .int (nI t)] : List Value).toArray below meth c H locs 0 0 (MQ below (postW G [(o, .inr (5, [.ref sa, .ref ia, .ref ka, .ref ea, .int (nI tr), .int fi, .ref ca])), (sa, aI G 40 X), (ea, aI G 2048 E), (ca, aI G 16 (comA E wk w t C (1 <<< t)))] none A) ([.ref o, .int (nI w), .int (nI t)] : List Value).toArray s 0 0 A) (F0 m 2 ls []) := by
    intro fuel
    induction fuel with
    | zero => intro k D h1 h2 hf; exact absurd hf (Nat.not_lt_zero _)
    | succ fuel ih2 =>
      intro k D h1 h2 hf H locs hP hD hS ls hl
      refine lv_iload_n hx hb dX6_layTries_2 rfl (lv_at hl 0 rfl) ?_
      refine lv_iconst (v := nI 1) hx hb dX6_layTries_3 (by decide) ?_
      refine lv_iload_n hx hb dX6_layTries_4 rfl (lv_at hl 3 rfl) ?_
      refine j_shl hx hb dX6_layTries_5 ?_
      refine j_icmp_ge (tgt := 63) hx hb dX6_layTries_6 (by decide) (fun c6 => ?_) (fun c6 => ?_) (h1 := by have := shl16 ht; omega) (h2 := by have := shl16 ht; omega)
      · skip
        have eF : D = comA E wk w t C (1 <<< t) := by rw [h2, show k = 1 <<< t by omega]
        rw [eF] at hP hD
        clear eF
        exact wr_vret hx hb hr hlocks dX6_layTries_63 hP hD hS
      · skip
        refine lv_iload_n hx hb dX6_layTries_9 rfl (lv_at hl 2 rfl) ?_
        refine lv_istore (lv' := [(4, .int (nI w)), (3, .int (nI k)), (0, .ref o), (1, .int (nI w)), (2, .int (nI t))]) hx hb dX6_layTries_10 hl (by decide) rfl (fun ls hl => ?_)
        refine lv_iconst (v := nI 0) hx hb dX6_layTries_12 (by decide) ?_
        refine lv_istore (lv' := [(5, .int (nI 0)), (4, .int (nI w)), (3, .int (nI k)), (0, .ref o), (1, .int (nI w)), (2, .int (nI t))]) hx hb dX6_layTries_13 hl (by decide) rfl (fun ls hl => ?_)
        have loop15 : ∀ (fuel : Nat) (v : Nat) (j : Nat), (j ≤ t) → (v = tryL wk w k j) → t - j < fuel → ∀ (H : Heap) (locs : List Loc), va_P G.1 vwCl [(o, .inr (5, [.ref sa, .ref ia, .ref ka, .ref ea, .int (nI tr), .int fi, .ref ca])), (sa, aI G 40 X), (ea, aI G 2048 E), (ca, aI G 16 D)] H → va_D A [(o, .inr (5, [.ref sa, .ref ia, .ref ka, .ref ea, .int (nI tr), .int fi, .ref ca])), (sa, aI G 40 X), (ea, aI G 2048 E), (ca, aI G 16 D)] → va_S A s.heap H locs → ∀ ls : Array Slot, lv_has ls 6 [(5, .int (nI j)), (4, .int (nI v)), (3, .int (nI k)), (0, .ref o), (1, .int (nI w)), (2, .int (nI t))] → W p l e (rmR 2 43) s m ([.ref o, .int (nI w), .int (nI t)] : List Value).toArray below meth c H locs 0 0 (MQ below (postW G [(o, .inr (5, [.ref sa, .ref ia, .ref ka, .ref ea, .int (nI tr), .int fi, .ref ca])), (sa, aI G 40 X), (ea, aI G 2048 E), (ca, aI G 16 (comA E wk w t C (1 <<< t)))] none A) ([.ref o, .int (nI w), .int (nI t)] : List Value).toArray s 0 0 A) (F0 m 15 ls []) := by
          intro fuel
          induction fuel with
          | zero => intro v j g1 g2 hf; exact absurd hf (Nat.not_lt_zero _)
          | succ fuel ih15 =>
            intro v j g1 g2 hf H locs hP hD hS ls hl
            refine lv_iload hx hb dX6_layTries_15 (lv_at hl 0 rfl) ?_
            refine lv_iload_n hx hb dX6_layTries_17 rfl (lv_at hl 5 rfl) ?_
            refine j_icmp_ge (tgt := 45) hx hb dX6_layTries_18 (by decide) (fun c18 => ?_) (fun c18 => ?_)
            · skip
              refine lv_aload_n hx hb dX6_layTries_45 rfl (lv_at hl 3 rfl) ?_
              refine va_get (D := G.1) (ci := 5) (v := .ref ca) (C := RX6) (T := TX6) (N := 7) hx hb hts (fun w h => List.mem_cons_of_mem _ (List.mem_append_right _ h)) hown hE.1 hP 0 rfl rfl 6 (by decide) (hts (.fieldLink RX6 23 "TripleTrapModel" "comes" "[I") (List.mem_of_getElem? (i := 1) rfl)) (fun _ h9 => h9) rfl dX6_layTries_46 ?_
              refine lv_iload_n hx hb dX6_layTries_49 rfl (lv_at hl 2 rfl) ?_
              refine lv_aload_n hx hb dX6_layTries_50 rfl (lv_at hl 3 rfl) ?_
              refine lv_iload hx hb dX6_layTries_51 (lv_at hl 1 rfl) ?_
              refine ro_V 5 0 (rest := [.int (nI k), .ref ca]) ⟨hx, hb, hml, hown, hts⟩ (c_X6_nearest l G o sa ia ka ea ca tr fi E v (by rw [g2]; exact tryL_lt hw hwk2 _ (by omega))) (cwV 1 hts gX6_layTries_X6_nearest rfl rfl rfl (by decide +kernel) ⟨Nat.le_of_ble_eq_true rfl, Nat.le_of_ble_eq_true rfl⟩) hE (hP.sub [0, 2] rfl) rfl rfl rfl hl.1 rfl (Nat.le_of_ble_eq_true rfl) dX6_layTries_53 ⟨Nat.zero_le _, Nat.zero_le _⟩ ?_
              refine j_iast hx hb hE hP hD hS 3 rfl dX6_layTries_56 (fun H locs hP hD hS => ?_) (hk := by have := shl16 ht; omega) (hn := by decide)
              have hP : va_P G.1 vwCl [(o, .inr (5, [.ref sa, .ref ia, .ref ka, .ref ea, .int (nI tr), .int fi, .ref ca])), (sa, aI G 40 X), (ea, aI G 2048 E), (ca, aI G 16 (va_up D k (nearE E v)))] H := hP
              have hD : va_D A [(o, .inr (5, [.ref sa, .ref ia, .ref ka, .ref ea, .int (nI tr), .int fi, .ref ca])), (sa, aI G 40 X), (ea, aI G 2048 E), (ca, aI G 16 (va_up D k (nearE E v)))] := hD
              obtain ⟨x57, ex57⟩ : ∃ y : Nat, y = k + 1 := ⟨_, rfl⟩
              refine lv_iinc (v := nI x57) (lv' := [(3, .int (nI x57)), (5, .int (nI j)), (4, .int (nI v)), (0, .ref o), (1, .int (nI w)), (2, .int (nI t))]) hx hb dX6_layTries_57 hl (k := 2) rfl (by rw [ex57]; exact nI_add _ _) (by decide) rfl (fun ls hl => ?_)
              refine lv_goto (tgt := 2) hx hb dX6_layTries_60 (by decide) ?_
              exact ih2 x57 (va_up D k (nearE E v)) (by omega) (by rw [ex57, comA, ← h2, g2, show j = t by omega]) (by omega) H locs hP hD hS ls (lv_sub hl [0, 3, 4, 5] rfl)
            · skip
              refine lv_iload hx hb dX6_layTries_21 (lv_at hl 1 rfl) ?_
              refine lv_iload_n hx hb dX6_layTries_23 rfl (lv_at hl 2 rfl) ?_
              refine lv_iload hx hb dX6_layTries_24 (lv_at hl 0 rfl) ?_
              refine j_shr hx hb dX6_layTries_26 ?_ (ha := by have := shl16 ht; omega) (h := by omega)
              refine lv_iconst (v := nI 1) hx hb dX6_layTries_27 (by decide) ?_
              refine j_and hx hb dX6_layTries_28 ?_
              refine lv_aload_n hx hb dX6_layTries_29 rfl (lv_at hl 3 rfl) ?_
              refine lv_iload hx hb dX6_layTries_30 (lv_at hl 0 rfl) ?_
              refine ro_V 5 0 (rest := [.int (nI ((k >>> j) &&& 1)), .int (nI v)]) ⟨hx, hb, hml, hown, hts⟩ (c_X6_weakAt l G o sa ia ka ea ca tr fi X hlv j (by omega)) (cwV 1 hts gX6_layTries_X6_weakAt rfl rfl rfl (by decide +kernel) ⟨Nat.le_of_ble_eq_true rfl, Nat.le_of_ble_eq_true rfl⟩) hE (hP.sub [0, 1] rfl) rfl rfl rfl hl.1 rfl (Nat.le_of_ble_eq_true rfl) dX6_layTries_32 ⟨Nat.zero_le _, Nat.zero_le _⟩ ?_
              rw [hwk j (by omega)]
              refine j_shl hx hb dX6_layTries_35 ?_ (h := Nat.lt_trans (hwk2 j (by omega)) (by decide))
              refine j_xor hx hb dX6_layTries_36 ?_
              refine j_top (fun x37 ex37 => ?_)
              refine lv_istore (lv' := [(4, .int (nI x37)), (5, .int (nI j)), (3, .int (nI k)), (0, .ref o), (1, .int (nI w)), (2, .int (nI t))]) hx hb dX6_layTries_37 hl (by decide) rfl (fun ls hl => ?_)
              obtain ⟨x39, ex39⟩ : ∃ y : Nat, y = j + 1 := ⟨_, rfl⟩
              refine lv_iinc (v := nI x39) (lv' := [(5, .int (nI x39)), (4, .int (nI x37)), (3, .int (nI k)), (0, .ref o), (1, .int (nI w)), (2, .int (nI t))]) hx hb dX6_layTries_39 hl (k := 1) rfl (by rw [ex39]; exact nI_add _ _) (by decide) rfl (fun ls hl => ?_)
              refine lv_goto (tgt := 15) hx hb dX6_layTries_42 (by decide) ?_
              exact ih15 x37 x39 (by omega) (by rw [ex37, ex39, g2]; rfl) (by omega) H locs hP hD hS ls (lv_sub hl [0, 1, 2, 3, 4, 5] rfl)
        exact loop15 _ w 0 (by omega) rfl (Nat.lt_succ_self _) H locs hP hD hS ls (lv_sub hl [0, 1, 2, 3, 4, 5] rfl)
  exact loop2 _ 0 C (Nat.zero_le _) rfl (Nat.lt_succ_self _) H locs hP hD hS ls (lv_sub hl [0, 1, 2, 3] rfl)
set_option maxHeartbeats 4000000 in
set_option maxRecDepth 100000 in
/-- unlike -/
theorem c_X6_unlike (l : Launch) (G : EG) (o : Nat) (sa : Nat) (ia : Nat) (ka : Nat) (ea : Nat) (ca : Nat) (tr : Nat) (fi : Int32) (C : Nat → Nat) (d : Nat) (hd : d ≤ 16) (hC : ∀ i, i < 16 → C i < 8388608) : RO l yX6_unlike wsX6_unlike (rmR 0 0) G [(o, .inr (5, [.ref sa, .ref ia, .ref ka, .ref ea, .int (nI tr), .int fi, .ref ca])), (ca, aI G 16 C)] [.ref o, .int (nI d)] (.int (nI (unlL C d))) := by
  refine RO.start (by decide) rfl (Nat.le_of_ble_eq_true rfl) ?_
  intro p e s m below meth c hx hb hr hml hts hown hlocks hP hE ls hl
  have hown : s.vm.findClass RX6 = some m.cls := hown
  have hl : lv_has ls 6 [(0, .ref o), (1, .int (nI d))] := hl
  refine lv_iconst (v := nI 0) hx hb dX6_unlike_0 (by decide) ?_
  refine lv_istore_n (lv' := [(2, .int (nI 0)), (0, .ref o), (1, .int (nI d))]) hx hb dX6_unlike_1 rfl hl (by decide) rfl (fun ls hl => ?_)
  refine lv_iconst (v := nI 0) hx hb dX6_unlike_2 (by decide) ?_
  refine lv_istore_n (lv' := [(3, .int (nI 0)), (2, .int (nI 0)), (0, .ref o), (1, .int (nI d))]) hx hb dX6_unlike_3 rfl hl (by decide) rfl (fun ls hl => ?_)
  have loop4 : ∀ (fuel : Nat) (t : Nat) (k : Nat), (k ≤ d) → (t = unlL C k) → d - k < fuel → ∀ ls : Array Slot, lv_has ls 6 [(3, .int (nI k)), (2, .int (nI t)), (0, .ref o), (1, .int (nI d))] → W p l e (rmR 0 0) s m ([.ref o, .int (nI d)] : List Value).toArray below meth c s.heap [] 0 0 (MQ below (k2_QcV (.int (nI (unlL C d)))) ([.ref o, .int (nI d)] : List Value).toArray s 0 0 (fun _ => False)) (F0 m 4 ls []) := by
    intro fuel
    induction fuel with
    | zero => intro t k h1 h2 hf; exact absurd hf (Nat.not_lt_zero _)
    | succ fuel ih4 =>
      intro t k h1 h2 hf ls hl
      refine lv_iload_n hx hb dX6_unlike_4 rfl (lv_at hl 0 rfl) ?_
      refine lv_iload_n hx hb dX6_unlike_5 rfl (lv_at hl 3 rfl) ?_
      refine j_icmp_ge (tgt := 74) hx hb dX6_unlike_6 (by decide) (fun c6 => ?_) (fun c6 => ?_)
      · skip
        refine lv_iload_n hx hb dX6_unlike_74 rfl (lv_at hl 1 rfl) ?_
        exact ro_ret hx hb hr hlocks dX6_unlike_75 (by rw [h2, show k = d by omega])
      · skip
        refine lv_iconst (v := nI 1) hx hb dX6_unlike_9 (by decide) ?_
        refine lv_istore (lv' := [(4, .int (nI 1)), (3, .int (nI k)), (2, .int (nI t)), (0, .ref o), (1, .int (nI d))]) hx hb dX6_unlike_10 hl (by decide) rfl (fun ls hl => ?_)
        refine lv_iconst (v := nI 0) hx hb dX6_unlike_12 (by decide) ?_
        refine lv_istore (lv' := [(5, .int (nI 0)), (4, .int (nI 1)), (3, .int (nI k)), (2, .int (nI t)), (0, .ref o), (1, .int (nI d))]) hx hb dX6_unlike_13 hl (by decide) rfl (fun ls hl => ?_)
        have loop15 : ∀ (fuel : Nat) (f : Nat) (q : Nat), (q ≤ k) → (f = 0 ∨ f = 1) → (f = 1 → ∀ i, i < q → ¬ C i = C k) → (f = 0 → ∃ i, i < k ∧ C i = C k) → k - q < fuel → ∀ ls : Array Slot, lv_has ls 6 [(5, .int (nI q)), (4, .int (nI f)), (3, .int (nI k)), (2, .int (nI t)), (0, .ref o), (1, .int (nI d))] → W p l e (rmR 0 0) s m ([.ref o, .int (nI d)] : List Value).toArray below meth c s.heap [] 0 0 (MQ below (k2_QcV (.int (nI (unlL C d)))) ([.ref o, .int (nI d)] : List Value).toArray s 0 0 (fun _ => False)) (F0 m 15 ls []) := by
          intro fuel
          induction fuel with
          | zero => intro f q g1 g2 g3 g4 hf; exact absurd hf (Nat.not_lt_zero _)
          | succ fuel ih15 =>
            intro f q g1 g2 g3 g4 hf ls hl
            refine lv_iload hx hb dX6_unlike_15 (lv_at hl 0 rfl) ?_
            refine lv_iload_n hx hb dX6_unlike_17 rfl (lv_at hl 2 rfl) ?_
            refine j_icmp_ge (tgt := 55) hx hb dX6_unlike_18 (by decide) (fun c18 => ?_) (fun c18 => ?_)
            · skip
              refine lv_iload_n hx hb dX6_unlike_55 rfl (lv_at hl 3 rfl) ?_
              refine lv_iload hx hb dX6_unlike_56 (lv_at hl 1 rfl) ?_
              refine j_if_eq (tgt := 65) hx hb dX6_unlike_58 (by decide) (fun c58 => ?_) (fun c58 => ?_)
              · skip
                refine lv_iconst (v := nI 0) hx hb dX6_unlike_65 (by decide) ?_
                refine j_add hx hb dX6_unlike_66 ?_
                refine j_top (fun x67 ex67 => ?_)
                refine lv_istore_n (lv' := [(2, .int (nI x67)), (5, .int (nI q)), (4, .int (nI f)), (3, .int (nI k)), (0, .ref o), (1, .int (nI d))]) hx hb dX6_unlike_67 rfl hl (by decide) rfl (fun ls hl => ?_)
                obtain ⟨x68, ex68⟩ : ∃ y : Nat, y = k + 1 := ⟨_, rfl⟩
                refine lv_iinc (v := nI x68) (lv' := [(3, .int (nI x68)), (2, .int (nI x67)), (5, .int (nI q)), (4, .int (nI f)), (0, .ref o), (1, .int (nI d))]) hx hb dX6_unlike_68 hl (k := 3) rfl (by rw [ex68]; exact nI_add _ _) (by decide) rfl (fun ls hl => ?_)
                refine lv_goto (tgt := 4) hx hb dX6_unlike_71 (by decide) ?_
                exact ih4 x67 x68 (by omega) (by obtain ⟨i, q1, q2⟩ := g4 c58; rw [ex67, ex68, h2, unlL, uq_f q1 q2]; rfl) (by omega) ls (lv_sub hl [0, 1, 4, 5] rfl)
              · skip
                refine lv_iconst (v := nI 1) hx hb dX6_unlike_61 (by decide) ?_
                refine lv_goto (tgt := 66) hx hb dX6_unlike_62 (by decide) ?_
                refine j_add hx hb dX6_unlike_66 ?_
                refine j_top (fun x67 ex67 => ?_)
                refine lv_istore_n (lv' := [(2, .int (nI x67)), (5, .int (nI q)), (4, .int (nI f)), (3, .int (nI k)), (0, .ref o), (1, .int (nI d))]) hx hb dX6_unlike_67 rfl hl (by decide) rfl (fun ls hl => ?_)
                obtain ⟨x68, ex68⟩ : ∃ y : Nat, y = k + 1 := ⟨_, rfl⟩
                refine lv_iinc (v := nI x68) (lv' := [(3, .int (nI x68)), (2, .int (nI x67)), (5, .int (nI q)), (4, .int (nI f)), (0, .ref o), (1, .int (nI d))]) hx hb dX6_unlike_68 hl (k := 3) rfl (by rw [ex68]; exact nI_add _ _) (by decide) rfl (fun ls hl => ?_)
                refine lv_goto (tgt := 4) hx hb dX6_unlike_71 (by decide) ?_
                exact ih4 x67 x68 (by omega) (by rw [ex67, ex68, h2, unlL, uq_t (fun i hi => g3 (by omega) i (by omega))]; rfl) (by omega) ls (lv_sub hl [0, 1, 4, 5] rfl)
            · skip
              refine lv_iload hx hb dX6_unlike_21 (lv_at hl 1 rfl) ?_
              refine j_if_eq (tgt := 46) hx hb dX6_unlike_23 (by decide) (fun c23 => ?_) (fun c23 => ?_)
              · skip
                refine lv_iconst (v := nI 0) hx hb dX6_unlike_46 (by decide) ?_
                refine lv_istore (lv' := [(4, .int (nI 0)), (5, .int (nI q)), (3, .int (nI k)), (2, .int (nI t)), (0, .ref o), (1, .int (nI d))]) hx hb dX6_unlike_47 hl (by decide) rfl (fun ls hl => ?_)
                obtain ⟨x49, ex49⟩ : ∃ y : Nat, y = q + 1 := ⟨_, rfl⟩
                refine lv_iinc (v := nI x49) (lv' := [(5, .int (nI x49)), (4, .int (nI 0)), (3, .int (nI k)), (2, .int (nI t)), (0, .ref o), (1, .int (nI d))]) hx hb dX6_unlike_49 hl (k := 1) rfl (by rw [ex49]; exact nI_add _ _) (by decide) rfl (fun ls hl => ?_)
                refine lv_goto (tgt := 15) hx hb dX6_unlike_52 (by decide) ?_
                exact ih15 0 x49 (by omega) (Or.inl rfl) (fun h => absurd h (by decide)) (fun _ => g4 c23) (by omega) ls (lv_sub hl [0, 1, 2, 3, 4, 5] rfl)
              · skip
                refine lv_aload_n hx hb dX6_unlike_26 rfl (lv_at hl 4 rfl) ?_
                refine va_get (D := G.1) (ci := 5) (v := .ref ca) (C := RX6) (T := TX6) (N := 7) hx hb hts (fun w h => List.mem_cons_of_mem _ (List.mem_append_right _ h)) hown hE.1 hP 0 rfl rfl 6 (by decide) (hts (.fieldLink RX6 23 "TripleTrapModel" "comes" "[I") (List.mem_of_getElem? (i := 1) rfl)) (fun _ h9 => h9) rfl dX6_unlike_27 ?_
                refine lv_iload hx hb dX6_unlike_30 (lv_at hl 0 rfl) ?_
                refine j_iald hx hb hE hP 1 rfl dX6_unlike_32 ?_
                refine lv_aload_n hx hb dX6_unlike_33 rfl (lv_at hl 4 rfl) ?_
                refine va_get (D := G.1) (ci := 5) (v := .ref ca) (C := RX6) (T := TX6) (N := 7) hx hb hts (fun w h => List.mem_cons_of_mem _ (List.mem_append_right _ h)) hown hE.1 hP 0 rfl rfl 6 (by decide) (hts (.fieldLink RX6 23 "TripleTrapModel" "comes" "[I") (List.mem_of_getElem? (i := 1) rfl)) (fun _ h9 => h9) rfl dX6_unlike_34 ?_
                refine lv_iload_n hx hb dX6_unlike_37 rfl (lv_at hl 2 rfl) ?_
                refine j_iald hx hb hE hP 1 rfl dX6_unlike_38 ?_
                refine j_icmp_eq (tgt := 46) hx hb dX6_unlike_39 (by decide) (fun c39 => ?_) (fun c39 => ?_) (h1 := Nat.lt_trans (hC q (by omega)) (by decide)) (h2 := Nat.lt_trans (hC k (by omega)) (by decide))
                · skip
                  refine lv_iconst (v := nI 0) hx hb dX6_unlike_46 (by decide) ?_
                  refine lv_istore (lv' := [(4, .int (nI 0)), (5, .int (nI q)), (3, .int (nI k)), (2, .int (nI t)), (0, .ref o), (1, .int (nI d))]) hx hb dX6_unlike_47 hl (by decide) rfl (fun ls hl => ?_)
                  obtain ⟨x49, ex49⟩ : ∃ y : Nat, y = q + 1 := ⟨_, rfl⟩
                  refine lv_iinc (v := nI x49) (lv' := [(5, .int (nI x49)), (4, .int (nI 0)), (3, .int (nI k)), (2, .int (nI t)), (0, .ref o), (1, .int (nI d))]) hx hb dX6_unlike_49 hl (k := 1) rfl (by rw [ex49]; exact nI_add _ _) (by decide) rfl (fun ls hl => ?_)
                  refine lv_goto (tgt := 15) hx hb dX6_unlike_52 (by decide) ?_
                  exact ih15 0 x49 (by omega) (Or.inl rfl) (fun h => absurd h (by decide)) (fun _ => ⟨q, by omega, c39⟩) (by omega) ls (lv_sub hl [0, 1, 2, 3, 4, 5] rfl)
                · skip
                  refine lv_iconst (v := nI 1) hx hb dX6_unlike_42 (by decide) ?_
                  refine lv_goto (tgt := 47) hx hb dX6_unlike_43 (by decide) ?_
                  refine lv_istore (lv' := [(4, .int (nI 1)), (5, .int (nI q)), (3, .int (nI k)), (2, .int (nI t)), (0, .ref o), (1, .int (nI d))]) hx hb dX6_unlike_47 hl (by decide) rfl (fun ls hl => ?_)
                  obtain ⟨x49, ex49⟩ : ∃ y : Nat, y = q + 1 := ⟨_, rfl⟩
                  refine lv_iinc (v := nI x49) (lv' := [(5, .int (nI x49)), (4, .int (nI 1)), (3, .int (nI k)), (2, .int (nI t)), (0, .ref o), (1, .int (nI d))]) hx hb dX6_unlike_49 hl (k := 1) rfl (by rw [ex49]; exact nI_add _ _) (by decide) rfl (fun ls hl => ?_)
                  refine lv_goto (tgt := 15) hx hb dX6_unlike_52 (by decide) ?_
                  exact ih15 1 x49 (by omega) (Or.inr rfl) (by rw [ex49]; intro _; exact lt_s (g3 (g2.resolve_left c23)) c39) (fun h => absurd h (by decide)) (by omega) ls (lv_sub hl [0, 1, 2, 3, 4, 5] rfl)
        exact loop15 _ 1 0 (by omega) (Or.inr rfl) (fun _ _ h => absurd h (Nat.not_lt_zero _)) (fun h => absurd h (by decide)) (Nat.lt_succ_self _) ls (lv_sub hl [0, 1, 2, 3, 4, 5] rfl)
  exact loop4 _ 0 0 (by omega) rfl (Nat.lt_succ_self _) ls (lv_sub hl [0, 1, 2, 3] rfl)
set_option maxHeartbeats 4000000 in
set_option maxRecDepth 100000 in
/-- chosen -/
theorem c_X6_chosen (l : Launch) (G : EG) (o : Nat) (sa : Nat) (ia : Nat) (ka : Nat) (ea : Nat) (ca : Nat) (tr : Nat) (fi : Int32) (X : Nat → Nat) (hlv : ∀ q, q < 23 → X (17 + q) ≤ 9) (E : Nat → Nat) (hEb : ∀ i, i < 2048 → E i < 8388608) (C : Nat → Nat) (hC : ∀ i, i < 16 → C i < 8388608) (wk : Nat → Nat) (hwk : ∀ j, j < 4 → wkL X j 23 = nI (wk j)) (hwk2 : ∀ j, j < 4 → wk j < 23) (x : Int32) (y : Int32) (z : Int32) (sz : Nat) : WR l yX6_chosen wsX6_chosen (rmR 3 68) G sz [(o, .inr (5, [.ref sa, .ref ia, .ref ka, .ref ea, .int (nI tr), .int fi, .ref ca])), (sa, aI G 40 X), (ea, aI G 2048 E), (ca, aI G 16 C)] [.ref o, .int x, .int y, .int z] [(o, .inr (5, [.ref sa, .ref ia, .ref ka, .ref ea, .int (nI tr), .int fi, .ref ca])), (sa, aI G 40 X), (ea, aI G 2048 E), (ca, aI G 16 (mChosenC E wk C x y z))] (some (.int (mChosen E wk X C x y z))) := by
  refine WR.start (by decide) rfl (Nat.le_of_ble_eq_true rfl) ?_
  intro p e s m below meth c hx hb hr hml hts hown hlocks hE A hA H locs hP hD hS ls hl
  have hown : s.vm.findClass RX6 = some m.cls := hown
  have hl : lv_has ls 6 [(0, .ref o), (1, .int x), (2, .int y), (3, .int z)] := hl
  refine lv_iload_n hx hb dX6_chosen_0 rfl (lv_at hl 1 rfl) ?_
  refine ro_S (rest := []) ⟨hx, hb, hml, hown, hts⟩ (c_X6_isWord l G x) (va_cwS 1 hts gX6_chosen_X6_isWord rfl rfl rfl (by decide +kernel) ⟨Nat.le_of_ble_eq_true rfl, Nat.le_of_ble_eq_true rfl⟩) hE (hP.sub [] rfl) rfl hl.1 rfl (Nat.le_of_ble_eq_true rfl) dX6_chosen_1 ⟨Nat.zero_le _, Nat.zero_le _⟩ ?_
  refine j_bool (fun c1 => ?_) (fun c1 => ?_)
  · skip
    obtain ⟨w, hw, rfl⟩ := blw_ex c1 (by decide)
    refine j_if_eq (tgt := 25) hx hb dX6_chosen_4 (by decide) (fun q => absurd q (by decide)) (fun _ => ?_)
    refine lv_iload_n hx hb dX6_chosen_7 rfl (lv_at hl 2 rfl) ?_
    refine lv_iconst (v := nI 0) hx hb dX6_chosen_8 (by decide) ?_
    refine lv_iconst (v := nI 4) hx hb dX6_chosen_9 (by decide) ?_
    refine ro_S (rest := []) ⟨hx, hb, hml, hown, hts⟩ (c_X6_in l G y (nI 0) (nI 4)) (va_cwS 3 hts gX6_chosen_X6_in rfl rfl rfl (by decide +kernel) ⟨Nat.le_of_ble_eq_true rfl, Nat.le_of_ble_eq_true rfl⟩) hE (hP.sub [] rfl) rfl hl.1 rfl (Nat.le_of_ble_eq_true rfl) dX6_chosen_10 ⟨Nat.zero_le _, Nat.zero_le _⟩ ?_
    refine j_bool (fun c10 => ?_) (fun c10 => ?_)
    · skip
      obtain ⟨t, ht, rfl⟩ := inI_ex (N := 4) rfl c10 (by decide)
      refine j_if_eq (tgt := 25) hx hb dX6_chosen_13 (by decide) (fun q => absurd q (by decide)) (fun _ => ?_)
      refine lv_iload_n hx hb dX6_chosen_16 rfl (lv_at hl 3 rfl) ?_
      refine lv_iconst (v := nI 0) hx hb dX6_chosen_17 (by decide) ?_
      refine lv_iconst (v := nI 3) hx hb dX6_chosen_18 (by decide) ?_
      refine ro_S (rest := []) ⟨hx, hb, hml, hown, hts⟩ (c_X6_in l G z (nI 0) (nI 3)) (va_cwS 3 hts gX6_chosen_X6_in rfl rfl rfl (by decide +kernel) ⟨Nat.le_of_ble_eq_true rfl, Nat.le_of_ble_eq_true rfl⟩) hE (hP.sub [] rfl) rfl hl.1 rfl (Nat.le_of_ble_eq_true rfl) dX6_chosen_19 ⟨Nat.zero_le _, Nat.zero_le _⟩ ?_
      refine j_bool (fun c19 => ?_) (fun c19 => ?_)
      · skip
        obtain ⟨j, hj, rfl⟩ := inI_ex (N := 3) rfl c19 (by decide)
        refine j_if_ne (tgt := 28) hx hb dX6_chosen_22 (by decide) (fun _ => ?_) (fun q => absurd q (by decide))
        refine lv_aload_n hx hb dX6_chosen_28 rfl (lv_at hl 0 rfl) ?_
        refine lv_iload_n hx hb dX6_chosen_29 rfl (lv_at hl 1 rfl) ?_
        refine lv_iload_n hx hb dX6_chosen_30 rfl (lv_at hl 2 rfl) ?_
        refine wr_V 5 0 (rest := []) (wr := []) ⟨hx, hb, hml, hown, hts⟩ (c_X6_layTries l G o sa ia ka ea ca tr fi X hlv E hEb C wk hwk hwk2 w t (by omega) (by omega) H.size) (cwV 2 hts gX6_chosen_X6_layTries rfl rfl rfl (by decide +kernel) ⟨Nat.le_of_ble_eq_true rfl, Nat.le_of_ble_eq_true rfl⟩) hE hP hD hS hA [0, 1, 2, 3] [] rfl rfl (by decide) (by decide) (by decide) rfl rfl rfl hl.1 rfl (Nat.le_of_ble_eq_true rfl) dX6_chosen_31 ⟨Nat.zero_le _, Nat.zero_le _⟩ (fun H locs hP hD hS => ?_)
        have hP : va_P G.1 vwCl [(o, .inr (5, [.ref sa, .ref ia, .ref ka, .ref ea, .int (nI tr), .int fi, .ref ca])), (sa, aI G 40 X), (ea, aI G 2048 E), (ca, aI G 16 (comA E wk w t C (1 <<< t)))] H := hP.sub [0, 1, 2, 3] rfl
        have hD : va_D A [(o, .inr (5, [.ref sa, .ref ia, .ref ka, .ref ea, .int (nI tr), .int fi, .ref ca])), (sa, aI G 40 X), (ea, aI G 2048 E), (ca, aI G 16 (comA E wk w t C (1 <<< t)))] := hD.sub [0, 1, 2, 3] (by decide) rfl
        obtain ⟨D, eD⟩ : ∃ z : Nat → Nat, z = comA E wk w t C (1 <<< t) := ⟨_, rfl⟩
        rw [← eD] at hP hD
        have hDb : ∀ i, i < 16 → D i < 8388608 := by rw [eD]; exact comA_lt hEb hwk2 hw (by omega) hC _
        have h16 := shl16 (show t ≤ 4 by omega)
        have h01 : 1 ≤ 1 <<< t := by rw [Nat.shiftLeft_eq, Nat.one_mul]; exact Nat.one_le_two_pow
        refine lv_iconst (v := nI 0) hx hb dX6_chosen_34 (by decide) ?_
        refine lv_istore (lv' := [(4, .int (nI 0)), (0, .ref o), (1, .int (nI w)), (2, .int (nI t)), (3, .int (nI j))]) hx hb dX6_chosen_35 hl (by decide) rfl (fun ls hl => ?_)
        refine lv_iconst (v := nI 1) hx hb dX6_chosen_37 (by decide) ?_
        refine lv_istore (lv' := [(5, .int (nI 1)), (4, .int (nI 0)), (0, .ref o), (1, .int (nI w)), (2, .int (nI t)), (3, .int (nI j))]) hx hb dX6_chosen_38 hl (by decide) rfl (fun ls hl => ?_)
        have loop40 : ∀ (fuel : Nat) (u : Nat) (k : Nat), (1 ≤ k) → (k ≤ 1 <<< t) → (u = bstL X D w (k - 1)) → 1 <<< t - k < fuel → ∀ (H : Heap) (locs : List Loc), va_P G.1 vwCl [(o, .inr (5, [.ref sa, .ref ia, .ref ka, .ref ea, .int (nI tr), .int fi, .ref ca])), (sa, aI G 40 X), (ea, aI G 2048 E), (ca, aI G 16 D)] H → va_D A [(o, .inr (5, [.ref sa, .ref ia, .ref ka, .ref ea, .int (nI tr), .int fi, .ref ca])), (sa, aI G 40 X), (ea, aI G 2048 E), (ca, aI G 16 D)] → va_S A s.heap H locs → ∀ ls : Array Slot, lv_has ls 6 [(5, .int (nI k)), (4, .int (nI u)), (0, .ref o), (1, .int (nI w)), (2, .int (nI t)), (3, .int (nI j))] → W p l e (rmR 3 68) s m ([.ref o, .int (nI w), .int (nI t), .int (nI j)] : List Value).toArray below meth c H locs 0 0 (MQ below (postW G [(o, .inr (5, [.ref sa, .ref ia, .ref ka, .ref ea, .int (nI tr), .int fi, .ref ca])), (sa, aI G 40 X), (ea, aI G 2048 E), (ca, aI G 16 (mChosenC E wk C (nI w) (nI t) (nI j)))] (some (.int (mChosen E wk X C (nI w) (nI t) (nI j)))) A) ([.ref o, .int (nI w), .int (nI t), .int (nI j)] : List Value).toArray s 0 0 A) (F0 m 40 ls []) := by
          intro fuel
          induction fuel with
          | zero => intro u k h1 h2 h3 hf; exact absurd hf (Nat.not_lt_zero _)
          | succ fuel ih40 =>
            intro u k h1 h2 h3 hf H locs hP hD hS ls hl
            have hu : u ≤ k - 1 := by rw [h3]; exact bstL_le _ _ _ _
            refine lv_iload hx hb dX6_chosen_40 (lv_at hl 0 rfl) ?_
            refine lv_iconst (v := nI 1) hx hb dX6_chosen_42 (by decide) ?_
            refine lv_iload_n hx hb dX6_chosen_43 rfl (lv_at hl 4 rfl) ?_
            refine j_shl hx hb dX6_chosen_44 ?_
            refine j_icmp_ge (tgt := 90) hx hb dX6_chosen_45 (by decide) (fun c45 => ?_) (fun c45 => ?_)
            · skip
              refine lv_iload_n hx hb dX6_chosen_90 rfl (lv_at hl 5 rfl) ?_
              refine j_if_ne (tgt := 104) hx hb dX6_chosen_91 (by decide) (fun c91 => ?_) (fun c91 => ?_)
              · skip
                refine lv_iload_n hx hb dX6_chosen_104 rfl (lv_at hl 5 rfl) ?_
                refine lv_iconst (v := nI 1) hx hb dX6_chosen_105 (by decide) ?_
                refine j_icmp_ne (tgt := 124) hx hb dX6_chosen_106 (by decide) (fun c106 => ?_) (fun c106 => ?_)
                · skip
                  refine lv_iload_n hx hb dX6_chosen_124 rfl (lv_at hl 5 rfl) ?_
                  refine lv_iconst (v := nI 2) hx hb dX6_chosen_125 (by decide) ?_
                  refine j_icmp_ne (tgt := 134) hx hb dX6_chosen_126 (by decide) (fun c126 => ?_) (fun c126 => ?_)
                  · skip
                    refine lv_aload_n hx hb dX6_chosen_134 rfl (lv_at hl 2 rfl) ?_
                    refine lv_iconst (v := nI 1) hx hb dX6_chosen_135 (by decide) ?_
                    refine lv_iload_n hx hb dX6_chosen_136 rfl (lv_at hl 4 rfl) ?_
                    refine j_shl hx hb dX6_chosen_137 ?_
                    refine ro_V 5 0 (rest := []) ⟨hx, hb, hml, hown, hts⟩ (c_X6_unlike l G o sa ia ka ea ca tr fi D (1 <<< t) (by omega) hDb) (cwV 1 hts gX6_chosen_X6_unlike rfl rfl rfl (by decide +kernel) ⟨Nat.le_of_ble_eq_true rfl, Nat.le_of_ble_eq_true rfl⟩) hE (hP.sub [0, 3] rfl) rfl rfl rfl hl.1 rfl (Nat.le_of_ble_eq_true rfl) dX6_chosen_138 ⟨Nat.zero_le _, Nat.zero_le _⟩ ?_
                    have eF : D = mChosenC E wk C (nI w) (nI t) (nI j) := by rw [mChosenC, if_pos ⟨c1, blw_j ht (by decide), blw_j hj (by decide)⟩, cl_nI hw (by decide), cl_nI ht (by decide), eD]
                    rw [eF] at hP hD
                    clear eF
                    exact wr_ret hx hb hr hlocks dX6_chosen_141 hP hD hS (by rw [mChosen, if_pos ⟨c1, blw_j ht (by decide), blw_j hj (by decide)⟩, cl_nI hw (by decide), cl_nI ht (by decide), cl_nI hj (by decide), ← eD, chsV, if_neg c91, if_neg c106, if_neg c126])
                  · skip
                    refine lv_iload hx hb dX6_chosen_129 (lv_at hl 1 rfl) ?_
                    refine lv_goto (tgt := 141) hx hb dX6_chosen_131 (by decide) ?_
                    have eF : D = mChosenC E wk C (nI w) (nI t) (nI j) := by rw [mChosenC, if_pos ⟨c1, blw_j ht (by decide), blw_j hj (by decide)⟩, cl_nI hw (by decide), cl_nI ht (by decide), eD]
                    rw [eF] at hP hD
                    clear eF
                    exact wr_ret hx hb hr hlocks dX6_chosen_141 hP hD hS (by rw [mChosen, if_pos ⟨c1, blw_j ht (by decide), blw_j hj (by decide)⟩, cl_nI hw (by decide), cl_nI ht (by decide), cl_nI hj (by decide), ← eD, chsV, if_neg c91, if_neg c106, if_pos c126, h3, show k - 1 = 1 <<< t - 1 by omega])
                · skip
                  refine lv_aload_n hx hb dX6_chosen_109 rfl (lv_at hl 2 rfl) ?_
                  refine lv_aload_n hx hb dX6_chosen_110 rfl (lv_at hl 2 rfl) ?_
                  refine va_get (D := G.1) (ci := 5) (v := .ref ca) (C := RX6) (T := TX6) (N := 7) hx hb hts (fun w h => List.mem_cons_of_mem _ (List.mem_append_right _ h)) hown hE.1 hP 0 rfl rfl 6 (by decide) (hts (.fieldLink RX6 23 "TripleTrapModel" "comes" "[I") (List.mem_of_getElem? (i := 1) rfl)) (fun _ h9 => h9) rfl dX6_chosen_111 ?_
                  refine lv_iload hx hb dX6_chosen_114 (lv_at hl 1 rfl) ?_
                  refine j_iald hx hb hE hP 3 rfl dX6_chosen_116 ?_
                  refine lv_iload_n hx hb dX6_chosen_117 rfl (lv_at hl 3 rfl) ?_
                  refine ro_V 5 0 (rest := []) ⟨hx, hb, hml, hown, hts⟩ (c_X6_loss l G o sa ia ka ea ca tr fi X (D u) w (hDb _ (by omega)) (by omega)) (cwV 2 hts gX6_chosen_X6_loss rfl rfl rfl (by decide +kernel) ⟨Nat.le_of_ble_eq_true rfl, Nat.le_of_ble_eq_true rfl⟩) hE (hP.sub [0, 1] rfl) rfl rfl rfl hl.1 rfl (Nat.le_of_ble_eq_true rfl) dX6_chosen_118 ⟨Nat.zero_le _, Nat.zero_le _⟩ ?_
                  refine lv_goto (tgt := 141) hx hb dX6_chosen_121 (by decide) ?_
                  have eF : D = mChosenC E wk C (nI w) (nI t) (nI j) := by rw [mChosenC, if_pos ⟨c1, blw_j ht (by decide), blw_j hj (by decide)⟩, cl_nI hw (by decide), cl_nI ht (by decide), eD]
                  rw [eF] at hP hD
                  clear eF
                  exact wr_ret hx hb hr hlocks dX6_chosen_141 hP hD hS (by rw [mChosen, if_pos ⟨c1, blw_j ht (by decide), blw_j hj (by decide)⟩, cl_nI hw (by decide), cl_nI ht (by decide), cl_nI hj (by decide), ← eD, chsV, if_neg c91, if_pos c106, h3, show k - 1 = 1 <<< t - 1 by omega])
              · skip
                refine lv_aload_n hx hb dX6_chosen_94 rfl (lv_at hl 2 rfl) ?_
                refine va_get (D := G.1) (ci := 5) (v := .ref ca) (C := RX6) (T := TX6) (N := 7) hx hb hts (fun w h => List.mem_cons_of_mem _ (List.mem_append_right _ h)) hown hE.1 hP 0 rfl rfl 6 (by decide) (hts (.fieldLink RX6 23 "TripleTrapModel" "comes" "[I") (List.mem_of_getElem? (i := 1) rfl)) (fun _ h9 => h9) rfl dX6_chosen_95 ?_
                refine lv_iload hx hb dX6_chosen_98 (lv_at hl 1 rfl) ?_
                refine j_iald hx hb hE hP 3 rfl dX6_chosen_100 ?_
                refine lv_goto (tgt := 141) hx hb dX6_chosen_101 (by decide) ?_
                have eF : D = mChosenC E wk C (nI w) (nI t) (nI j) := by rw [mChosenC, if_pos ⟨c1, blw_j ht (by decide), blw_j hj (by decide)⟩, cl_nI hw (by decide), cl_nI ht (by decide), eD]
                rw [eF] at hP hD
                clear eF
                exact wr_ret hx hb hr hlocks dX6_chosen_141 hP hD hS (by rw [mChosen, if_pos ⟨c1, blw_j ht (by decide), blw_j hj (by decide)⟩, cl_nI hw (by decide), cl_nI ht (by decide), cl_nI hj (by decide), ← eD, chsV, if_pos c91, h3, show k - 1 = 1 <<< t - 1 by omega])
            · skip
              refine lv_aload_n hx hb dX6_chosen_48 rfl (lv_at hl 2 rfl) ?_
              refine lv_aload_n hx hb dX6_chosen_49 rfl (lv_at hl 2 rfl) ?_
              refine va_get (D := G.1) (ci := 5) (v := .ref ca) (C := RX6) (T := TX6) (N := 7) hx hb hts (fun w h => List.mem_cons_of_mem _ (List.mem_append_right _ h)) hown hE.1 hP 0 rfl rfl 6 (by decide) (hts (.fieldLink RX6 23 "TripleTrapModel" "comes" "[I") (List.mem_of_getElem? (i := 1) rfl)) (fun _ h9 => h9) rfl dX6_chosen_50 ?_
              refine lv_iload hx hb dX6_chosen_53 (lv_at hl 0 rfl) ?_
              refine j_iald hx hb hE hP 3 rfl dX6_chosen_55 ?_
              refine lv_iload_n hx hb dX6_chosen_56 rfl (lv_at hl 3 rfl) ?_
              refine ro_V 5 0 (rest := []) ⟨hx, hb, hml, hown, hts⟩ (c_X6_loss l G o sa ia ka ea ca tr fi X (D k) w (hDb _ (by omega)) (by omega)) (cwV 2 hts gX6_chosen_X6_loss rfl rfl rfl (by decide +kernel) ⟨Nat.le_of_ble_eq_true rfl, Nat.le_of_ble_eq_true rfl⟩) hE (hP.sub [0, 1] rfl) rfl rfl rfl hl.1 rfl (Nat.le_of_ble_eq_true rfl) dX6_chosen_57 ⟨Nat.zero_le _, Nat.zero_le _⟩ ?_
              refine lv_aload_n hx hb dX6_chosen_60 rfl (lv_at hl 2 rfl) ?_
              refine lv_aload_n hx hb dX6_chosen_61 rfl (lv_at hl 2 rfl) ?_
              refine va_get (D := G.1) (ci := 5) (v := .ref ca) (C := RX6) (T := TX6) (N := 7) hx hb hts (fun w h => List.mem_cons_of_mem _ (List.mem_append_right _ h)) hown hE.1 hP 0 rfl rfl 6 (by decide) (hts (.fieldLink RX6 23 "TripleTrapModel" "comes" "[I") (List.mem_of_getElem? (i := 1) rfl)) (fun _ h9 => h9) rfl dX6_chosen_62 ?_
              refine lv_iload hx hb dX6_chosen_65 (lv_at hl 1 rfl) ?_
              refine j_iald hx hb hE hP 3 rfl dX6_chosen_67 ?_
              refine lv_iload_n hx hb dX6_chosen_68 rfl (lv_at hl 3 rfl) ?_
              refine ro_V 5 0 (rest := [.int (nI (losL X ((D k) ^^^ w) 23))]) ⟨hx, hb, hml, hown, hts⟩ (c_X6_loss l G o sa ia ka ea ca tr fi X (D u) w (hDb _ (by omega)) (by omega)) (cwV 2 hts gX6_chosen_X6_loss rfl rfl rfl (by decide +kernel) ⟨Nat.le_of_ble_eq_true rfl, Nat.le_of_ble_eq_true rfl⟩) hE (hP.sub [0, 1] rfl) rfl rfl rfl hl.1 rfl (Nat.le_of_ble_eq_true rfl) dX6_chosen_69 ⟨Nat.zero_le _, Nat.zero_le _⟩ ?_
              refine j_icmp_ge (tgt := 80) hx hb dX6_chosen_72 (by decide) (fun c72 => ?_) (fun c72 => ?_) (h1 := Nat.lt_of_le_of_lt (losL_le hlv _ 23 (by decide)) (by decide)) (h2 := Nat.lt_of_le_of_lt (losL_le hlv _ 23 (by decide)) (by decide))
              · skip
                refine lv_iload hx hb dX6_chosen_80 (lv_at hl 1 rfl) ?_
                refine lv_istore (lv' := [(4, .int (nI u)), (5, .int (nI k)), (0, .ref o), (1, .int (nI w)), (2, .int (nI t)), (3, .int (nI j))]) hx hb dX6_chosen_82 hl (by decide) rfl (fun ls hl => ?_)
                obtain ⟨x84, ex84⟩ : ∃ y : Nat, y = k + 1 := ⟨_, rfl⟩
                refine lv_iinc (v := nI x84) (lv' := [(5, .int (nI x84)), (4, .int (nI u)), (0, .ref o), (1, .int (nI w)), (2, .int (nI t)), (3, .int (nI j))]) hx hb dX6_chosen_84 hl (k := 1) rfl (by rw [ex84]; exact nI_add _ _) (by decide) rfl (fun ls hl => ?_)
                refine lv_goto (tgt := 40) hx hb dX6_chosen_87 (by decide) ?_
                exact ih40 u x84 (by omega) (by omega) (by rw [ex84, show k + 1 - 1 = (k - 1) + 1 by omega, bstL, show k - 1 + 1 = k by omega, ← h3, if_neg (Nat.not_lt.mpr c72)]) (by omega) H locs hP hD hS ls (lv_sub hl [0, 1, 2, 3, 4, 5] rfl)
              · skip
                refine lv_iload hx hb dX6_chosen_75 (lv_at hl 0 rfl) ?_
                refine lv_goto (tgt := 82) hx hb dX6_chosen_77 (by decide) ?_
                refine lv_istore (lv' := [(4, .int (nI k)), (5, .int (nI k)), (0, .ref o), (1, .int (nI w)), (2, .int (nI t)), (3, .int (nI j))]) hx hb dX6_chosen_82 hl (by decide) rfl (fun ls hl => ?_)
                obtain ⟨x84, ex84⟩ : ∃ y : Nat, y = k + 1 := ⟨_, rfl⟩
                refine lv_iinc (v := nI x84) (lv' := [(5, .int (nI x84)), (4, .int (nI k)), (0, .ref o), (1, .int (nI w)), (2, .int (nI t)), (3, .int (nI j))]) hx hb dX6_chosen_84 hl (k := 1) rfl (by rw [ex84]; exact nI_add _ _) (by decide) rfl (fun ls hl => ?_)
                refine lv_goto (tgt := 40) hx hb dX6_chosen_87 (by decide) ?_
                exact ih40 k x84 (by omega) (by omega) (by rw [ex84, show k + 1 - 1 = (k - 1) + 1 by omega, bstL, show k - 1 + 1 = k by omega, if_pos (by rw [← h3]; exact c72)]) (by omega) H locs hP hD hS ls (lv_sub hl [0, 1, 2, 3, 4, 5] rfl)
        exact loop40 _ 0 1 (by omega) h01 rfl (Nat.lt_succ_self _) H locs hP hD hS ls (lv_sub hl [0, 1, 2, 3, 4, 5] rfl)
      · skip
        refine j_if_ne (tgt := 28) hx hb dX6_chosen_22 (by decide) (fun q => absurd q (by decide)) (fun _ => ?_)
        refine lv_bipush (v := (-2)) hx hb dX6_chosen_25 (by decide) ?_
        have eF : C = mChosenC E wk C (nI w) (nI t) z := by rw [mChosenC, if_neg (fun h => by rw [← inI_blw z (N := 4) (by decide) (by decide), show nI (4 - 1) = nI 3 from rfl, c19] at h; exact absurd h.2.2 (by decide))]
        rw [eF] at hP hD
        clear eF
        exact wr_ret hx hb hr hlocks dX6_chosen_27 hP hD hS (by rw [mChosen, if_neg (fun h => by rw [← inI_blw z (N := 4) (by decide) (by decide), show nI (4 - 1) = nI 3 from rfl, c19] at h; exact absurd h.2.2 (by decide))])
    · skip
      refine j_if_eq (tgt := 25) hx hb dX6_chosen_13 (by decide) (fun _ => ?_) (fun q => absurd q (by decide))
      refine lv_bipush (v := (-2)) hx hb dX6_chosen_25 (by decide) ?_
      have eF : C = mChosenC E wk C (nI w) y z := by rw [mChosenC, if_neg (fun h => by rw [← inI_blw y (N := 5) (by decide) (by decide), show nI (5 - 1) = nI 4 from rfl, c10] at h; exact absurd h.2.1 (by decide))]
      rw [eF] at hP hD
      clear eF
      exact wr_ret hx hb hr hlocks dX6_chosen_27 hP hD hS (by rw [mChosen, if_neg (fun h => by rw [← inI_blw y (N := 5) (by decide) (by decide), show nI (5 - 1) = nI 4 from rfl, c10] at h; exact absurd h.2.1 (by decide))])
  · skip
    refine j_if_eq (tgt := 25) hx hb dX6_chosen_4 (by decide) (fun _ => ?_) (fun q => absurd q (by decide))
    refine lv_bipush (v := (-2)) hx hb dX6_chosen_25 (by decide) ?_
    have eF : C = mChosenC E wk C x y z := by rw [mChosenC, if_neg (fun h => by rw [c1] at h; exact absurd h.1 (by decide))]
    rw [eF] at hP hD
    clear eF
    exact wr_ret hx hb hr hlocks dX6_chosen_27 hP hD hS (by rw [mChosen, if_neg (fun h => by rw [c1] at h; exact absurd h.1 (by decide))])
set_option maxHeartbeats 4000000 in
set_option maxRecDepth 100000 in
/-- image -/
theorem c_X6_image (l : Launch) (G : EG) (o : Nat) (sa : Nat) (ia : Nat) (ka : Nat) (ea : Nat) (ca : Nat) (tr : Nat) (fi : Int32) (X : Nat → Nat) (Y : Nat → Nat) (K : Nat → Nat) (x : Int32) (sz : Nat) : WR l yX6_image wsX6_image (rmR 1 22) G sz [(o, .inr (5, [.ref sa, .ref ia, .ref ka, .ref ea, .int (nI tr), .int fi, .ref ca])), (sa, aI G 40 X), (ia, aI G 80 Y), (ka, aZ G 2 K)] [.ref o, .int x] [(o, .inr (5, [.ref sa, .ref ia, .ref ka, .ref ea, .int (nI tr), .int fi, .ref ca])), (sa, aI G 40 X), (ia, aI G 80 (mImageY X Y x)), (ka, aZ G 2 (mImageK K x))] (some (.int (mImageR x))) := by
  refine WR.start (by decide) rfl (Nat.le_of_ble_eq_true rfl) ?_
  intro p e s m below meth c hx hb hr hml hts hown hlocks hE A hA H locs hP hD hS ls hl
  have hown : s.vm.findClass RX6 = some m.cls := hown
  have hl : lv_has ls 3 [(0, .ref o), (1, .int x)] := hl
  refine lv_iload_n hx hb dX6_image_0 rfl (lv_at hl 1 rfl) ?_
  refine lv_iconst (v := nI 0) hx hb dX6_image_1 (by decide) ?_
  refine lv_iconst (v := nI 1) hx hb dX6_image_2 (by decide) ?_
  refine ro_S (rest := []) ⟨hx, hb, hml, hown, hts⟩ (c_X6_in l G x (nI 0) (nI 1)) (va_cwS 3 hts gX6_image_X6_in rfl rfl rfl (by decide +kernel) ⟨Nat.le_of_ble_eq_true rfl, Nat.le_of_ble_eq_true rfl⟩) hE (hP.sub [] rfl) rfl hl.1 rfl (Nat.le_of_ble_eq_true rfl) dX6_image_3 ⟨Nat.zero_le _, Nat.zero_le _⟩ ?_
  refine j_bool (fun c3 => ?_) (fun c3 => ?_)
  · skip
    obtain ⟨d, hd, rfl⟩ := inI_ex (N := 1) rfl c3 (by decide)
    refine j_if_ne (tgt := 12) hx hb dX6_image_6 (by decide) (fun _ => ?_) (fun q => absurd q (by decide))
    refine lv_iconst (v := nI 0) hx hb dX6_image_12 (by decide) ?_
    refine lv_istore_n (lv' := [(2, .int (nI 0)), (0, .ref o), (1, .int (nI d))]) hx hb dX6_image_13 rfl hl (by decide) rfl (fun ls hl => ?_)
    have loop14 : ∀ (fuel : Nat) (k : Nat) (D : Nat → Nat), (k ≤ 40) → (D = imgF X Y d k) → 40 - k < fuel → ∀ (H : Heap) (locs : List Loc), va_P G.1 vwCl [(o, .inr (5, [.ref sa, .ref ia, .ref ka, .ref ea, .int (nI tr), .int fi, .ref ca])), (sa, aI G 40 X), (ia, aI G 80 D), (ka, aZ G 2 K)] H → va_D A [(o, .inr (5, [.ref sa, .ref ia, .ref ka, .ref ea, .int (nI tr), .int fi, .ref ca])), (sa, aI G 40 X), (ia, aI G 80 D), (ka, aZ G 2 K)] → va_S A s.heap H locs → ∀ ls : Array Slot, lv_has ls 3 [(2, .int (nI k)), (0, .ref o), (1, .int (nI d))] → W p l e (rmR 1 22) s m ([.ref o, .int (nI d)] : List Value).toArray below meth c H locs 0 0 (MQ below (postW G [(o, .inr (5, [.ref sa, .ref ia, .ref ka, .ref ea, .int (nI tr), .int fi, .ref ca])), (sa, aI G 40 X), (ia, aI G 80 (mImageY X Y (nI d))), (ka, aZ G 2 (mImageK K (nI d)))] (some (.int (mImageR (nI d)))) A) ([.ref o, .int (nI d)] : List Value).toArray s 0 0 A) (F0 m 14 ls []) := by
      intro fuel
      induction fuel with
      | zero => intro k D h1 h2 hf; exact absurd hf (Nat.not_lt_zero _)
      | succ fuel ih14 =>
        intro k D h1 h2 hf H locs hP hD hS ls hl
        refine lv_iload_n hx hb dX6_image_14 rfl (lv_at hl 0 rfl) ?_
        refine lv_bipush (v := nI 40) hx hb dX6_image_15 (by decide) ?_
        refine j_icmp_ge (tgt := 43) hx hb dX6_image_17 (by decide) (fun c17 => ?_) (fun c17 => ?_)
        · skip
          refine lv_aload_n hx hb dX6_image_43 rfl (lv_at hl 1 rfl) ?_
          refine va_get (D := G.1) (ci := 5) (v := .ref ka) (C := RX6) (T := TX6) (N := 7) hx hb hts (fun w h => List.mem_cons_of_mem _ (List.mem_append_right _ h)) hown hE.1 hP 0 rfl rfl 2 (by decide) (hts (.fieldLink RX6 16 "TripleTrapModel" "isKept" "[Z") (List.mem_of_getElem? (i := 3) rfl)) (fun _ h9 => h9) rfl dX6_image_44 ?_
          refine lv_iload_n hx hb dX6_image_47 rfl (lv_at hl 2 rfl) ?_
          refine lv_iconst (v := nI 1) hx hb dX6_image_48 (by decide) ?_
          refine j_zast hx hb hE hP hD hS 3 rfl dX6_image_49 (fun H locs hP hD hS => ?_)
          have hP : va_P G.1 vwCl [(o, .inr (5, [.ref sa, .ref ia, .ref ka, .ref ea, .int (nI tr), .int fi, .ref ca])), (sa, aI G 40 X), (ia, aI G 80 D), (ka, aZ G 2 (va_up K d 1))] H := hP
          have hD : va_D A [(o, .inr (5, [.ref sa, .ref ia, .ref ka, .ref ea, .int (nI tr), .int fi, .ref ca])), (sa, aI G 40 X), (ia, aI G 80 D), (ka, aZ G 2 (va_up K d 1))] := hD
          refine lv_iconst (v := nI 1) hx hb dX6_image_50 (by decide) ?_
          have eF : D = mImageY X Y (nI d) := by rw [mImageY, if_pos (blw_j hd (by decide)), cl_nI hd (by decide), h2, show k = 40 by omega]
          rw [eF] at hP hD
          clear eF
          have eF : va_up K d 1 = mImageK K (nI d) := by rw [mImageK, if_pos (blw_j hd (by decide)), cl_nI hd (by decide)]
          rw [eF] at hP hD
          clear eF
          exact wr_ret hx hb hr hlocks dX6_image_51 hP hD hS (by rw [mImageR, if_pos (blw_j hd (by decide))])
        · skip
          refine lv_aload_n hx hb dX6_image_20 rfl (lv_at hl 1 rfl) ?_
          refine va_get (D := G.1) (ci := 5) (v := .ref ia) (C := RX6) (T := TX6) (N := 7) hx hb hts (fun w h => List.mem_cons_of_mem _ (List.mem_append_right _ h)) hown hE.1 hP 0 rfl rfl 1 (by decide) (hts (.fieldLink RX6 13 "TripleTrapModel" "images" "[I") (List.mem_of_getElem? (i := 1) rfl)) (fun _ h9 => h9) rfl dX6_image_21 ?_
          refine lv_bipush (v := nI 40) hx hb dX6_image_24 (by decide) ?_
          refine lv_iload_n hx hb dX6_image_26 rfl (lv_at hl 2 rfl) ?_
          refine j_mul hx hb dX6_image_27 ?_
          refine lv_iload_n hx hb dX6_image_28 rfl (lv_at hl 0 rfl) ?_
          refine j_add hx hb dX6_image_29 ?_
          refine lv_aload_n hx hb dX6_image_30 rfl (lv_at hl 1 rfl) ?_
          refine va_get (D := G.1) (ci := 5) (v := .ref sa) (C := RX6) (T := TX6) (N := 7) hx hb hts (fun w h => List.mem_cons_of_mem _ (List.mem_append_right _ h)) hown hE.1 hP 0 rfl rfl 0 (by decide) (hts (.fieldLink RX6 7 "TripleTrapModel" "state" "[I") (List.mem_of_getElem? (i := 2) rfl)) (fun _ h9 => h9) rfl dX6_image_31 ?_
          refine lv_iload_n hx hb dX6_image_34 rfl (lv_at hl 0 rfl) ?_
          refine j_iald hx hb hE hP 1 rfl dX6_image_35 ?_
          refine j_iast hx hb hE hP hD hS 2 rfl dX6_image_36 (fun H locs hP hD hS => ?_)
          have hP : va_P G.1 vwCl [(o, .inr (5, [.ref sa, .ref ia, .ref ka, .ref ea, .int (nI tr), .int fi, .ref ca])), (sa, aI G 40 X), (ia, aI G 80 (va_up D ((40 * d) + k) (X k))), (ka, aZ G 2 K)] H := hP
          have hD : va_D A [(o, .inr (5, [.ref sa, .ref ia, .ref ka, .ref ea, .int (nI tr), .int fi, .ref ca])), (sa, aI G 40 X), (ia, aI G 80 (va_up D ((40 * d) + k) (X k))), (ka, aZ G 2 K)] := hD
          obtain ⟨x37, ex37⟩ : ∃ y : Nat, y = k + 1 := ⟨_, rfl⟩
          refine lv_iinc (v := nI x37) (lv' := [(2, .int (nI x37)), (0, .ref o), (1, .int (nI d))]) hx hb dX6_image_37 hl (k := 0) rfl (by rw [ex37]; exact nI_add _ _) (by decide) rfl (fun ls hl => ?_)
          refine lv_goto (tgt := 14) hx hb dX6_image_40 (by decide) ?_
          exact ih14 x37 (va_up D ((40 * d) + k) (X k)) (by omega) (by rw [ex37, imgF, ← h2]) (by omega) H locs hP hD hS ls (lv_sub hl [0, 1, 2] rfl)
    exact loop14 _ 0 Y (by omega) rfl (Nat.lt_succ_self _) H locs hP hD hS ls (lv_sub hl [0, 1, 2] rfl)
  · skip
    refine j_if_ne (tgt := 12) hx hb dX6_image_6 (by decide) (fun q => absurd q (by decide)) (fun _ => ?_)
    refine lv_bipush (v := (-2)) hx hb dX6_image_9 (by decide) ?_
    have eF : Y = mImageY X Y x := by rw [mImageY, if_neg (fun h => by rw [← inI_blw x (N := 2) (by decide) (by decide), show nI (2 - 1) = nI 1 from rfl, c3] at h; exact absurd h (by decide))]
    rw [eF] at hP hD
    clear eF
    have eF : K = mImageK K x := by rw [mImageK, if_neg (fun h => by rw [← inI_blw x (N := 2) (by decide) (by decide), show nI (2 - 1) = nI 1 from rfl, c3] at h; exact absurd h (by decide))]
    rw [eF] at hP hD
    clear eF
    exact wr_ret hx hb hr hlocks dX6_image_11 hP hD hS (by rw [mImageR, if_neg (fun h => by rw [← inI_blw x (N := 2) (by decide) (by decide), show nI (2 - 1) = nI 1 from rfl, c3] at h; exact absurd h (by decide))])
set_option maxHeartbeats 4000000 in
set_option maxRecDepth 100000 in
/-- restore -/
theorem c_X6_restore (l : Launch) (G : EG) (o : Nat) (sa : Nat) (ia : Nat) (ka : Nat) (ea : Nat) (ca : Nat) (tr : Nat) (fi : Int32) (X : Nat → Nat) (Y : Nat → Nat) (K : Nat → Nat) (hK : ∀ i, i < 2 → K i ≤ 1) (x : Int32) (sz : Nat) : WR l yX6_restore wsX6_restore (rmR 1 22) G sz [(o, .inr (5, [.ref sa, .ref ia, .ref ka, .ref ea, .int (nI tr), .int fi, .ref ca])), (sa, aI G 40 X), (ia, aI G 80 Y), (ka, aZ G 2 K)] [.ref o, .int x] [(o, .inr (5, [.ref sa, .ref ia, .ref ka, .ref ea, .int (nI tr), .int fi, .ref ca])), (sa, aI G 40 (mRestoreX X Y K x)), (ia, aI G 80 Y), (ka, aZ G 2 K)] (some (.int (mRestoreR K x))) := by
  refine WR.start (by decide) rfl (Nat.le_of_ble_eq_true rfl) ?_
  intro p e s m below meth c hx hb hr hml hts hown hlocks hE A hA H locs hP hD hS ls hl
  have hown : s.vm.findClass RX6 = some m.cls := hown
  have hl : lv_has ls 3 [(0, .ref o), (1, .int x)] := hl
  refine lv_iload_n hx hb dX6_restore_0 rfl (lv_at hl 1 rfl) ?_
  refine lv_iconst (v := nI 0) hx hb dX6_restore_1 (by decide) ?_
  refine lv_iconst (v := nI 1) hx hb dX6_restore_2 (by decide) ?_
  refine ro_S (rest := []) ⟨hx, hb, hml, hown, hts⟩ (c_X6_in l G x (nI 0) (nI 1)) (va_cwS 3 hts gX6_restore_X6_in rfl rfl rfl (by decide +kernel) ⟨Nat.le_of_ble_eq_true rfl, Nat.le_of_ble_eq_true rfl⟩) hE (hP.sub [] rfl) rfl hl.1 rfl (Nat.le_of_ble_eq_true rfl) dX6_restore_3 ⟨Nat.zero_le _, Nat.zero_le _⟩ ?_
  refine j_bool (fun c3 => ?_) (fun c3 => ?_)
  · skip
    obtain ⟨d, hd, rfl⟩ := inI_ex (N := 1) rfl c3 (by decide)
    refine j_if_ne (tgt := 12) hx hb dX6_restore_6 (by decide) (fun _ => ?_) (fun q => absurd q (by decide))
    refine lv_aload_n hx hb dX6_restore_12 rfl (lv_at hl 0 rfl) ?_
    refine va_get (D := G.1) (ci := 5) (v := .ref ka) (C := RX6) (T := TX6) (N := 7) hx hb hts (fun w h => List.mem_cons_of_mem _ (List.mem_append_right _ h)) hown hE.1 hP 0 rfl rfl 2 (by decide) (hts (.fieldLink RX6 16 "TripleTrapModel" "isKept" "[Z") (List.mem_of_getElem? (i := 1) rfl)) (fun _ h9 => h9) rfl dX6_restore_13 ?_
    refine lv_iload_n hx hb dX6_restore_16 rfl (lv_at hl 1 rfl) ?_
    refine j_zald hx hb hE hP 3 rfl dX6_restore_17 ?_
    refine j_if_ne (tgt := 24) hx hb dX6_restore_18 (by decide) (fun c18 => ?_) (fun c18 => ?_) (h1 := by have := hK d (by omega); omega)
    · skip
      refine lv_iconst (v := nI 0) hx hb dX6_restore_24 (by decide) ?_
      refine lv_istore_n (lv' := [(2, .int (nI 0)), (0, .ref o), (1, .int (nI d))]) hx hb dX6_restore_25 rfl hl (by decide) rfl (fun ls hl => ?_)
      have loop26 : ∀ (fuel : Nat) (k : Nat) (D : Nat → Nat), (k ≤ 40) → (D = rstF X Y d k) → 40 - k < fuel → ∀ (H : Heap) (locs : List Loc), va_P G.1 vwCl [(o, .inr (5, [.ref sa, .ref ia, .ref ka, .ref ea, .int (nI tr), .int fi, .ref ca])), (sa, aI G 40 D), (ia, aI G 80 Y), (ka, aZ G 2 K)] H → va_D A [(o, .inr (5, [.ref sa, .ref ia, .ref ka, .ref ea, .int (nI tr), .int fi, .ref ca])), (sa, aI G 40 D), (ia, aI G 80 Y), (ka, aZ G 2 K)] → va_S A s.heap H locs → ∀ ls : Array Slot, lv_has ls 3 [(2, .int (nI k)), (0, .ref o), (1, .int (nI d))] → W p l e (rmR 1 22) s m ([.ref o, .int (nI d)] : List Value).toArray below meth c H locs 0 0 (MQ below (postW G [(o, .inr (5, [.ref sa, .ref ia, .ref ka, .ref ea, .int (nI tr), .int fi, .ref ca])), (sa, aI G 40 (mRestoreX X Y K (nI d))), (ia, aI G 80 Y), (ka, aZ G 2 K)] (some (.int (mRestoreR K (nI d)))) A) ([.ref o, .int (nI d)] : List Value).toArray s 0 0 A) (F0 m 26 ls []) := by
        intro fuel
        induction fuel with
        | zero => intro k D h1 h2 hf; exact absurd hf (Nat.not_lt_zero _)
        | succ fuel ih26 =>
          intro k D h1 h2 hf H locs hP hD hS ls hl
          refine lv_iload_n hx hb dX6_restore_26 rfl (lv_at hl 0 rfl) ?_
          refine lv_bipush (v := nI 40) hx hb dX6_restore_27 (by decide) ?_
          refine j_icmp_ge (tgt := 55) hx hb dX6_restore_29 (by decide) (fun c29 => ?_) (fun c29 => ?_)
          · skip
            refine lv_iconst (v := nI 1) hx hb dX6_restore_55 (by decide) ?_
            have eF : D = mRestoreX X Y K (nI d) := by rw [mRestoreX, cl_nI hd (by decide), if_pos ⟨blw_j hd (by decide), c18⟩, h2, show k = 40 by omega]
            rw [eF] at hP hD
            clear eF
            exact wr_ret hx hb hr hlocks dX6_restore_56 hP hD hS (by rw [mRestoreR, if_pos (blw_j hd (by decide)), cl_nI hd (by decide), if_neg c18])
          · skip
            refine lv_aload_n hx hb dX6_restore_32 rfl (lv_at hl 1 rfl) ?_
            refine va_get (D := G.1) (ci := 5) (v := .ref sa) (C := RX6) (T := TX6) (N := 7) hx hb hts (fun w h => List.mem_cons_of_mem _ (List.mem_append_right _ h)) hown hE.1 hP 0 rfl rfl 0 (by decide) (hts (.fieldLink RX6 7 "TripleTrapModel" "state" "[I") (List.mem_of_getElem? (i := 2) rfl)) (fun _ h9 => h9) rfl dX6_restore_33 ?_
            refine lv_iload_n hx hb dX6_restore_36 rfl (lv_at hl 0 rfl) ?_
            refine lv_aload_n hx hb dX6_restore_37 rfl (lv_at hl 1 rfl) ?_
            refine va_get (D := G.1) (ci := 5) (v := .ref ia) (C := RX6) (T := TX6) (N := 7) hx hb hts (fun w h => List.mem_cons_of_mem _ (List.mem_append_right _ h)) hown hE.1 hP 0 rfl rfl 1 (by decide) (hts (.fieldLink RX6 13 "TripleTrapModel" "images" "[I") (List.mem_of_getElem? (i := 3) rfl)) (fun _ h9 => h9) rfl dX6_restore_38 ?_
            refine lv_bipush (v := nI 40) hx hb dX6_restore_41 (by decide) ?_
            refine lv_iload_n hx hb dX6_restore_43 rfl (lv_at hl 2 rfl) ?_
            refine j_mul hx hb dX6_restore_44 ?_
            refine lv_iload_n hx hb dX6_restore_45 rfl (lv_at hl 0 rfl) ?_
            refine j_add hx hb dX6_restore_46 ?_
            refine j_iald hx hb hE hP 2 rfl dX6_restore_47 ?_
            refine j_iast hx hb hE hP hD hS 1 rfl dX6_restore_48 (fun H locs hP hD hS => ?_)
            have hP : va_P G.1 vwCl [(o, .inr (5, [.ref sa, .ref ia, .ref ka, .ref ea, .int (nI tr), .int fi, .ref ca])), (sa, aI G 40 (va_up D k (Y ((40 * d) + k)))), (ia, aI G 80 Y), (ka, aZ G 2 K)] H := hP
            have hD : va_D A [(o, .inr (5, [.ref sa, .ref ia, .ref ka, .ref ea, .int (nI tr), .int fi, .ref ca])), (sa, aI G 40 (va_up D k (Y ((40 * d) + k)))), (ia, aI G 80 Y), (ka, aZ G 2 K)] := hD
            obtain ⟨x49, ex49⟩ : ∃ y : Nat, y = k + 1 := ⟨_, rfl⟩
            refine lv_iinc (v := nI x49) (lv' := [(2, .int (nI x49)), (0, .ref o), (1, .int (nI d))]) hx hb dX6_restore_49 hl (k := 0) rfl (by rw [ex49]; exact nI_add _ _) (by decide) rfl (fun ls hl => ?_)
            refine lv_goto (tgt := 26) hx hb dX6_restore_52 (by decide) ?_
            exact ih26 x49 (va_up D k (Y ((40 * d) + k))) (by omega) (by rw [ex49, rstF, ← h2]) (by omega) H locs hP hD hS ls (lv_sub hl [0, 1, 2] rfl)
      exact loop26 _ 0 X (by omega) rfl (Nat.lt_succ_self _) H locs hP hD hS ls (lv_sub hl [0, 1, 2] rfl)
    · skip
      refine lv_bipush (v := (-3)) hx hb dX6_restore_21 (by decide) ?_
      have eF : X = mRestoreX X Y K (nI d) := by rw [mRestoreX, if_neg (fun h => by rw [cl_nI hd (by decide)] at h; exact h.2 c18)]
      rw [eF] at hP hD
      clear eF
      exact wr_ret hx hb hr hlocks dX6_restore_23 hP hD hS (by rw [mRestoreR, if_pos (blw_j hd (by decide)), cl_nI hd (by decide), if_pos c18])
  · skip
    refine j_if_ne (tgt := 12) hx hb dX6_restore_6 (by decide) (fun q => absurd q (by decide)) (fun _ => ?_)
    refine lv_bipush (v := (-2)) hx hb dX6_restore_9 (by decide) ?_
    have eF : X = mRestoreX X Y K x := by rw [mRestoreX, if_neg (fun h => by rw [← inI_blw x (N := 2) (by decide) (by decide), show nI (2 - 1) = nI 1 from rfl, c3] at h; exact absurd h.1 (by decide))]
    rw [eF] at hP hD
    clear eF
    exact wr_ret hx hb hr hlocks dX6_restore_11 hP hD hS (by rw [mRestoreR, if_neg (fun h => by rw [← inI_blw x (N := 2) (by decide) (by decide), show nI (2 - 1) = nI 1 from rfl, c3] at h; exact absurd h (by decide))])
set_option maxHeartbeats 4000000 in
set_option maxRecDepth 100000 in
/-- sureOfAll -/
theorem c_X6_sureOfAll (l : Launch) (G : EG) (o : Nat) (sa : Nat) (ia : Nat) (ka : Nat) (ea : Nat) (ca : Nat) (tr : Nat) (fi : Int32) (X : Nat → Nat) : RO l yX6_sureOfAll wsX6_sureOfAll (rmR 0 0) G [(o, .inr (5, [.ref sa, .ref ia, .ref ka, .ref ea, .int (nI tr), .int fi, .ref ca])), (sa, aI G 40 X)] [.ref o] (.int (nI (sumL X 23))) := by
  refine RO.start (by decide) rfl (Nat.le_of_ble_eq_true rfl) ?_
  intro p e s m below meth c hx hb hr hml hts hown hlocks hP hE ls hl
  have hown : s.vm.findClass RX6 = some m.cls := hown
  have hl : lv_has ls 3 [(0, .ref o)] := hl
  refine lv_iconst (v := nI 0) hx hb dX6_sureOfAll_0 (by decide) ?_
  refine lv_istore_n (lv' := [(1, .int (nI 0)), (0, .ref o)]) hx hb dX6_sureOfAll_1 rfl hl (by decide) rfl (fun ls hl => ?_)
  refine lv_iconst (v := nI 0) hx hb dX6_sureOfAll_2 (by decide) ?_
  refine lv_istore_n (lv' := [(2, .int (nI 0)), (1, .int (nI 0)), (0, .ref o)]) hx hb dX6_sureOfAll_3 rfl hl (by decide) rfl (fun ls hl => ?_)
  have loop4 : ∀ (fuel : Nat) (t : Nat) (q : Nat), (q ≤ 23) → (t = sumL X q) → 23 - q < fuel → ∀ ls : Array Slot, lv_has ls 3 [(2, .int (nI q)), (1, .int (nI t)), (0, .ref o)] → W p l e (rmR 0 0) s m ([.ref o] : List Value).toArray below meth c s.heap [] 0 0 (MQ below (k2_QcV (.int (nI (sumL X 23)))) ([.ref o] : List Value).toArray s 0 0 (fun _ => False)) (F0 m 4 ls []) := by
    intro fuel
    induction fuel with
    | zero => intro t q h1 h2 hf; exact absurd hf (Nat.not_lt_zero _)
    | succ fuel ih4 =>
      intro t q h1 h2 hf ls hl
      refine lv_iload_n hx hb dX6_sureOfAll_4 rfl (lv_at hl 0 rfl) ?_
      refine lv_bipush (v := nI 23) hx hb dX6_sureOfAll_5 (by decide) ?_
      refine j_icmp_ge (tgt := 28) hx hb dX6_sureOfAll_7 (by decide) (fun c7 => ?_) (fun c7 => ?_)
      · skip
        refine lv_iload_n hx hb dX6_sureOfAll_28 rfl (lv_at hl 1 rfl) ?_
        exact ro_ret hx hb hr hlocks dX6_sureOfAll_29 (by rw [h2, show q = 23 by omega])
      · skip
        refine lv_iload_n hx hb dX6_sureOfAll_10 rfl (lv_at hl 1 rfl) ?_
        refine lv_aload_n hx hb dX6_sureOfAll_11 rfl (lv_at hl 2 rfl) ?_
        refine va_get (D := G.1) (ci := 5) (v := .ref sa) (C := RX6) (T := TX6) (N := 7) hx hb hts (fun w h => List.mem_cons_of_mem _ (List.mem_append_right _ h)) hown hE.1 hP 0 rfl rfl 0 (by decide) (hts (.fieldLink RX6 7 "TripleTrapModel" "state" "[I") (List.mem_of_getElem? (i := 1) rfl)) (fun _ h9 => h9) rfl dX6_sureOfAll_12 ?_
        refine lv_bipush (v := nI 17) hx hb dX6_sureOfAll_15 (by decide) ?_
        refine lv_iload_n hx hb dX6_sureOfAll_17 rfl (lv_at hl 0 rfl) ?_
        refine j_add hx hb dX6_sureOfAll_18 ?_
        refine j_iald hx hb hE hP 1 rfl dX6_sureOfAll_19 ?_
        refine j_add hx hb dX6_sureOfAll_20 ?_
        refine j_top (fun x21 ex21 => ?_)
        refine lv_istore_n (lv' := [(1, .int (nI x21)), (2, .int (nI q)), (0, .ref o)]) hx hb dX6_sureOfAll_21 rfl hl (by decide) rfl (fun ls hl => ?_)
        obtain ⟨x22, ex22⟩ : ∃ y : Nat, y = q + 1 := ⟨_, rfl⟩
        refine lv_iinc (v := nI x22) (lv' := [(2, .int (nI x22)), (1, .int (nI x21)), (0, .ref o)]) hx hb dX6_sureOfAll_22 hl (k := 1) rfl (by rw [ex22]; exact nI_add _ _) (by decide) rfl (fun ls hl => ?_)
        refine lv_goto (tgt := 4) hx hb dX6_sureOfAll_25 (by decide) ?_
        exact ih4 x21 x22 (by omega) (by rw [ex21, ex22, h2]; rfl) (by omega) ls (lv_sub hl [0, 1, 2] rfl)
  exact loop4 _ 0 0 (by omega) rfl (Nat.lt_succ_self _) ls (lv_sub hl [0, 1, 2] rfl)
set_option maxHeartbeats 4000000 in
set_option maxRecDepth 100000 in
/-- ofWeight -/
theorem c_X6_ofWeight (l : Launch) (G : EG) (d : Nat) (hd : d < 2147483648) : RO l yX6_ofWeight wsX6_ofWeight (rmR 2 43) G [] [.int (nI d)] (.int (nI (aroL 0 d 4096))) := by
  refine RO.start (by decide) rfl (Nat.le_of_ble_eq_true rfl) ?_
  intro p e s m below meth c hx hb hr hml hts hown hlocks hP hE ls hl
  have hown : s.vm.findClass RX6 = some m.cls := hown
  have hl : lv_has ls 3 [(0, .int (nI d))] := hl
  refine lv_iconst (v := nI 0) hx hb dX6_ofWeight_0 (by decide) ?_
  refine lv_istore_n (lv' := [(1, .int (nI 0)), (0, .int (nI d))]) hx hb dX6_ofWeight_1 rfl hl (by decide) rfl (fun ls hl => ?_)
  refine lv_iconst (v := nI 0) hx hb dX6_ofWeight_2 (by decide) ?_
  refine lv_istore_n (lv' := [(2, .int (nI 0)), (1, .int (nI 0)), (0, .int (nI d))]) hx hb dX6_ofWeight_3 rfl hl (by decide) rfl (fun ls hl => ?_)
  have loop4 : ∀ (fuel : Nat) (t : Nat) (k : Nat), (k ≤ 4096) → (t = aroL 0 d k) → 4096 - k < fuel → ∀ ls : Array Slot, lv_has ls 3 [(2, .int (nI k)), (1, .int (nI t)), (0, .int (nI d))] → W p l e (rmR 2 43) s m ([.int (nI d)] : List Value).toArray below meth c s.heap [] 0 0 (MQ below (k2_QcV (.int (nI (aroL 0 d 4096)))) ([.int (nI d)] : List Value).toArray s 0 0 (fun _ => False)) (F0 m 4 ls []) := by
    intro fuel
    induction fuel with
    | zero => intro t k h1 h2 hf; exact absurd hf (Nat.not_lt_zero _)
    | succ fuel ih4 =>
      intro t k h1 h2 hf ls hl
      refine lv_iload_n hx hb dX6_ofWeight_4 rfl (lv_at hl 0 rfl) ?_
      refine lv_sipush (v := nI 4096) hx hb dX6_ofWeight_5 (by decide) ?_
      refine j_icmp_ge (tgt := 36) hx hb dX6_ofWeight_8 (by decide) (fun c8 => ?_) (fun c8 => ?_)
      · skip
        refine lv_iload_n hx hb dX6_ofWeight_36 rfl (lv_at hl 1 rfl) ?_
        exact ro_ret hx hb hr hlocks dX6_ofWeight_37 (by rw [h2, show k = 4096 by omega])
      · skip
        refine lv_iload_n hx hb dX6_ofWeight_11 rfl (lv_at hl 1 rfl) ?_
        refine lv_iload_n hx hb dX6_ofWeight_12 rfl (lv_at hl 0 rfl) ?_
        refine ro_S (rest := [.int (nI t)]) ⟨hx, hb, hml, hown, hts⟩ (c_X6_madeOf l G k (by omega)) (va_cwS 1 hts gX6_ofWeight_X6_madeOf rfl rfl rfl (by decide +kernel) ⟨Nat.le_of_ble_eq_true rfl, Nat.le_of_ble_eq_true rfl⟩) hE (hP.sub [] rfl) rfl hl.1 rfl (Nat.le_of_ble_eq_true rfl) dX6_ofWeight_13 ⟨Nat.zero_le _, Nat.zero_le _⟩ ?_
        refine ro_S (rest := [.int (nI t)]) ⟨hx, hb, hml, hown, hts⟩ (c_X6_weight l G (madeN k) (Nat.lt_trans (made_lt (by omega)) (by decide))) (va_cwS 1 hts gX6_ofWeight_X6_weight rfl rfl rfl (by decide +kernel) ⟨Nat.le_of_ble_eq_true rfl, Nat.le_of_ble_eq_true rfl⟩) hE (hP.sub [] rfl) rfl hl.1 rfl (Nat.le_of_ble_eq_true rfl) dX6_ofWeight_16 ⟨Nat.zero_le _, Nat.zero_le _⟩ ?_
        refine lv_iload_n hx hb dX6_ofWeight_19 rfl (lv_at hl 2 rfl) ?_
        refine j_icmp_ne (tgt := 27) hx hb dX6_ofWeight_20 (by decide) (fun c20 => ?_) (fun c20 => ?_) (h1 := Nat.lt_of_le_of_lt (wtN_le _) (by decide)) (h2 := by omega)
        · skip
          refine lv_iconst (v := nI 0) hx hb dX6_ofWeight_27 (by decide) ?_
          refine j_add hx hb dX6_ofWeight_28 ?_
          refine j_top (fun x29 ex29 => ?_)
          refine lv_istore_n (lv' := [(1, .int (nI x29)), (2, .int (nI k)), (0, .int (nI d))]) hx hb dX6_ofWeight_29 rfl hl (by decide) rfl (fun ls hl => ?_)
          obtain ⟨x30, ex30⟩ : ∃ y : Nat, y = k + 1 := ⟨_, rfl⟩
          refine lv_iinc (v := nI x30) (lv' := [(2, .int (nI x30)), (1, .int (nI x29)), (0, .int (nI d))]) hx hb dX6_ofWeight_30 hl (k := 1) rfl (by rw [ex30]; exact nI_add _ _) (by decide) rfl (fun ls hl => ?_)
          refine lv_goto (tgt := 4) hx hb dX6_ofWeight_33 (by decide) ?_
          exact ih4 x29 x30 (by omega) (by rw [ex29, ex30, h2, aroL, Nat.xor_zero, if_neg c20]) (by omega) ls (lv_sub hl [0, 1, 2] rfl)
        · skip
          refine lv_iconst (v := nI 1) hx hb dX6_ofWeight_23 (by decide) ?_
          refine lv_goto (tgt := 28) hx hb dX6_ofWeight_24 (by decide) ?_
          refine j_add hx hb dX6_ofWeight_28 ?_
          refine j_top (fun x29 ex29 => ?_)
          refine lv_istore_n (lv' := [(1, .int (nI x29)), (2, .int (nI k)), (0, .int (nI d))]) hx hb dX6_ofWeight_29 rfl hl (by decide) rfl (fun ls hl => ?_)
          obtain ⟨x30, ex30⟩ : ∃ y : Nat, y = k + 1 := ⟨_, rfl⟩
          refine lv_iinc (v := nI x30) (lv' := [(2, .int (nI x30)), (1, .int (nI x29)), (0, .int (nI d))]) hx hb dX6_ofWeight_30 hl (k := 1) rfl (by rw [ex30]; exact nI_add _ _) (by decide) rfl (fun ls hl => ?_)
          refine lv_goto (tgt := 4) hx hb dX6_ofWeight_33 (by decide) ?_
          exact ih4 x29 x30 (by omega) (by rw [ex29, ex30, h2, aroL, Nat.xor_zero, if_pos c20]) (by omega) ls (lv_sub hl [0, 1, 2] rfl)
  exact loop4 _ 0 0 (by omega) rfl (Nat.lt_succ_self _) ls (lv_sub hl [0, 1, 2] rfl)
set_option maxHeartbeats 4000000 in
set_option maxRecDepth 100000 in
/-- count -/
theorem c_X6_count (l : Launch) (G : EG) (o : Nat) (sa : Nat) (ia : Nat) (ka : Nat) (ea : Nat) (ca : Nat) (tr : Nat) (fi : Int32) (X : Nat → Nat) (K : Nat → Nat) (hK : ∀ i, i < 2 → K i ≤ 1) (x : Int32) : RO l yX6_count wsX6_count (rmR 3 65) G [(o, .inr (5, [.ref sa, .ref ia, .ref ka, .ref ea, .int (nI tr), .int fi, .ref ca])), (sa, aI G 40 X), (ka, aZ G 2 K)] [.ref o, .int x] (.int (mCount X K x)) := by
  refine RO.start (by decide) rfl (Nat.le_of_ble_eq_true rfl) ?_
  intro p e s m below meth c hx hb hr hml hts hown hlocks hP hE ls hl
  have hown : s.vm.findClass RX6 = some m.cls := hown
  have hl : lv_has ls 2 [(0, .ref o), (1, .int x)] := hl
  refine lv_iload_n hx hb dX6_count_0 rfl (lv_at hl 1 rfl) ?_
  refine lv_bipush (v := nI 10) hx hb dX6_count_1 (by decide) ?_
  refine lv_bipush (v := nI 33) hx hb dX6_count_3 (by decide) ?_
  refine ro_S (rest := []) ⟨hx, hb, hml, hown, hts⟩ (c_X6_in l G x (nI 10) (nI 33)) (va_cwS 3 hts gX6_count_X6_in rfl rfl rfl (by decide +kernel) ⟨Nat.le_of_ble_eq_true rfl, Nat.le_of_ble_eq_true rfl⟩) hE (hP.sub [] rfl) rfl hl.1 rfl (Nat.le_of_ble_eq_true rfl) dX6_count_5 ⟨Nat.zero_le _, Nat.zero_le _⟩ ?_
  refine j_bool (fun c5 => ?_) (fun c5 => ?_)
  · skip
    obtain ⟨j, hj1, hj2, rfl⟩ := inI_ex2 c5 (by decide) (by decide)
    refine j_if_eq (tgt := 19) hx hb dX6_count_8 (by decide) (fun q => absurd q (by decide)) (fun _ => ?_)
    refine lv_iload_n hx hb dX6_count_11 rfl (lv_at hl 1 rfl) ?_
    refine lv_bipush (v := nI 10) hx hb dX6_count_12 (by decide) ?_
    refine j_sub hx hb dX6_count_14 ?_
    refine ro_S (rest := []) ⟨hx, hb, hml, hown, hts⟩ (c_X6_ofWeight l G (j - 10) (by omega)) (va_cwS 1 hts gX6_count_X6_ofWeight rfl rfl rfl (by decide +kernel) ⟨Nat.le_of_ble_eq_true rfl, Nat.le_of_ble_eq_true rfl⟩) hE (hP.sub [] rfl) rfl hl.1 rfl (Nat.le_of_ble_eq_true rfl) dX6_count_15 ⟨Nat.zero_le _, Nat.zero_le _⟩ ?_
    exact ro_ret hx hb hr hlocks dX6_count_18 (by rw [mCount, if_pos c5, cl_nI (N := 34) (by omega) (by decide)])
  · skip
    refine j_if_eq (tgt := 19) hx hb dX6_count_8 (by decide) (fun _ => ?_) (fun q => absurd q (by decide))
    refine lv_iload_n hx hb dX6_count_19 rfl (lv_at hl 1 rfl) ?_
    refine lv_bipush (v := nI 40) hx hb dX6_count_20 (by decide) ?_
    refine lv_bipush (v := nI 62) hx hb dX6_count_22 (by decide) ?_
    refine ro_S (rest := []) ⟨hx, hb, hml, hown, hts⟩ (c_X6_in l G x (nI 40) (nI 62)) (va_cwS 3 hts gX6_count_X6_in rfl rfl rfl (by decide +kernel) ⟨Nat.le_of_ble_eq_true rfl, Nat.le_of_ble_eq_true rfl⟩) hE (hP.sub [] rfl) rfl hl.1 rfl (Nat.le_of_ble_eq_true rfl) dX6_count_24 ⟨Nat.zero_le _, Nat.zero_le _⟩ ?_
    refine j_bool (fun c24 => ?_) (fun c24 => ?_)
    · skip
      obtain ⟨j, hj1, hj2, rfl⟩ := inI_ex2 c24 (by decide) (by decide)
      refine j_if_eq (tgt := 43) hx hb dX6_count_27 (by decide) (fun q => absurd q (by decide)) (fun _ => ?_)
      refine lv_aload_n hx hb dX6_count_30 rfl (lv_at hl 0 rfl) ?_
      refine va_get (D := G.1) (ci := 5) (v := .ref sa) (C := RX6) (T := TX6) (N := 7) hx hb hts (fun w h => List.mem_cons_of_mem _ (List.mem_append_right _ h)) hown hE.1 hP 0 rfl rfl 0 (by decide) (hts (.fieldLink RX6 7 "TripleTrapModel" "state" "[I") (List.mem_of_getElem? (i := 1) rfl)) (fun _ h9 => h9) rfl dX6_count_31 ?_
      refine lv_bipush (v := nI 17) hx hb dX6_count_34 (by decide) ?_
      refine lv_iload_n hx hb dX6_count_36 rfl (lv_at hl 1 rfl) ?_
      refine j_add hx hb dX6_count_37 ?_
      refine lv_bipush (v := nI 40) hx hb dX6_count_38 (by decide) ?_
      refine j_sub hx hb dX6_count_40 ?_
      refine j_iald hx hb hE hP 1 rfl dX6_count_41 ?_
      exact ro_ret hx hb hr hlocks dX6_count_42 (by rw [mCount, if_neg (by rw [c5]; decide), if_pos c24, cl_nI (N := 63) (by omega) (by decide)])
    · skip
      refine j_if_eq (tgt := 43) hx hb dX6_count_27 (by decide) (fun _ => ?_) (fun q => absurd q (by decide))
      refine lv_iload_n hx hb dX6_count_43 rfl (lv_at hl 1 rfl) ?_
      by_cases c44_0 : x = nI 0
      · subst c44_0
        refine lv_tableIn (off := 28) (tgt := 72) hx hb dX6_count_44 (by decide) (by decide) rfl (by decide) ?_
        refine lv_aload_n hx hb dX6_count_72 rfl (lv_at hl 0 rfl) ?_
        refine va_get (D := G.1) (ci := 5) (v := .ref sa) (C := RX6) (T := TX6) (N := 7) hx hb hts (fun w h => List.mem_cons_of_mem _ (List.mem_append_right _ h)) hown hE.1 hP 0 rfl rfl 0 (by decide) (hts (.fieldLink RX6 7 "TripleTrapModel" "state" "[I") (List.mem_of_getElem? (i := 1) rfl)) (fun _ h9 => h9) rfl dX6_count_73 ?_
        refine lv_iconst (v := nI 0) hx hb dX6_count_76 (by decide) ?_
        refine j_iald hx hb hE hP 1 rfl dX6_count_77 ?_
        exact ro_ret hx hb hr hlocks dX6_count_78 (by rw [mCount, if_neg (by rw [c5]; decide), if_neg (by rw [c24]; decide), if_pos rfl])
      by_cases c44_1 : x = nI 1
      · subst c44_1
        refine lv_tableIn (off := 35) (tgt := 79) hx hb dX6_count_44 (by decide) (by decide) rfl (by decide) ?_
        refine lv_aload_n hx hb dX6_count_79 rfl (lv_at hl 0 rfl) ?_
        refine ro_V 5 0 (rest := []) ⟨hx, hb, hml, hown, hts⟩ (c_X6_sureOfAll l G o sa ia ka ea ca tr fi X) (cwV 0 hts gX6_count_X6_sureOfAll rfl rfl rfl (by decide +kernel) ⟨Nat.le_of_ble_eq_true rfl, Nat.le_of_ble_eq_true rfl⟩) hE (hP.sub [0, 1] rfl) rfl rfl rfl hl.1 rfl (Nat.le_of_ble_eq_true rfl) dX6_count_80 ⟨Nat.zero_le _, Nat.zero_le _⟩ ?_
        exact ro_ret hx hb hr hlocks dX6_count_83 (by rw [mCount, if_neg (by rw [c5]; decide), if_neg (by rw [c24]; decide), if_neg (by decide), if_pos rfl])
      by_cases c44_2 : x = nI 2
      · subst c44_2
        refine lv_tableIn (off := 40) (tgt := 84) hx hb dX6_count_44 (by decide) (by decide) rfl (by decide) ?_
        refine lv_aload_n hx hb dX6_count_84 rfl (lv_at hl 0 rfl) ?_
        refine va_get (D := G.1) (ci := 5) (v := .ref ka) (C := RX6) (T := TX6) (N := 7) hx hb hts (fun w h => List.mem_cons_of_mem _ (List.mem_append_right _ h)) hown hE.1 hP 0 rfl rfl 2 (by decide) (hts (.fieldLink RX6 16 "TripleTrapModel" "isKept" "[Z") (List.mem_of_getElem? (i := 2) rfl)) (fun _ h9 => h9) rfl dX6_count_85 ?_
        refine lv_iconst (v := nI 0) hx hb dX6_count_88 (by decide) ?_
        refine j_zald hx hb hE hP 2 rfl dX6_count_89 ?_
        refine j_if_eq (tgt := 97) hx hb dX6_count_90 (by decide) (fun c90 => ?_) (fun c90 => ?_) (h1 := by have := hK 0 (by decide); omega)
        · skip
          refine lv_iconst (v := nI 0) hx hb dX6_count_97 (by decide) ?_
          refine lv_aload_n hx hb dX6_count_98 rfl (lv_at hl 0 rfl) ?_
          refine va_get (D := G.1) (ci := 5) (v := .ref ka) (C := RX6) (T := TX6) (N := 7) hx hb hts (fun w h => List.mem_cons_of_mem _ (List.mem_append_right _ h)) hown hE.1 hP 0 rfl rfl 2 (by decide) (hts (.fieldLink RX6 16 "TripleTrapModel" "isKept" "[Z") (List.mem_of_getElem? (i := 2) rfl)) (fun _ h9 => h9) rfl dX6_count_99 ?_
          refine lv_iconst (v := nI 1) hx hb dX6_count_102 (by decide) ?_
          refine j_zald hx hb hE hP 2 rfl dX6_count_103 ?_
          refine j_if_eq (tgt := 111) hx hb dX6_count_104 (by decide) (fun c104 => ?_) (fun c104 => ?_) (h1 := by have := hK 1 (by decide); omega)
          · skip
            refine lv_iconst (v := nI 0) hx hb dX6_count_111 (by decide) ?_
            refine j_add hx hb dX6_count_112 ?_
            exact ro_ret hx hb hr hlocks dX6_count_113 (by rw [mCount, if_neg (by rw [c5]; decide), if_neg (by rw [c24]; decide), if_neg (by decide), if_neg (by decide), if_pos rfl, if_pos c90, if_pos c104])
          · skip
            refine lv_iconst (v := nI 2) hx hb dX6_count_107 (by decide) ?_
            refine lv_goto (tgt := 112) hx hb dX6_count_108 (by decide) ?_
            refine j_add hx hb dX6_count_112 ?_
            exact ro_ret hx hb hr hlocks dX6_count_113 (by rw [mCount, if_neg (by rw [c5]; decide), if_neg (by rw [c24]; decide), if_neg (by decide), if_neg (by decide), if_pos rfl, if_pos c90, if_neg c104])
        · skip
          refine lv_iconst (v := nI 1) hx hb dX6_count_93 (by decide) ?_
          refine lv_goto (tgt := 98) hx hb dX6_count_94 (by decide) ?_
          refine lv_aload_n hx hb dX6_count_98 rfl (lv_at hl 0 rfl) ?_
          refine va_get (D := G.1) (ci := 5) (v := .ref ka) (C := RX6) (T := TX6) (N := 7) hx hb hts (fun w h => List.mem_cons_of_mem _ (List.mem_append_right _ h)) hown hE.1 hP 0 rfl rfl 2 (by decide) (hts (.fieldLink RX6 16 "TripleTrapModel" "isKept" "[Z") (List.mem_of_getElem? (i := 2) rfl)) (fun _ h9 => h9) rfl dX6_count_99 ?_
          refine lv_iconst (v := nI 1) hx hb dX6_count_102 (by decide) ?_
          refine j_zald hx hb hE hP 2 rfl dX6_count_103 ?_
          refine j_if_eq (tgt := 111) hx hb dX6_count_104 (by decide) (fun c104 => ?_) (fun c104 => ?_) (h1 := by have := hK 1 (by decide); omega)
          · skip
            refine lv_iconst (v := nI 0) hx hb dX6_count_111 (by decide) ?_
            refine j_add hx hb dX6_count_112 ?_
            exact ro_ret hx hb hr hlocks dX6_count_113 (by rw [mCount, if_neg (by rw [c5]; decide), if_neg (by rw [c24]; decide), if_neg (by decide), if_neg (by decide), if_pos rfl, if_neg c90, if_pos c104])
          · skip
            refine lv_iconst (v := nI 2) hx hb dX6_count_107 (by decide) ?_
            refine lv_goto (tgt := 112) hx hb dX6_count_108 (by decide) ?_
            refine j_add hx hb dX6_count_112 ?_
            exact ro_ret hx hb hr hlocks dX6_count_113 (by rw [mCount, if_neg (by rw [c5]; decide), if_neg (by rw [c24]; decide), if_neg (by decide), if_neg (by decide), if_pos rfl, if_neg c90, if_neg c104])
      refine lv_tableOut (tgt := 114) hx hb dX6_count_44 (by have q0 := i32_ne c44_0 (by decide); have q1 := i32_ne c44_1 (by decide); have q2 := i32_ne c44_2 (by decide); omega) (by decide) ?_
      refine lv_bipush (v := (-2)) hx hb dX6_count_114 (by decide) ?_
      exact ro_ret hx hb hr hlocks dX6_count_116 (by rw [mCount, if_neg (by rw [c5]; decide), if_neg (by rw [c24]; decide), if_neg c44_0, if_neg c44_1, if_neg c44_2])
