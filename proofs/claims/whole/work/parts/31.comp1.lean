set_option maxHeartbeats 4000000 in
set_option maxRecDepth 100000 in
/-- Mender.enter -/
theorem c_X2_enter (l : Launch) (G : EG) (me : Nat) (et : Nat) (E : Nat → Nat) (q : Nat) (x : Nat) (hq : q < 2048) (sz : Nat) : WR l yX2_enter wsX2_enter (rmR 1 21) G sz [(me, .inr (1, [.ref et])), (et, aI G 2048 E)] [.ref me, .int (nI q), .int (nI x)] [(me, .inr (1, [.ref et])), (et, aI G 2048 (va_up E q x))] none := by
  refine WR.start (by decide) rfl (Nat.le_of_ble_eq_true rfl) ?_
  intro p e s m below meth c hx hb hr hml hts hown hlocks hE A hA H locs hP hD hS ls hl
  have hown : s.vm.findClass RX2 = some m.cls := hown
  have hl : lv_has ls 3 [(0, .ref me), (1, .int (nI q)), (2, .int (nI x))] := hl
  refine lv_iload_n hx hb dX2_enter_0 rfl (lv_at hl 1 rfl) ?_
  refine lv_sipush (v := nI 2048) hx hb dX2_enter_1 (by decide) ?_
  refine ro_SN (rest := []) (host := "TripleTrap") ⟨hx, hb, hml, hown, hts⟩ (c_X5_isBelow l G (nI q) 2048) ⟨va_cnB 2 hts gX2_enter_X5_isBelow_n25 rfl rfl rfl (hE.nest (w := .methodLinkNest RX2 25 yX5_isBelow "TripleTrap") 2 rfl) (hts (.initialized RX5) (List.mem_of_getElem? (i := 3) rfl)) (by decide +kernel) ⟨Nat.le_of_ble_eq_true rfl, Nat.le_of_ble_eq_true rfl⟩, hts (.static yX5_isBelow) (List.mem_of_getElem? (i := 2) rfl), trivial⟩ hE (hP.sub [] rfl) rfl hl.1 rfl (Nat.le_of_ble_eq_true rfl) dX2_enter_4 ⟨Nat.zero_le _, Nat.zero_le _⟩ ?_
  refine j_bool (fun c4 => ?_) (fun c4 => ?_)
  · skip
    refine j_if_eq (tgt := 17) hx hb dX2_enter_7 (by decide) (fun q => absurd q (by decide)) (fun _ => ?_)
    refine lv_aload_n hx hb dX2_enter_10 rfl (lv_at hl 0 rfl) ?_
    refine va_get (D := G.1) (ci := 1) (v := .ref et) (C := RX2) (T := TX2) (N := 1) hx hb hts (fun w h => List.mem_cons_of_mem _ (List.mem_append_right _ h)) hown hE.1 hP 0 rfl rfl 0 (by decide) (hts (.fieldLink RX2 9 "TripleTrap$Mender" "errorsByRest" "[I") (List.mem_of_getElem? (i := 1) rfl)) (fun _ h9 => h9) rfl dX2_enter_11 ?_
    refine lv_iload_n hx hb dX2_enter_14 rfl (lv_at hl 1 rfl) ?_
    refine lv_iload_n hx hb dX2_enter_15 rfl (lv_at hl 2 rfl) ?_
    refine j_iast hx hb hE hP hD hS 1 rfl dX2_enter_16 (fun H locs hP hD hS => ?_)
    have hP : va_P G.1 vwCl [(me, .inr (1, [.ref et])), (et, aI G 2048 (va_up E q x))] H := hP
    have hD : va_D A [(me, .inr (1, [.ref et])), (et, aI G 2048 (va_up E q x))] := hD
    exact wr_vret hx hb hr hlocks dX2_enter_17 hP hD hS
  · skip
    rw [blw_j hq (by decide)] at c4; exact absurd c4 (by decide)
set_option maxHeartbeats 4000000 in
set_option maxRecDepth 100000 in
/-- Mender.errors -/
theorem c_X2_errors (l : Launch) (G : EG) (me : Nat) (et : Nat) (E : Nat → Nat) (w : Nat) (hw : w < 8388608) : RO l yX2_errors wsX2_errors (rmR 1 22) G [(me, .inr (1, [.ref et])), (et, aI G 2048 E)] [.ref me, .int (nI w)] (.int (nI (E (remN w)))) := by
  refine RO.start (by decide) rfl (Nat.le_of_ble_eq_true rfl) ?_
  intro p e s m below meth c hx hb hr hml hts hown hlocks hP hE ls hl
  have hown : s.vm.findClass RX2 = some m.cls := hown
  have hl : lv_has ls 3 [(0, .ref me), (1, .int (nI w))] := hl
  refine lv_iload_n hx hb dX2_errors_0 rfl (lv_at hl 1 rfl) ?_
  refine ro_SN (rest := []) (host := "TripleTrap") ⟨hx, hb, hml, hown, hts⟩ (c_X0_remainder l G w (by omega)) ⟨va_cnB 1 hts gX2_errors_X0_remainder_n15 rfl rfl rfl (hE.nest (w := .methodLinkNest RX2 15 yX0_remainder "TripleTrap") 1 rfl) (hts (.initialized RX0) (List.mem_of_getElem? (i := 3) rfl)) (by decide +kernel) ⟨Nat.le_of_ble_eq_true rfl, Nat.le_of_ble_eq_true rfl⟩, hts (.static yX0_remainder) (List.mem_of_getElem? (i := 2) rfl), trivial⟩ hE (hP.sub [] rfl) rfl hl.1 rfl (Nat.le_of_ble_eq_true rfl) dX2_errors_1 ⟨Nat.zero_le _, Nat.zero_le _⟩ ?_
  refine j_top (fun x4 ex4 => ?_)
  refine lv_istore_n (lv' := [(2, .int (nI x4)), (0, .ref me), (1, .int (nI w))]) hx hb dX2_errors_4 rfl hl (by decide) rfl (fun ls hl => ?_)
  have hq : x4 < 2048 := by rw [ex4]; exact remN_lt11 hw
  refine lv_iload_n hx hb dX2_errors_5 rfl (lv_at hl 0 rfl) ?_
  refine lv_sipush (v := nI 2048) hx hb dX2_errors_6 (by decide) ?_
  refine ro_SN (rest := []) (host := "TripleTrap") ⟨hx, hb, hml, hown, hts⟩ (c_X5_isBelow l G (nI x4) 2048) ⟨va_cnB 2 hts gX2_errors_X5_isBelow_n25 rfl rfl rfl (hE.nest (w := .methodLinkNest RX2 25 yX5_isBelow "TripleTrap") 2 rfl) (hts (.initialized RX5) (List.mem_of_getElem? (i := 6) rfl)) (by decide +kernel) ⟨Nat.le_of_ble_eq_true rfl, Nat.le_of_ble_eq_true rfl⟩, hts (.static yX5_isBelow) (List.mem_of_getElem? (i := 5) rfl), trivial⟩ hE (hP.sub [] rfl) rfl hl.1 rfl (Nat.le_of_ble_eq_true rfl) dX2_errors_9 ⟨Nat.zero_le _, Nat.zero_le _⟩ ?_
  refine j_bool (fun c9 => ?_) (fun c9 => ?_)
  · skip
    refine j_if_eq (tgt := 24) hx hb dX2_errors_12 (by decide) (fun q => absurd q (by decide)) (fun _ => ?_)
    refine lv_aload_n hx hb dX2_errors_15 rfl (lv_at hl 1 rfl) ?_
    refine va_get (D := G.1) (ci := 1) (v := .ref et) (C := RX2) (T := TX2) (N := 1) hx hb hts (fun w h => List.mem_cons_of_mem _ (List.mem_append_right _ h)) hown hE.1 hP 0 rfl rfl 0 (by decide) (hts (.fieldLink RX2 9 "TripleTrap$Mender" "errorsByRest" "[I") (List.mem_of_getElem? (i := 1) rfl)) (fun _ h9 => h9) rfl dX2_errors_16 ?_
    refine lv_iload_n hx hb dX2_errors_19 rfl (lv_at hl 0 rfl) ?_
    refine j_iald hx hb hE hP 1 rfl dX2_errors_20 ?_ (hk := hq)
    refine lv_goto (tgt := 25) hx hb dX2_errors_21 (by decide) ?_
    exact ro_ret hx hb hr hlocks dX2_errors_25 (by rw [ex4])
  · skip
    rw [blw_j hq (by decide)] at c9; exact absurd c9 (by decide)
set_option maxHeartbeats 4000000 in
set_option maxRecDepth 100000 in
/-- Mender.nearest -/
theorem c_X2_nearest (l : Launch) (G : EG) (me : Nat) (et : Nat) (E : Nat → Nat) (w : Nat) (hw : w < 8388608) : RO l yX2_nearest wsX2_nearest (rmR 2 44) G [(me, .inr (1, [.ref et])), (et, aI G 2048 E)] [.ref me, .int (nI w)] (.int (nI (nearE E w))) := by
  refine RO.start (by decide) rfl (Nat.le_of_ble_eq_true rfl) ?_
  intro p e s m below meth c hx hb hr hml hts hown hlocks hP hE ls hl
  have hown : s.vm.findClass RX2 = some m.cls := hown
  have hl : lv_has ls 2 [(0, .ref me), (1, .int (nI w))] := hl
  refine lv_iload_n hx hb dX2_nearest_0 rfl (lv_at hl 1 rfl) ?_
  refine lv_aload_n hx hb dX2_nearest_1 rfl (lv_at hl 0 rfl) ?_
  refine lv_iload_n hx hb dX2_nearest_2 rfl (lv_at hl 1 rfl) ?_
  refine ro_V 1 0 (rest := [.int (nI w)]) ⟨hx, hb, hml, hown, hts⟩ (c_X2_errors l G me et E w (by omega)) (cwV 1 hts gX2_nearest_X2_errors rfl rfl rfl (by decide +kernel) ⟨Nat.le_of_ble_eq_true rfl, Nat.le_of_ble_eq_true rfl⟩) hE (hP.sub [0, 1] rfl) rfl rfl rfl hl.1 rfl (Nat.le_of_ble_eq_true rfl) dX2_nearest_3 ⟨Nat.zero_le _, Nat.zero_le _⟩ ?_
  refine j_xor hx hb dX2_nearest_6 ?_
  exact ro_ret hx hb hr hlocks dX2_nearest_7 (rfl)
set_option maxHeartbeats 4000000 in
set_option maxRecDepth 100000 in
/-- Mender.distance -/
theorem c_X2_distance (l : Launch) (G : EG) (me : Nat) (et : Nat) (E : Nat → Nat) (hEb : ∀ i, i < 2048 → E i < 8388608) (w : Nat) (hw : w < 8388608) : RO l yX2_distance wsX2_distance (rmR 2 44) G [(me, .inr (1, [.ref et])), (et, aI G 2048 E)] [.ref me, .int (nI w)] (.int (nI (bcN (E (remN w))))) := by
  refine RO.start (by decide) rfl (Nat.le_of_ble_eq_true rfl) ?_
  intro p e s m below meth c hx hb hr hml hts hown hlocks hP hE ls hl
  have hown : s.vm.findClass RX2 = some m.cls := hown
  have hl : lv_has ls 2 [(0, .ref me), (1, .int (nI w))] := hl
  refine lv_aload_n hx hb dX2_distance_0 rfl (lv_at hl 0 rfl) ?_
  refine lv_iload_n hx hb dX2_distance_1 rfl (lv_at hl 1 rfl) ?_
  refine ro_V 1 0 (rest := []) ⟨hx, hb, hml, hown, hts⟩ (c_X2_errors l G me et E w (by omega)) (cwV 1 hts gX2_distance_X2_errors rfl rfl rfl (by decide +kernel) ⟨Nat.le_of_ble_eq_true rfl, Nat.le_of_ble_eq_true rfl⟩) hE (hP.sub [0, 1] rfl) rfl rfl rfl hl.1 rfl (Nat.le_of_ble_eq_true rfl) dX2_distance_2 ⟨Nat.zero_le _, Nat.zero_le _⟩ ?_
  refine ro_S (rest := []) ⟨hx, hb, hml, hown, hts⟩ (c_J6_bitCount_0f7a4 l G (E (remN w)) (Nat.lt_trans (hEb _ (remN_lt11 hw)) (by decide))) (va_cwS 1 hts gX2_distance_J6_bitCount_0f7a4 rfl rfl rfl (by decide +kernel) ⟨Nat.le_of_ble_eq_true rfl, Nat.le_of_ble_eq_true rfl⟩) hE (hP.sub [] rfl) rfl hl.1 rfl (Nat.le_of_ble_eq_true rfl) dX2_distance_5 ⟨Nat.zero_le _, Nat.zero_le _⟩ ?_
  exact ro_ret hx hb hr hlocks dX2_distance_8 (rfl)
set_option maxHeartbeats 4000000 in
set_option maxRecDepth 100000 in
/-- Moves.copyFrom -/
theorem c_X3_copyFrom (l : Launch) (G : EG) (m0 : Nat) (n0 : Nat) (f0 : Nat) (s0 : Nat) (b0 : Nat) (m1 : Nat) (n1 : Nat) (f1 : Nat) (s1 : Nat) (b1 : Nat) (F : Nat → Nat) (S : Nat → Nat) (B : Nat → Nat) (F1 : Nat → Nat) (S1 : Nat → Nat) (B1 : Nat → Nat) (sz : Nat) : WR l yX3_copyFrom wsX3_copyFrom (rmR 0 0) G sz [(m0, .inr (2, [.int (nI n0), .ref f0, .ref s0, .ref b0])), (f0, aI G 8 F), (s0, aI G 8 S), (b0, aI G 8 B), (m1, .inr (2, [.int (nI n1), .ref f1, .ref s1, .ref b1])), (f1, aI G 8 F1), (s1, aI G 8 S1), (b1, aI G 8 B1)] [.ref m0, .ref m1] [(m0, .inr (2, [.int (nI n1), .ref f0, .ref s0, .ref b0])), (f0, aI G 8 F1), (s0, aI G 8 S1), (b0, aI G 8 B1), (m1, .inr (2, [.int (nI n1), .ref f1, .ref s1, .ref b1])), (f1, aI G 8 F1), (s1, aI G 8 S1), (b1, aI G 8 B1)] none := by
  refine WR.start (by decide) rfl (Nat.le_of_ble_eq_true rfl) ?_
  intro p e s m below meth c hx hb hr hml hts hown hlocks hE A hA H locs hP hD hS ls hl
  have hown : s.vm.findClass RX3 = some m.cls := hown
  have hl : lv_has ls 3 [(0, .ref m0), (1, .ref m1)] := hl
  refine lv_aload_n hx hb dX3_copyFrom_0 rfl (lv_at hl 0 rfl) ?_
  refine lv_aload_n hx hb dX3_copyFrom_1 rfl (lv_at hl 1 rfl) ?_
  refine va_get (D := G.1) (ci := 2) (v := .int (nI n1)) (C := RX3) (T := TX3) (N := 4) hx hb hts (fun w h => List.mem_cons_of_mem _ (List.mem_append_right _ h)) hown hE.1 hP 4 rfl rfl 0 (by decide) (hts (.fieldLink RX3 9 "TripleTrap$Moves" "size" "I") (List.mem_of_getElem? (i := 1) rfl)) (fun _ h9 => h9) rfl dX3_copyFrom_2 ?_
  refine va_put (D := G.1) (ci := 2) (v := .int (nI n1)) (ty := .int) (C := RX3) (T := TX3) (N := 4) hx hb hts (fun w h => List.mem_cons_of_mem _ (List.mem_append_right _ h)) tyX3 tyX3_ok nmX3 hown hE.1 hP hD hS 0 rfl rfl 0 (by decide) (hts (.fieldLink RX3 9 "TripleTrap$Moves" "size" "I") (List.mem_of_getElem? (i := 1) rfl)) (fun _ h9 => h9) rfl (by decide +kernel) rfl rfl (Nat.le_of_ble_eq_true rfl) dX3_copyFrom_5 (fun H locs hP hD hS => ?_)
  have hP : va_P G.1 vwCl [(m0, .inr (2, [.int (nI n1), .ref f0, .ref s0, .ref b0])), (f0, aI G 8 F), (s0, aI G 8 S), (b0, aI G 8 B), (m1, .inr (2, [.int (nI n1), .ref f1, .ref s1, .ref b1])), (f1, aI G 8 F1), (s1, aI G 8 S1), (b1, aI G 8 B1)] H := hP
  have hD : va_D A [(m0, .inr (2, [.int (nI n1), .ref f0, .ref s0, .ref b0])), (f0, aI G 8 F), (s0, aI G 8 S), (b0, aI G 8 B), (m1, .inr (2, [.int (nI n1), .ref f1, .ref s1, .ref b1])), (f1, aI G 8 F1), (s1, aI G 8 S1), (b1, aI G 8 B1)] := hD
  refine lv_iconst (v := nI 0) hx hb dX3_copyFrom_8 (by decide) ?_
  refine lv_istore_n (lv' := [(2, .int (nI 0)), (0, .ref m0), (1, .ref m1)]) hx hb dX3_copyFrom_9 rfl hl (by decide) rfl (fun ls hl => ?_)
  have loop10 : ∀ (fuel : Nat) (k : Nat) (D1 : Nat → Nat) (D2 : Nat → Nat) (D3 : Nat → Nat), (k ≤ 8) → (D1 = cpyL F F1 k) → (D2 = cpyL S S1 k) → (D3 = cpyL B B1 k) → 8 - k < fuel → ∀ (H : Heap) (locs : List Loc), va_P G.1 vwCl [(m0, .inr (2, [.int (nI n1), .ref f0, .ref s0, .ref b0])), (f0, aI G 8 D1), (s0, aI G 8 D2), (b0, aI G 8 D3), (m1, .inr (2, [.int (nI n1), .ref f1, .ref s1, .ref b1])), (f1, aI G 8 F1), (s1, aI G 8 S1), (b1, aI G 8 B1)] H → va_D A [(m0, .inr (2, [.int (nI n1), .ref f0, .ref s0, .ref b0])), (f0, aI G 8 D1), (s0, aI G 8 D2), (b0, aI G 8 D3), (m1, .inr (2, [.int (nI n1), .ref f1, .ref s1, .ref b1])), (f1, aI G 8 F1), (s1, aI G 8 S1), (b1, aI G 8 B1)] → va_S A s.heap H locs → ∀ ls : Array Slot, lv_has ls 3 [(2, .int (nI k)), (0, .ref m0), (1, .ref m1)] → W p l e (rmR 0 0) s m ([.ref m0, .ref m1] : List Value).toArray below meth c H locs 0 0 (MQ below (postW G [(m0, .inr (2, [.int (nI n1), .ref f0, .ref s0, .ref b0])), (f0, aI G 8 F1), (s0, aI G 8 S1), (b0, aI G 8 B1), (m1, .inr (2, [.int (nI n1), .ref f1, .ref s1, .ref b1])), (f1, aI G 8 F1), (s1, aI G 8 S1), (b1, aI G 8 B1)] none A) ([.ref m0, .ref m1] : List Value).toArray s 0 0 A) (F0 m 10 ls []) := by
    intro fuel
    induction fuel with
    | zero => intro k D1 D2 D3 h1 q1 q2 q3 hf; exact absurd hf (Nat.not_lt_zero _)
    | succ fuel ih10 =>
      intro k D1 D2 D3 h1 q1 q2 q3 hf H locs hP hD hS ls hl
      refine lv_iload_n hx hb dX3_copyFrom_10 rfl (lv_at hl 0 rfl) ?_
      refine lv_bipush (v := nI 8) hx hb dX3_copyFrom_11 (by decide) ?_
      refine j_icmp_ge (tgt := 58) hx hb dX3_copyFrom_13 (by decide) (fun c13 => ?_) (fun c13 => ?_)
      · skip
        obtain ⟨hP, hD⟩ := PD_arr (F' := F1) hP hD 1 rfl (fun i hi => by rw [q1, show k = 8 by omega]; exact cpyL_eq _ _ _ _ hi)
        obtain ⟨hP, hD⟩ := PD_arr (F' := S1) hP hD 2 rfl (fun i hi => by rw [q2, show k = 8 by omega]; exact cpyL_eq _ _ _ _ hi)
        obtain ⟨hP, hD⟩ := PD_arr (F' := B1) hP hD 3 rfl (fun i hi => by rw [q3, show k = 8 by omega]; exact cpyL_eq _ _ _ _ hi)
        exact wr_vret hx hb hr hlocks dX3_copyFrom_58 hP hD hS
      · skip
        refine lv_aload_n hx hb dX3_copyFrom_16 rfl (lv_at hl 1 rfl) ?_
        refine va_get (D := G.1) (ci := 2) (v := .ref f0) (C := RX3) (T := TX3) (N := 4) hx hb hts (fun w h => List.mem_cons_of_mem _ (List.mem_append_right _ h)) hown hE.1 hP 0 rfl rfl 1 (by decide) (hts (.fieldLink RX3 15 "TripleTrap$Moves" "factors" "[I") (List.mem_of_getElem? (i := 2) rfl)) (fun _ h9 => h9) rfl dX3_copyFrom_17 ?_
        refine lv_iload_n hx hb dX3_copyFrom_20 rfl (lv_at hl 0 rfl) ?_
        refine lv_aload_n hx hb dX3_copyFrom_21 rfl (lv_at hl 2 rfl) ?_
        refine va_get (D := G.1) (ci := 2) (v := .ref f1) (C := RX3) (T := TX3) (N := 4) hx hb hts (fun w h => List.mem_cons_of_mem _ (List.mem_append_right _ h)) hown hE.1 hP 4 rfl rfl 1 (by decide) (hts (.fieldLink RX3 15 "TripleTrap$Moves" "factors" "[I") (List.mem_of_getElem? (i := 2) rfl)) (fun _ h9 => h9) rfl dX3_copyFrom_22 ?_
        refine lv_iload_n hx hb dX3_copyFrom_25 rfl (lv_at hl 0 rfl) ?_
        refine j_iald hx hb hE hP 5 rfl dX3_copyFrom_26 ?_
        refine j_iast hx hb hE hP hD hS 1 rfl dX3_copyFrom_27 (fun H locs hP hD hS => ?_)
        have hP : va_P G.1 vwCl [(m0, .inr (2, [.int (nI n1), .ref f0, .ref s0, .ref b0])), (f0, aI G 8 (va_up D1 k (F1 k))), (s0, aI G 8 D2), (b0, aI G 8 D3), (m1, .inr (2, [.int (nI n1), .ref f1, .ref s1, .ref b1])), (f1, aI G 8 F1), (s1, aI G 8 S1), (b1, aI G 8 B1)] H := hP
        have hD : va_D A [(m0, .inr (2, [.int (nI n1), .ref f0, .ref s0, .ref b0])), (f0, aI G 8 (va_up D1 k (F1 k))), (s0, aI G 8 D2), (b0, aI G 8 D3), (m1, .inr (2, [.int (nI n1), .ref f1, .ref s1, .ref b1])), (f1, aI G 8 F1), (s1, aI G 8 S1), (b1, aI G 8 B1)] := hD
        refine lv_aload_n hx hb dX3_copyFrom_28 rfl (lv_at hl 1 rfl) ?_
        refine va_get (D := G.1) (ci := 2) (v := .ref s0) (C := RX3) (T := TX3) (N := 4) hx hb hts (fun w h => List.mem_cons_of_mem _ (List.mem_append_right _ h)) hown hE.1 hP 0 rfl rfl 2 (by decide) (hts (.fieldLink RX3 19 "TripleTrap$Moves" "shifts" "[I") (List.mem_of_getElem? (i := 3) rfl)) (fun _ h9 => h9) rfl dX3_copyFrom_29 ?_
        refine lv_iload_n hx hb dX3_copyFrom_32 rfl (lv_at hl 0 rfl) ?_
        refine lv_aload_n hx hb dX3_copyFrom_33 rfl (lv_at hl 2 rfl) ?_
        refine va_get (D := G.1) (ci := 2) (v := .ref s1) (C := RX3) (T := TX3) (N := 4) hx hb hts (fun w h => List.mem_cons_of_mem _ (List.mem_append_right _ h)) hown hE.1 hP 4 rfl rfl 2 (by decide) (hts (.fieldLink RX3 19 "TripleTrap$Moves" "shifts" "[I") (List.mem_of_getElem? (i := 3) rfl)) (fun _ h9 => h9) rfl dX3_copyFrom_34 ?_
        refine lv_iload_n hx hb dX3_copyFrom_37 rfl (lv_at hl 0 rfl) ?_
        refine j_iald hx hb hE hP 6 rfl dX3_copyFrom_38 ?_
        refine j_iast hx hb hE hP hD hS 2 rfl dX3_copyFrom_39 (fun H locs hP hD hS => ?_)
        have hP : va_P G.1 vwCl [(m0, .inr (2, [.int (nI n1), .ref f0, .ref s0, .ref b0])), (f0, aI G 8 (va_up D1 k (F1 k))), (s0, aI G 8 (va_up D2 k (S1 k))), (b0, aI G 8 D3), (m1, .inr (2, [.int (nI n1), .ref f1, .ref s1, .ref b1])), (f1, aI G 8 F1), (s1, aI G 8 S1), (b1, aI G 8 B1)] H := hP
        have hD : va_D A [(m0, .inr (2, [.int (nI n1), .ref f0, .ref s0, .ref b0])), (f0, aI G 8 (va_up D1 k (F1 k))), (s0, aI G 8 (va_up D2 k (S1 k))), (b0, aI G 8 D3), (m1, .inr (2, [.int (nI n1), .ref f1, .ref s1, .ref b1])), (f1, aI G 8 F1), (s1, aI G 8 S1), (b1, aI G 8 B1)] := hD
        refine lv_aload_n hx hb dX3_copyFrom_40 rfl (lv_at hl 1 rfl) ?_
        refine va_get (D := G.1) (ci := 2) (v := .ref b0) (C := RX3) (T := TX3) (N := 4) hx hb hts (fun w h => List.mem_cons_of_mem _ (List.mem_append_right _ h)) hown hE.1 hP 0 rfl rfl 3 (by decide) (hts (.fieldLink RX3 22 "TripleTrap$Moves" "brought" "[I") (List.mem_of_getElem? (i := 4) rfl)) (fun _ h9 => h9) rfl dX3_copyFrom_41 ?_
        refine lv_iload_n hx hb dX3_copyFrom_44 rfl (lv_at hl 0 rfl) ?_
        refine lv_aload_n hx hb dX3_copyFrom_45 rfl (lv_at hl 2 rfl) ?_
        refine va_get (D := G.1) (ci := 2) (v := .ref b1) (C := RX3) (T := TX3) (N := 4) hx hb hts (fun w h => List.mem_cons_of_mem _ (List.mem_append_right _ h)) hown hE.1 hP 4 rfl rfl 3 (by decide) (hts (.fieldLink RX3 22 "TripleTrap$Moves" "brought" "[I") (List.mem_of_getElem? (i := 4) rfl)) (fun _ h9 => h9) rfl dX3_copyFrom_46 ?_
        refine lv_iload_n hx hb dX3_copyFrom_49 rfl (lv_at hl 0 rfl) ?_
        refine j_iald hx hb hE hP 7 rfl dX3_copyFrom_50 ?_
        refine j_iast hx hb hE hP hD hS 3 rfl dX3_copyFrom_51 (fun H locs hP hD hS => ?_)
        have hP : va_P G.1 vwCl [(m0, .inr (2, [.int (nI n1), .ref f0, .ref s0, .ref b0])), (f0, aI G 8 (va_up D1 k (F1 k))), (s0, aI G 8 (va_up D2 k (S1 k))), (b0, aI G 8 (va_up D3 k (B1 k))), (m1, .inr (2, [.int (nI n1), .ref f1, .ref s1, .ref b1])), (f1, aI G 8 F1), (s1, aI G 8 S1), (b1, aI G 8 B1)] H := hP
        have hD : va_D A [(m0, .inr (2, [.int (nI n1), .ref f0, .ref s0, .ref b0])), (f0, aI G 8 (va_up D1 k (F1 k))), (s0, aI G 8 (va_up D2 k (S1 k))), (b0, aI G 8 (va_up D3 k (B1 k))), (m1, .inr (2, [.int (nI n1), .ref f1, .ref s1, .ref b1])), (f1, aI G 8 F1), (s1, aI G 8 S1), (b1, aI G 8 B1)] := hD
        obtain ⟨x52, ex52⟩ : ∃ y : Nat, y = k + 1 := ⟨_, rfl⟩
        refine lv_iinc (v := nI x52) (lv' := [(2, .int (nI x52)), (0, .ref m0), (1, .ref m1)]) hx hb dX3_copyFrom_52 hl (k := 0) rfl (by rw [ex52]; exact nI_add _ _) (by decide) rfl (fun ls hl => ?_)
        refine lv_goto (tgt := 10) hx hb dX3_copyFrom_55 (by decide) ?_
        exact ih10 x52 (va_up D1 k (F1 k)) (va_up D2 k (S1 k)) (va_up D3 k (B1 k)) (by omega) (by rw [ex52, cpyL, ← q1]) (by rw [ex52, cpyL, ← q2]) (by rw [ex52, cpyL, ← q3]) (by omega) H locs hP hD hS ls (lv_sub hl [0, 1, 2] rfl)
  exact loop10 _ 0 F S B (by omega) rfl rfl rfl (Nat.lt_succ_self _) H locs hP hD hS ls (lv_sub hl [0, 1, 2] rfl)
set_option maxHeartbeats 4000000 in
set_option maxRecDepth 100000 in
/-- Trust.copyFrom -/
theorem c_X4_copyFrom (l : Launch) (G : EG) (t0 : Nat) (l0 : Nat) (t1 : Nat) (l1 : Nat) (V : Nat → Nat) (V1 : Nat → Nat) (sz : Nat) : WR l yX4_copyFrom wsX4_copyFrom (rmR 0 0) G sz [(t0, .inr (3, [.ref l0])), (l0, aI G 23 V), (t1, .inr (3, [.ref l1])), (l1, aI G 23 V1)] [.ref t0, .ref t1] [(t0, .inr (3, [.ref l0])), (l0, aI G 23 V1), (t1, .inr (3, [.ref l1])), (l1, aI G 23 V1)] none := by
  refine WR.start (by decide) rfl (Nat.le_of_ble_eq_true rfl) ?_
  intro p e s m below meth c hx hb hr hml hts hown hlocks hE A hA H locs hP hD hS ls hl
  have hown : s.vm.findClass RX4 = some m.cls := hown
  have hl : lv_has ls 3 [(0, .ref t0), (1, .ref t1)] := hl
  refine lv_iconst (v := nI 0) hx hb dX4_copyFrom_0 (by decide) ?_
  refine lv_istore_n (lv' := [(2, .int (nI 0)), (0, .ref t0), (1, .ref t1)]) hx hb dX4_copyFrom_1 rfl hl (by decide) rfl (fun ls hl => ?_)
  have loop2 : ∀ (fuel : Nat) (k : Nat) (D1 : Nat → Nat), (k ≤ 23) → (D1 = cpyL V V1 k) → 23 - k < fuel → ∀ (H : Heap) (locs : List Loc), va_P G.1 vwCl [(t0, .inr (3, [.ref l0])), (l0, aI G 23 D1), (t1, .inr (3, [.ref l1])), (l1, aI G 23 V1)] H → va_D A [(t0, .inr (3, [.ref l0])), (l0, aI G 23 D1), (t1, .inr (3, [.ref l1])), (l1, aI G 23 V1)] → va_S A s.heap H locs → ∀ ls : Array Slot, lv_has ls 3 [(2, .int (nI k)), (0, .ref t0), (1, .ref t1)] → W p l e (rmR 0 0) s m ([.ref t0, .ref t1] : List Value).toArray below meth c H locs 0 0 (MQ below (postW G [(t0, .inr (3, [.ref l0])), (l0, aI G 23 V1), (t1, .inr (3, [.ref l1])), (l1, aI G 23 V1)] none A) ([.ref t0, .ref t1] : List Value).toArray s 0 0 A) (F0 m 2 ls []) := by
    intro fuel
    induction fuel with
    | zero => intro k D1 h1 q1 hf; exact absurd hf (Nat.not_lt_zero _)
    | succ fuel ih2 =>
      intro k D1 h1 q1 hf H locs hP hD hS ls hl
      refine lv_iload_n hx hb dX4_copyFrom_2 rfl (lv_at hl 0 rfl) ?_
      refine lv_bipush (v := nI 23) hx hb dX4_copyFrom_3 (by decide) ?_
      refine j_icmp_ge (tgt := 26) hx hb dX4_copyFrom_5 (by decide) (fun c5 => ?_) (fun c5 => ?_)
      · skip
        obtain ⟨hP, hD⟩ := PD_arr (F' := V1) hP hD 1 rfl (fun i hi => by rw [q1, show k = 23 by omega]; exact cpyL_eq _ _ _ _ hi)
        exact wr_vret hx hb hr hlocks dX4_copyFrom_26 hP hD hS
      · skip
        refine lv_aload_n hx hb dX4_copyFrom_8 rfl (lv_at hl 1 rfl) ?_
        refine va_get (D := G.1) (ci := 3) (v := .ref l0) (C := RX4) (T := TX4) (N := 1) hx hb hts (fun w h => List.mem_cons_of_mem _ (List.mem_append_right _ h)) hown hE.1 hP 0 rfl rfl 0 (by decide) (hts (.fieldLink RX4 9 "TripleTrap$Trust" "levels" "[I") (List.mem_of_getElem? (i := 1) rfl)) (fun _ h9 => h9) rfl dX4_copyFrom_9 ?_
        refine lv_iload_n hx hb dX4_copyFrom_12 rfl (lv_at hl 0 rfl) ?_
        refine lv_aload_n hx hb dX4_copyFrom_13 rfl (lv_at hl 2 rfl) ?_
        refine va_get (D := G.1) (ci := 3) (v := .ref l1) (C := RX4) (T := TX4) (N := 1) hx hb hts (fun w h => List.mem_cons_of_mem _ (List.mem_append_right _ h)) hown hE.1 hP 2 rfl rfl 0 (by decide) (hts (.fieldLink RX4 9 "TripleTrap$Trust" "levels" "[I") (List.mem_of_getElem? (i := 1) rfl)) (fun _ h9 => h9) rfl dX4_copyFrom_14 ?_
        refine lv_iload_n hx hb dX4_copyFrom_17 rfl (lv_at hl 0 rfl) ?_
        refine j_iald hx hb hE hP 3 rfl dX4_copyFrom_18 ?_
        refine j_iast hx hb hE hP hD hS 1 rfl dX4_copyFrom_19 (fun H locs hP hD hS => ?_)
        have hP : va_P G.1 vwCl [(t0, .inr (3, [.ref l0])), (l0, aI G 23 (va_up D1 k (V1 k))), (t1, .inr (3, [.ref l1])), (l1, aI G 23 V1)] H := hP
        have hD : va_D A [(t0, .inr (3, [.ref l0])), (l0, aI G 23 (va_up D1 k (V1 k))), (t1, .inr (3, [.ref l1])), (l1, aI G 23 V1)] := hD
        obtain ⟨x20, ex20⟩ : ∃ y : Nat, y = k + 1 := ⟨_, rfl⟩
        refine lv_iinc (v := nI x20) (lv' := [(2, .int (nI x20)), (0, .ref t0), (1, .ref t1)]) hx hb dX4_copyFrom_20 hl (k := 0) rfl (by rw [ex20]; exact nI_add _ _) (by decide) rfl (fun ls hl => ?_)
        refine lv_goto (tgt := 2) hx hb dX4_copyFrom_23 (by decide) ?_
        exact ih2 x20 (va_up D1 k (V1 k)) (by omega) (by rw [ex20, cpyL, ← q1]) (by omega) H locs hP hD hS ls (lv_sub hl [0, 1, 2] rfl)
  exact loop2 _ 0 V (by omega) rfl (Nat.lt_succ_self _) H locs hP hD hS ls (lv_sub hl [0, 1, 2] rfl)
set_option maxHeartbeats 4000000 in
set_option maxRecDepth 100000 in
/-- Held.copyFrom -/
theorem c_X1_copyFrom (l : Launch) (G : EG) (h0 : Nat) (m0 : Nat) (n0 : Nat) (f0 : Nat) (s0 : Nat) (b0 : Nat) (t0 : Nat) (l0 : Nat) (h1 : Nat) (m1 : Nat) (n1 : Nat) (f1 : Nat) (s1 : Nat) (b1 : Nat) (t1 : Nat) (l1 : Nat) (F : Nat → Nat) (S : Nat → Nat) (B : Nat → Nat) (V : Nat → Nat) (F1 : Nat → Nat) (S1 : Nat → Nat) (B1 : Nat → Nat) (V1 : Nat → Nat) (sz : Nat) : WR l yX1_copyFrom wsX1_copyFrom (rmR 1 22) G sz [(h0, .inr (0, [.ref m0, .ref t0])), (m0, .inr (2, [.int (nI n0), .ref f0, .ref s0, .ref b0])), (f0, aI G 8 F), (s0, aI G 8 S), (b0, aI G 8 B), (t0, .inr (3, [.ref l0])), (l0, aI G 23 V), (h1, .inr (0, [.ref m1, .ref t1])), (m1, .inr (2, [.int (nI n1), .ref f1, .ref s1, .ref b1])), (f1, aI G 8 F1), (s1, aI G 8 S1), (b1, aI G 8 B1), (t1, .inr (3, [.ref l1])), (l1, aI G 23 V1)] [.ref h0, .ref h1] [(h0, .inr (0, [.ref m0, .ref t0])), (m0, .inr (2, [.int (nI n1), .ref f0, .ref s0, .ref b0])), (f0, aI G 8 F1), (s0, aI G 8 S1), (b0, aI G 8 B1), (t0, .inr (3, [.ref l0])), (l0, aI G 23 V1), (h1, .inr (0, [.ref m1, .ref t1])), (m1, .inr (2, [.int (nI n1), .ref f1, .ref s1, .ref b1])), (f1, aI G 8 F1), (s1, aI G 8 S1), (b1, aI G 8 B1), (t1, .inr (3, [.ref l1])), (l1, aI G 23 V1)] none := by
  refine WR.start (by decide) rfl (Nat.le_of_ble_eq_true rfl) ?_
  intro p e s m below meth c hx hb hr hml hts hown hlocks hE A hA H locs hP hD hS ls hl
  have hown : s.vm.findClass RX1 = some m.cls := hown
  have hl : lv_has ls 2 [(0, .ref h0), (1, .ref h1)] := hl
  refine lv_aload_n hx hb dX1_copyFrom_0 rfl (lv_at hl 0 rfl) ?_
  refine va_get (D := G.1) (ci := 0) (v := .ref m0) (C := RX1) (T := TX1) (N := 2) hx hb hts (fun w h => List.mem_cons_of_mem _ (List.mem_append_left _ (List.mem_append_left _ (List.mem_append_right _ h)))) hown hE.1 hP 0 rfl rfl 0 (by decide) (hts (.fieldLink RX1 10 "TripleTrap$Held" "moves" "LTripleTrap$Moves;") (List.mem_of_getElem? (i := 1) rfl)) (fun _ h9 => h9) rfl dX1_copyFrom_1 ?_
  refine lv_aload_n hx hb dX1_copyFrom_4 rfl (lv_at hl 1 rfl) ?_
  refine va_get (D := G.1) (ci := 0) (v := .ref m1) (C := RX1) (T := TX1) (N := 2) hx hb hts (fun w h => List.mem_cons_of_mem _ (List.mem_append_left _ (List.mem_append_left _ (List.mem_append_right _ h)))) hown hE.1 hP 7 rfl rfl 0 (by decide) (hts (.fieldLink RX1 10 "TripleTrap$Held" "moves" "LTripleTrap$Moves;") (List.mem_of_getElem? (i := 1) rfl)) (fun _ h9 => h9) rfl dX1_copyFrom_5 ?_
  refine wr_VN 2 0 (rest := []) (wr := [(h0, .inr (0, [.ref m0, .ref t0])), (t0, .inr (3, [.ref l0])), (l0, aI G 23 V), (h1, .inr (0, [.ref m1, .ref t1])), (t1, .inr (3, [.ref l1])), (l1, aI G 23 V1)]) (host := "TripleTrap") ⟨hx, hb, hml, hown, hts⟩ (c_X3_copyFrom l G m0 n0 f0 s0 b0 m1 n1 f1 s1 b1 F S B F1 S1 B1 H.size) ⟨va_cnB 1 hts gX1_copyFrom_X3_copyFrom_n23 rfl rfl rfl (hE.nest (w := .methodLinkNest RX1 23 yX3_copyFrom "TripleTrap") 33 rfl) (hts (.initialized RX3) (List.mem_of_getElem? (i := 4) rfl)) (by decide +kernel) ⟨Nat.le_of_ble_eq_true rfl, Nat.le_of_ble_eq_true rfl⟩, hts (.instanceMethod yX3_copyFrom) (List.mem_of_getElem? (i := 3) rfl), hts (.selects RX3 yX3_copyFrom yX3_copyFrom) (List.mem_of_getElem? (i := 5) rfl)⟩ hE hP hD hS hA [1, 2, 3, 4, 8, 9, 10, 11] [0, 5, 6, 7, 12, 13] rfl rfl (by decide) (by decide) (by decide) rfl rfl rfl hl.1 rfl (Nat.le_of_ble_eq_true rfl) dX1_copyFrom_8 ⟨Nat.zero_le _, Nat.zero_le _⟩ (fun H locs hP hD hS => ?_)
  have hP : va_P G.1 vwCl [(h0, .inr (0, [.ref m0, .ref t0])), (m0, .inr (2, [.int (nI n1), .ref f0, .ref s0, .ref b0])), (f0, aI G 8 F1), (s0, aI G 8 S1), (b0, aI G 8 B1), (t0, .inr (3, [.ref l0])), (l0, aI G 23 V), (h1, .inr (0, [.ref m1, .ref t1])), (m1, .inr (2, [.int (nI n1), .ref f1, .ref s1, .ref b1])), (f1, aI G 8 F1), (s1, aI G 8 S1), (b1, aI G 8 B1), (t1, .inr (3, [.ref l1])), (l1, aI G 23 V1)] H := hP.sub [0, 6, 7, 8, 9, 1, 2, 3, 10, 11, 12, 13, 4, 5] rfl
  have hD : va_D A [(h0, .inr (0, [.ref m0, .ref t0])), (m0, .inr (2, [.int (nI n1), .ref f0, .ref s0, .ref b0])), (f0, aI G 8 F1), (s0, aI G 8 S1), (b0, aI G 8 B1), (t0, .inr (3, [.ref l0])), (l0, aI G 23 V), (h1, .inr (0, [.ref m1, .ref t1])), (m1, .inr (2, [.int (nI n1), .ref f1, .ref s1, .ref b1])), (f1, aI G 8 F1), (s1, aI G 8 S1), (b1, aI G 8 B1), (t1, .inr (3, [.ref l1])), (l1, aI G 23 V1)] := hD.sub [0, 6, 7, 8, 9, 1, 2, 3, 10, 11, 12, 13, 4, 5] (by decide) rfl
  refine lv_aload_n hx hb dX1_copyFrom_11 rfl (lv_at hl 0 rfl) ?_
  refine va_get (D := G.1) (ci := 0) (v := .ref t0) (C := RX1) (T := TX1) (N := 2) hx hb hts (fun w h => List.mem_cons_of_mem _ (List.mem_append_left _ (List.mem_append_left _ (List.mem_append_right _ h)))) hown hE.1 hP 0 rfl rfl 1 (by decide) (hts (.fieldLink RX1 19 "TripleTrap$Held" "trust" "LTripleTrap$Trust;") (List.mem_of_getElem? (i := 2) rfl)) (fun _ h9 => h9) rfl dX1_copyFrom_12 ?_
  refine lv_aload_n hx hb dX1_copyFrom_15 rfl (lv_at hl 1 rfl) ?_
  refine va_get (D := G.1) (ci := 0) (v := .ref t1) (C := RX1) (T := TX1) (N := 2) hx hb hts (fun w h => List.mem_cons_of_mem _ (List.mem_append_left _ (List.mem_append_left _ (List.mem_append_right _ h)))) hown hE.1 hP 7 rfl rfl 1 (by decide) (hts (.fieldLink RX1 19 "TripleTrap$Held" "trust" "LTripleTrap$Trust;") (List.mem_of_getElem? (i := 2) rfl)) (fun _ h9 => h9) rfl dX1_copyFrom_16 ?_
  refine wr_VN 3 0 (rest := []) (wr := [(h0, .inr (0, [.ref m0, .ref t0])), (m0, .inr (2, [.int (nI n1), .ref f0, .ref s0, .ref b0])), (f0, aI G 8 F1), (s0, aI G 8 S1), (b0, aI G 8 B1), (h1, .inr (0, [.ref m1, .ref t1])), (m1, .inr (2, [.int (nI n1), .ref f1, .ref s1, .ref b1])), (f1, aI G 8 F1), (s1, aI G 8 S1), (b1, aI G 8 B1)]) (host := "TripleTrap") ⟨hx, hb, hml, hown, hts⟩ (c_X4_copyFrom l G t0 l0 t1 l1 V V1 H.size) ⟨va_cnB 1 hts gX1_copyFrom_X4_copyFrom_n27 rfl rfl rfl (hE.nest (w := .methodLinkNest RX1 27 yX4_copyFrom "TripleTrap") 34 rfl) (hts (.initialized RX4) (List.mem_of_getElem? (i := 12) rfl)) (by decide +kernel) ⟨Nat.le_of_ble_eq_true rfl, Nat.le_of_ble_eq_true rfl⟩, hts (.instanceMethod yX4_copyFrom) (List.mem_of_getElem? (i := 11) rfl), hts (.selects RX4 yX4_copyFrom yX4_copyFrom) (List.mem_of_getElem? (i := 13) rfl)⟩ hE hP hD hS hA [5, 6, 12, 13] [0, 1, 2, 3, 4, 7, 8, 9, 10, 11] rfl rfl (by decide) (by decide) (by decide) rfl rfl rfl hl.1 rfl (Nat.le_of_ble_eq_true rfl) dX1_copyFrom_19 ⟨Nat.zero_le _, Nat.zero_le _⟩ (fun H locs hP hD hS => ?_)
  have hP : va_P G.1 vwCl [(h0, .inr (0, [.ref m0, .ref t0])), (m0, .inr (2, [.int (nI n1), .ref f0, .ref s0, .ref b0])), (f0, aI G 8 F1), (s0, aI G 8 S1), (b0, aI G 8 B1), (t0, .inr (3, [.ref l0])), (l0, aI G 23 V1), (h1, .inr (0, [.ref m1, .ref t1])), (m1, .inr (2, [.int (nI n1), .ref f1, .ref s1, .ref b1])), (f1, aI G 8 F1), (s1, aI G 8 S1), (b1, aI G 8 B1), (t1, .inr (3, [.ref l1])), (l1, aI G 23 V1)] H := hP.sub [0, 1, 2, 3, 4, 10, 11, 5, 6, 7, 8, 9, 12, 13] rfl
  have hD : va_D A [(h0, .inr (0, [.ref m0, .ref t0])), (m0, .inr (2, [.int (nI n1), .ref f0, .ref s0, .ref b0])), (f0, aI G 8 F1), (s0, aI G 8 S1), (b0, aI G 8 B1), (t0, .inr (3, [.ref l0])), (l0, aI G 23 V1), (h1, .inr (0, [.ref m1, .ref t1])), (m1, .inr (2, [.int (nI n1), .ref f1, .ref s1, .ref b1])), (f1, aI G 8 F1), (s1, aI G 8 S1), (b1, aI G 8 B1), (t1, .inr (3, [.ref l1])), (l1, aI G 23 V1)] := hD.sub [0, 1, 2, 3, 4, 10, 11, 5, 6, 7, 8, 9, 12, 13] (by decide) rfl
  exact wr_vret hx hb hr hlocks dX1_copyFrom_22 hP hD hS
set_option maxHeartbeats 4000000 in
set_option maxRecDepth 100000 in
/-- Moves.append -/
theorem c_X3_append (l : Launch) (G : EG) (m0 : Nat) (n0 : Nat) (f0 : Nat) (s0 : Nat) (b0 : Nat) (F : Nat → Nat) (S : Nat → Nat) (B : Nat → Nat) (a : Nat) (d : Nat) (hn : n0 < 8) (ha : a < 23) (hd : d < 23) (sz : Nat) : WR l yX3_append wsX3_append (rmR 2 46) G sz [(m0, .inr (2, [.int (nI n0), .ref f0, .ref s0, .ref b0])), (f0, aI G 8 F), (s0, aI G 8 S), (b0, aI G 8 B)] [.ref m0, .int (nI a), .int (nI d)] [(m0, .inr (2, [.int (nI (n0 + 1)), .ref f0, .ref s0, .ref b0])), (f0, aI G 8 (va_up F n0 a)), (s0, aI G 8 (va_up S n0 d)), (b0, aI G 8 (va_up B n0 (bakN 2047 a d)))] none := by
  refine WR.start (by decide) rfl (Nat.le_of_ble_eq_true rfl) ?_
  intro p e s m below meth c hx hb hr hml hts hown hlocks hE A hA H locs hP hD hS ls hl
  have hown : s.vm.findClass RX3 = some m.cls := hown
  have hl : lv_has ls 3 [(0, .ref m0), (1, .int (nI a)), (2, .int (nI d))] := hl
  refine lv_aload_n hx hb dX3_append_0 rfl (lv_at hl 0 rfl) ?_
  refine va_get (D := G.1) (ci := 2) (v := .int (nI n0)) (C := RX3) (T := TX3) (N := 4) hx hb hts (fun w h => List.mem_cons_of_mem _ (List.mem_append_right _ h)) hown hE.1 hP 0 rfl rfl 0 (by decide) (hts (.fieldLink RX3 9 "TripleTrap$Moves" "size" "I") (List.mem_of_getElem? (i := 1) rfl)) (fun _ h9 => h9) rfl dX3_append_1 ?_
  refine lv_bipush (v := nI 8) hx hb dX3_append_4 (by decide) ?_
  refine j_icmp_lt (tgt := 10) hx hb dX3_append_6 (by decide) (fun c6 => ?_) (fun c6 => ?_)
  · skip
    refine lv_aload_n hx hb dX3_append_10 rfl (lv_at hl 0 rfl) ?_
    refine va_get (D := G.1) (ci := 2) (v := .ref f0) (C := RX3) (T := TX3) (N := 4) hx hb hts (fun w h => List.mem_cons_of_mem _ (List.mem_append_right _ h)) hown hE.1 hP 0 rfl rfl 1 (by decide) (hts (.fieldLink RX3 15 "TripleTrap$Moves" "factors" "[I") (List.mem_of_getElem? (i := 2) rfl)) (fun _ h9 => h9) rfl dX3_append_11 ?_
    refine lv_aload_n hx hb dX3_append_14 rfl (lv_at hl 0 rfl) ?_
    refine va_get (D := G.1) (ci := 2) (v := .int (nI n0)) (C := RX3) (T := TX3) (N := 4) hx hb hts (fun w h => List.mem_cons_of_mem _ (List.mem_append_right _ h)) hown hE.1 hP 0 rfl rfl 0 (by decide) (hts (.fieldLink RX3 9 "TripleTrap$Moves" "size" "I") (List.mem_of_getElem? (i := 1) rfl)) (fun _ h9 => h9) rfl dX3_append_15 ?_
    refine lv_iload_n hx hb dX3_append_18 rfl (lv_at hl 1 rfl) ?_
    refine j_iast hx hb hE hP hD hS 1 rfl dX3_append_19 (fun H locs hP hD hS => ?_)
    have hP : va_P G.1 vwCl [(m0, .inr (2, [.int (nI n0), .ref f0, .ref s0, .ref b0])), (f0, aI G 8 (va_up F n0 a)), (s0, aI G 8 S), (b0, aI G 8 B)] H := hP
    have hD : va_D A [(m0, .inr (2, [.int (nI n0), .ref f0, .ref s0, .ref b0])), (f0, aI G 8 (va_up F n0 a)), (s0, aI G 8 S), (b0, aI G 8 B)] := hD
    refine lv_aload_n hx hb dX3_append_20 rfl (lv_at hl 0 rfl) ?_
    refine va_get (D := G.1) (ci := 2) (v := .ref s0) (C := RX3) (T := TX3) (N := 4) hx hb hts (fun w h => List.mem_cons_of_mem _ (List.mem_append_right _ h)) hown hE.1 hP 0 rfl rfl 2 (by decide) (hts (.fieldLink RX3 19 "TripleTrap$Moves" "shifts" "[I") (List.mem_of_getElem? (i := 3) rfl)) (fun _ h9 => h9) rfl dX3_append_21 ?_
    refine lv_aload_n hx hb dX3_append_24 rfl (lv_at hl 0 rfl) ?_
    refine va_get (D := G.1) (ci := 2) (v := .int (nI n0)) (C := RX3) (T := TX3) (N := 4) hx hb hts (fun w h => List.mem_cons_of_mem _ (List.mem_append_right _ h)) hown hE.1 hP 0 rfl rfl 0 (by decide) (hts (.fieldLink RX3 9 "TripleTrap$Moves" "size" "I") (List.mem_of_getElem? (i := 1) rfl)) (fun _ h9 => h9) rfl dX3_append_25 ?_
    refine lv_iload_n hx hb dX3_append_28 rfl (lv_at hl 2 rfl) ?_
    refine j_iast hx hb hE hP hD hS 2 rfl dX3_append_29 (fun H locs hP hD hS => ?_)
    have hP : va_P G.1 vwCl [(m0, .inr (2, [.int (nI n0), .ref f0, .ref s0, .ref b0])), (f0, aI G 8 (va_up F n0 a)), (s0, aI G 8 (va_up S n0 d)), (b0, aI G 8 B)] H := hP
    have hD : va_D A [(m0, .inr (2, [.int (nI n0), .ref f0, .ref s0, .ref b0])), (f0, aI G 8 (va_up F n0 a)), (s0, aI G 8 (va_up S n0 d)), (b0, aI G 8 B)] := hD
    refine lv_aload_n hx hb dX3_append_30 rfl (lv_at hl 0 rfl) ?_
    refine va_get (D := G.1) (ci := 2) (v := .ref b0) (C := RX3) (T := TX3) (N := 4) hx hb hts (fun w h => List.mem_cons_of_mem _ (List.mem_append_right _ h)) hown hE.1 hP 0 rfl rfl 3 (by decide) (hts (.fieldLink RX3 22 "TripleTrap$Moves" "brought" "[I") (List.mem_of_getElem? (i := 4) rfl)) (fun _ h9 => h9) rfl dX3_append_31 ?_
    refine lv_aload_n hx hb dX3_append_34 rfl (lv_at hl 0 rfl) ?_
    refine va_get (D := G.1) (ci := 2) (v := .int (nI n0)) (C := RX3) (T := TX3) (N := 4) hx hb hts (fun w h => List.mem_cons_of_mem _ (List.mem_append_right _ h)) hown hE.1 hP 0 rfl rfl 0 (by decide) (hts (.fieldLink RX3 9 "TripleTrap$Moves" "size" "I") (List.mem_of_getElem? (i := 1) rfl)) (fun _ h9 => h9) rfl dX3_append_35 ?_
    refine lv_sipush (v := nI 2047) hx hb dX3_append_38 (by decide) ?_
    refine lv_iload_n hx hb dX3_append_41 rfl (lv_at hl 1 rfl) ?_
    refine lv_iload_n hx hb dX3_append_42 rfl (lv_at hl 2 rfl) ?_
    refine ro_SN (rest := [.int (nI n0), .ref b0]) (host := "TripleTrap") ⟨hx, hb, hml, hown, hts⟩ (c_X0_carryBack l G 2047 a d (by omega) (by omega) (by omega)) ⟨va_cnB 3 hts gX3_append_X0_carryBack_n25 rfl rfl rfl (hE.nest (w := .methodLinkNest RX3 25 yX0_carryBack "TripleTrap") 24 rfl) (hts (.initialized RX0) (List.mem_of_getElem? (i := 6) rfl)) (by decide +kernel) ⟨Nat.le_of_ble_eq_true rfl, Nat.le_of_ble_eq_true rfl⟩, hts (.static yX0_carryBack) (List.mem_of_getElem? (i := 5) rfl), trivial⟩ hE (hP.sub [] rfl) rfl hl.1 rfl (Nat.le_of_ble_eq_true rfl) dX3_append_43 ⟨Nat.zero_le _, Nat.zero_le _⟩ ?_
    refine j_iast hx hb hE hP hD hS 3 rfl dX3_append_46 (fun H locs hP hD hS => ?_)
    have hP : va_P G.1 vwCl [(m0, .inr (2, [.int (nI n0), .ref f0, .ref s0, .ref b0])), (f0, aI G 8 (va_up F n0 a)), (s0, aI G 8 (va_up S n0 d)), (b0, aI G 8 (va_up B n0 (bakN 2047 a d)))] H := hP
    have hD : va_D A [(m0, .inr (2, [.int (nI n0), .ref f0, .ref s0, .ref b0])), (f0, aI G 8 (va_up F n0 a)), (s0, aI G 8 (va_up S n0 d)), (b0, aI G 8 (va_up B n0 (bakN 2047 a d)))] := hD
    refine lv_aload_n hx hb dX3_append_47 rfl (lv_at hl 0 rfl) ?_
    refine lv_dup hx hb dX3_append_48 rfl ?_
    refine va_get (D := G.1) (ci := 2) (v := .int (nI n0)) (C := RX3) (T := TX3) (N := 4) hx hb hts (fun w h => List.mem_cons_of_mem _ (List.mem_append_right _ h)) hown hE.1 hP 0 rfl rfl 0 (by decide) (hts (.fieldLink RX3 9 "TripleTrap$Moves" "size" "I") (List.mem_of_getElem? (i := 1) rfl)) (fun _ h9 => h9) rfl dX3_append_49 ?_
    refine lv_iconst (v := nI 1) hx hb dX3_append_52 (by decide) ?_
    refine j_add hx hb dX3_append_53 ?_
    refine j_top (fun x54 ex54 => ?_)
    refine va_put (D := G.1) (ci := 2) (v := .int (nI x54)) (ty := .int) (C := RX3) (T := TX3) (N := 4) hx hb hts (fun w h => List.mem_cons_of_mem _ (List.mem_append_right _ h)) tyX3 tyX3_ok nmX3 hown hE.1 hP hD hS 0 rfl rfl 0 (by decide) (hts (.fieldLink RX3 9 "TripleTrap$Moves" "size" "I") (List.mem_of_getElem? (i := 1) rfl)) (fun _ h9 => h9) rfl (by decide +kernel) rfl rfl (Nat.le_of_ble_eq_true rfl) dX3_append_54 (fun H locs hP hD hS => ?_)
    have hP : va_P G.1 vwCl [(m0, .inr (2, [.int (nI x54), .ref f0, .ref s0, .ref b0])), (f0, aI G 8 (va_up F n0 a)), (s0, aI G 8 (va_up S n0 d)), (b0, aI G 8 (va_up B n0 (bakN 2047 a d)))] H := hP
    have hD : va_D A [(m0, .inr (2, [.int (nI x54), .ref f0, .ref s0, .ref b0])), (f0, aI G 8 (va_up F n0 a)), (s0, aI G 8 (va_up S n0 d)), (b0, aI G 8 (va_up B n0 (bakN 2047 a d)))] := hD
    rw [ex54] at hP hD
    exact wr_vret hx hb hr hlocks dX3_append_57 hP hD hS
  · skip
    exact absurd c6 (by omega)
set_option maxHeartbeats 4000000 in
set_option maxRecDepth 100000 in
/-- Moves.removeAt -/
theorem c_X3_removeAt (l : Launch) (G : EG) (m0 : Nat) (n0 : Nat) (f0 : Nat) (s0 : Nat) (b0 : Nat) (F : Nat → Nat) (S : Nat → Nat) (B : Nat → Nat) (hn0 : n0 ≤ 8) (d : Nat) (hd : d < n0) (sz : Nat) : WR l yX3_removeAt wsX3_removeAt (rmR 1 21) G sz [(m0, .inr (2, [.int (nI n0), .ref f0, .ref s0, .ref b0])), (f0, aI G 8 F), (s0, aI G 8 S), (b0, aI G 8 B)] [.ref m0, .int (nI d)] [(m0, .inr (2, [.int (nI (n0 - 1)), .ref f0, .ref s0, .ref b0])), (f0, aI G 8 (shL F d (n0 - 1 - d))), (s0, aI G 8 (shL S d (n0 - 1 - d))), (b0, aI G 8 (shL B d (n0 - 1 - d)))] none := by
  refine WR.start (by decide) rfl (Nat.le_of_ble_eq_true rfl) ?_
  intro p e s m below meth c hx hb hr hml hts hown hlocks hE A hA H locs hP hD hS ls hl
  have hown : s.vm.findClass RX3 = some m.cls := hown
  have hl : lv_has ls 3 [(0, .ref m0), (1, .int (nI d))] := hl
  refine lv_iload_n hx hb dX3_removeAt_0 rfl (lv_at hl 1 rfl) ?_
  refine lv_aload_n hx hb dX3_removeAt_1 rfl (lv_at hl 0 rfl) ?_
  refine va_get (D := G.1) (ci := 2) (v := .int (nI n0)) (C := RX3) (T := TX3) (N := 4) hx hb hts (fun w h => List.mem_cons_of_mem _ (List.mem_append_right _ h)) hown hE.1 hP 0 rfl rfl 0 (by decide) (hts (.fieldLink RX3 9 "TripleTrap$Moves" "size" "I") (List.mem_of_getElem? (i := 1) rfl)) (fun _ h9 => h9) rfl dX3_removeAt_2 ?_
  refine ro_SN (rest := []) (host := "TripleTrap") ⟨hx, hb, hml, hown, hts⟩ (c_X5_isBelow l G (nI d) n0) ⟨va_cnB 2 hts gX3_removeAt_X5_isBelow_n31 rfl rfl rfl (hE.nest (w := .methodLinkNest RX3 31 yX5_isBelow "TripleTrap") 26 rfl) (hts (.initialized RX5) (List.mem_of_getElem? (i := 6) rfl)) (by decide +kernel) ⟨Nat.le_of_ble_eq_true rfl, Nat.le_of_ble_eq_true rfl⟩, hts (.static yX5_isBelow) (List.mem_of_getElem? (i := 5) rfl), trivial⟩ hE (hP.sub [] rfl) rfl hl.1 rfl (Nat.le_of_ble_eq_true rfl) dX3_removeAt_5 ⟨Nat.zero_le _, Nat.zero_le _⟩ ?_
  refine j_bool (fun c5 => ?_) (fun c5 => ?_)
  · skip
    refine j_if_ne (tgt := 12) hx hb dX3_removeAt_8 (by decide) (fun _ => ?_) (fun q => absurd q (by decide))
    refine lv_iload_n hx hb dX3_removeAt_12 rfl (lv_at hl 1 rfl) ?_
    refine lv_istore_n (lv' := [(2, .int (nI d)), (0, .ref m0), (1, .int (nI d))]) hx hb dX3_removeAt_13 rfl hl (by decide) rfl (fun ls hl => ?_)
    have loop14 : ∀ (fuel : Nat) (q : Nat) (D1 : Nat → Nat) (D2 : Nat → Nat) (D3 : Nat → Nat), (d ≤ q) → (q < n0) → (D1 = shL F d (q - d)) → (D2 = shL S d (q - d)) → (D3 = shL B d (q - d)) → n0 - q < fuel → ∀ (H : Heap) (locs : List Loc), va_P G.1 vwCl [(m0, .inr (2, [.int (nI n0), .ref f0, .ref s0, .ref b0])), (f0, aI G 8 D1), (s0, aI G 8 D2), (b0, aI G 8 D3)] H → va_D A [(m0, .inr (2, [.int (nI n0), .ref f0, .ref s0, .ref b0])), (f0, aI G 8 D1), (s0, aI G 8 D2), (b0, aI G 8 D3)] → va_S A s.heap H locs → ∀ ls : Array Slot, lv_has ls 3 [(2, .int (nI q)), (0, .ref m0), (1, .int (nI d))] → W p l e (rmR 1 21) s m ([.ref m0, .int (nI d)] : List Value).toArray below meth c H locs 0 0 (MQ below (postW G [(m0, .inr (2, [.int (nI (n0 - 1)), .ref f0, .ref s0, .ref b0])), (f0, aI G 8 (shL F d (n0 - 1 - d))), (s0, aI G 8 (shL S d (n0 - 1 - d))), (b0, aI G 8 (shL B d (n0 - 1 - d)))] none A) ([.ref m0, .int (nI d)] : List Value).toArray s 0 0 A) (F0 m 14 ls []) := by
      intro fuel
      induction fuel with
      | zero => intro q D1 D2 D3 h1 h2 q1 q2 q3 hf; exact absurd hf (Nat.not_lt_zero _)
      | succ fuel ih14 =>
        intro q D1 D2 D3 h1 h2 q1 q2 q3 hf H locs hP hD hS ls hl
        refine lv_iload_n hx hb dX3_removeAt_14 rfl (lv_at hl 0 rfl) ?_
        refine lv_iconst (v := nI 1) hx hb dX3_removeAt_15 (by decide) ?_
        refine j_add hx hb dX3_removeAt_16 ?_
        refine lv_aload_n hx hb dX3_removeAt_17 rfl (lv_at hl 1 rfl) ?_
        refine va_get (D := G.1) (ci := 2) (v := .int (nI n0)) (C := RX3) (T := TX3) (N := 4) hx hb hts (fun w h => List.mem_cons_of_mem _ (List.mem_append_right _ h)) hown hE.1 hP 0 rfl rfl 0 (by decide) (hts (.fieldLink RX3 9 "TripleTrap$Moves" "size" "I") (List.mem_of_getElem? (i := 1) rfl)) (fun _ h9 => h9) rfl dX3_removeAt_18 ?_
        refine j_icmp_ge (tgt := 72) hx hb dX3_removeAt_21 (by decide) (fun c21 => ?_) (fun c21 => ?_)
        · skip
          refine lv_aload_n hx hb dX3_removeAt_72 rfl (lv_at hl 1 rfl) ?_
          refine lv_dup hx hb dX3_removeAt_73 rfl ?_
          refine va_get (D := G.1) (ci := 2) (v := .int (nI n0)) (C := RX3) (T := TX3) (N := 4) hx hb hts (fun w h => List.mem_cons_of_mem _ (List.mem_append_right _ h)) hown hE.1 hP 0 rfl rfl 0 (by decide) (hts (.fieldLink RX3 9 "TripleTrap$Moves" "size" "I") (List.mem_of_getElem? (i := 1) rfl)) (fun _ h9 => h9) rfl dX3_removeAt_74 ?_
          refine lv_iconst (v := nI 1) hx hb dX3_removeAt_77 (by decide) ?_
          refine j_sub hx hb dX3_removeAt_78 ?_
          refine j_top (fun x79 ex79 => ?_)
          refine va_put (D := G.1) (ci := 2) (v := .int (nI x79)) (ty := .int) (C := RX3) (T := TX3) (N := 4) hx hb hts (fun w h => List.mem_cons_of_mem _ (List.mem_append_right _ h)) tyX3 tyX3_ok nmX3 hown hE.1 hP hD hS 0 rfl rfl 0 (by decide) (hts (.fieldLink RX3 9 "TripleTrap$Moves" "size" "I") (List.mem_of_getElem? (i := 1) rfl)) (fun _ h9 => h9) rfl (by decide +kernel) rfl rfl (Nat.le_of_ble_eq_true rfl) dX3_removeAt_79 (fun H locs hP hD hS => ?_)
          have hP : va_P G.1 vwCl [(m0, .inr (2, [.int (nI x79), .ref f0, .ref s0, .ref b0])), (f0, aI G 8 D1), (s0, aI G 8 D2), (b0, aI G 8 D3)] H := hP
          have hD : va_D A [(m0, .inr (2, [.int (nI x79), .ref f0, .ref s0, .ref b0])), (f0, aI G 8 D1), (s0, aI G 8 D2), (b0, aI G 8 D3)] := hD
          rw [ex79, q1, q2, q3, show q - d = n0 - 1 - d by omega] at hP hD
          exact wr_vret hx hb hr hlocks dX3_removeAt_82 hP hD hS
        · skip
          refine lv_aload_n hx hb dX3_removeAt_24 rfl (lv_at hl 1 rfl) ?_
          refine va_get (D := G.1) (ci := 2) (v := .ref f0) (C := RX3) (T := TX3) (N := 4) hx hb hts (fun w h => List.mem_cons_of_mem _ (List.mem_append_right _ h)) hown hE.1 hP 0 rfl rfl 1 (by decide) (hts (.fieldLink RX3 15 "TripleTrap$Moves" "factors" "[I") (List.mem_of_getElem? (i := 2) rfl)) (fun _ h9 => h9) rfl dX3_removeAt_25 ?_
          refine lv_iload_n hx hb dX3_removeAt_28 rfl (lv_at hl 0 rfl) ?_
          refine lv_aload_n hx hb dX3_removeAt_29 rfl (lv_at hl 1 rfl) ?_
          refine va_get (D := G.1) (ci := 2) (v := .ref f0) (C := RX3) (T := TX3) (N := 4) hx hb hts (fun w h => List.mem_cons_of_mem _ (List.mem_append_right _ h)) hown hE.1 hP 0 rfl rfl 1 (by decide) (hts (.fieldLink RX3 15 "TripleTrap$Moves" "factors" "[I") (List.mem_of_getElem? (i := 2) rfl)) (fun _ h9 => h9) rfl dX3_removeAt_30 ?_
          refine lv_iload_n hx hb dX3_removeAt_33 rfl (lv_at hl 0 rfl) ?_
          refine lv_iconst (v := nI 1) hx hb dX3_removeAt_34 (by decide) ?_
          refine j_add hx hb dX3_removeAt_35 ?_
          refine j_iald hx hb hE hP 1 rfl dX3_removeAt_36 ?_
          refine j_iast hx hb hE hP hD hS 1 rfl dX3_removeAt_37 (fun H locs hP hD hS => ?_)
          have hP : va_P G.1 vwCl [(m0, .inr (2, [.int (nI n0), .ref f0, .ref s0, .ref b0])), (f0, aI G 8 (va_up D1 q (D1 (q + 1)))), (s0, aI G 8 D2), (b0, aI G 8 D3)] H := hP
          have hD : va_D A [(m0, .inr (2, [.int (nI n0), .ref f0, .ref s0, .ref b0])), (f0, aI G 8 (va_up D1 q (D1 (q + 1)))), (s0, aI G 8 D2), (b0, aI G 8 D3)] := hD
          refine lv_aload_n hx hb dX3_removeAt_38 rfl (lv_at hl 1 rfl) ?_
          refine va_get (D := G.1) (ci := 2) (v := .ref s0) (C := RX3) (T := TX3) (N := 4) hx hb hts (fun w h => List.mem_cons_of_mem _ (List.mem_append_right _ h)) hown hE.1 hP 0 rfl rfl 2 (by decide) (hts (.fieldLink RX3 19 "TripleTrap$Moves" "shifts" "[I") (List.mem_of_getElem? (i := 3) rfl)) (fun _ h9 => h9) rfl dX3_removeAt_39 ?_
          refine lv_iload_n hx hb dX3_removeAt_42 rfl (lv_at hl 0 rfl) ?_
          refine lv_aload_n hx hb dX3_removeAt_43 rfl (lv_at hl 1 rfl) ?_
          refine va_get (D := G.1) (ci := 2) (v := .ref s0) (C := RX3) (T := TX3) (N := 4) hx hb hts (fun w h => List.mem_cons_of_mem _ (List.mem_append_right _ h)) hown hE.1 hP 0 rfl rfl 2 (by decide) (hts (.fieldLink RX3 19 "TripleTrap$Moves" "shifts" "[I") (List.mem_of_getElem? (i := 3) rfl)) (fun _ h9 => h9) rfl dX3_removeAt_44 ?_
          refine lv_iload_n hx hb dX3_removeAt_47 rfl (lv_at hl 0 rfl) ?_
          refine lv_iconst (v := nI 1) hx hb dX3_removeAt_48 (by decide) ?_
          refine j_add hx hb dX3_removeAt_49 ?_
          refine j_iald hx hb hE hP 2 rfl dX3_removeAt_50 ?_
          refine j_iast hx hb hE hP hD hS 2 rfl dX3_removeAt_51 (fun H locs hP hD hS => ?_)
          have hP : va_P G.1 vwCl [(m0, .inr (2, [.int (nI n0), .ref f0, .ref s0, .ref b0])), (f0, aI G 8 (va_up D1 q (D1 (q + 1)))), (s0, aI G 8 (va_up D2 q (D2 (q + 1)))), (b0, aI G 8 D3)] H := hP
          have hD : va_D A [(m0, .inr (2, [.int (nI n0), .ref f0, .ref s0, .ref b0])), (f0, aI G 8 (va_up D1 q (D1 (q + 1)))), (s0, aI G 8 (va_up D2 q (D2 (q + 1)))), (b0, aI G 8 D3)] := hD
          refine lv_aload_n hx hb dX3_removeAt_52 rfl (lv_at hl 1 rfl) ?_
          refine va_get (D := G.1) (ci := 2) (v := .ref b0) (C := RX3) (T := TX3) (N := 4) hx hb hts (fun w h => List.mem_cons_of_mem _ (List.mem_append_right _ h)) hown hE.1 hP 0 rfl rfl 3 (by decide) (hts (.fieldLink RX3 22 "TripleTrap$Moves" "brought" "[I") (List.mem_of_getElem? (i := 4) rfl)) (fun _ h9 => h9) rfl dX3_removeAt_53 ?_
          refine lv_iload_n hx hb dX3_removeAt_56 rfl (lv_at hl 0 rfl) ?_
          refine lv_aload_n hx hb dX3_removeAt_57 rfl (lv_at hl 1 rfl) ?_
          refine va_get (D := G.1) (ci := 2) (v := .ref b0) (C := RX3) (T := TX3) (N := 4) hx hb hts (fun w h => List.mem_cons_of_mem _ (List.mem_append_right _ h)) hown hE.1 hP 0 rfl rfl 3 (by decide) (hts (.fieldLink RX3 22 "TripleTrap$Moves" "brought" "[I") (List.mem_of_getElem? (i := 4) rfl)) (fun _ h9 => h9) rfl dX3_removeAt_58 ?_
          refine lv_iload_n hx hb dX3_removeAt_61 rfl (lv_at hl 0 rfl) ?_
          refine lv_iconst (v := nI 1) hx hb dX3_removeAt_62 (by decide) ?_
          refine j_add hx hb dX3_removeAt_63 ?_
          refine j_iald hx hb hE hP 3 rfl dX3_removeAt_64 ?_
          refine j_iast hx hb hE hP hD hS 3 rfl dX3_removeAt_65 (fun H locs hP hD hS => ?_)
          have hP : va_P G.1 vwCl [(m0, .inr (2, [.int (nI n0), .ref f0, .ref s0, .ref b0])), (f0, aI G 8 (va_up D1 q (D1 (q + 1)))), (s0, aI G 8 (va_up D2 q (D2 (q + 1)))), (b0, aI G 8 (va_up D3 q (D3 (q + 1))))] H := hP
          have hD : va_D A [(m0, .inr (2, [.int (nI n0), .ref f0, .ref s0, .ref b0])), (f0, aI G 8 (va_up D1 q (D1 (q + 1)))), (s0, aI G 8 (va_up D2 q (D2 (q + 1)))), (b0, aI G 8 (va_up D3 q (D3 (q + 1))))] := hD
          obtain ⟨x66, ex66⟩ : ∃ y : Nat, y = q + 1 := ⟨_, rfl⟩
          refine lv_iinc (v := nI x66) (lv' := [(2, .int (nI x66)), (0, .ref m0), (1, .int (nI d))]) hx hb dX3_removeAt_66 hl (k := 0) rfl (by rw [ex66]; exact nI_add _ _) (by decide) rfl (fun ls hl => ?_)
          refine lv_goto (tgt := 14) hx hb dX3_removeAt_69 (by decide) ?_
          exact ih14 x66 (va_up D1 q (D1 (q + 1))) (va_up D2 q (D2 (q + 1))) (va_up D3 q (D3 (q + 1))) (by omega) (by omega) (by rw [ex66, show q + 1 - d = (q - d) + 1 by omega, shL, ← q1, show d + (q - d) = q by omega]) (by rw [ex66, show q + 1 - d = (q - d) + 1 by omega, shL, ← q2, show d + (q - d) = q by omega]) (by rw [ex66, show q + 1 - d = (q - d) + 1 by omega, shL, ← q3, show d + (q - d) = q by omega]) (by omega) H locs hP hD hS ls (lv_sub hl [0, 1, 2] rfl)
    exact loop14 _ d F S B (by omega) (by omega) (by rw [Nat.sub_self]; rfl) (by rw [Nat.sub_self]; rfl) (by rw [Nat.sub_self]; rfl) (Nat.lt_succ_self _) H locs hP hD hS ls (lv_sub hl [0, 1, 2] rfl)
  · skip
    rw [blw_j hd (by omega)] at c5; exact absurd c5 (by decide)
set_option maxHeartbeats 4000000 in
set_option maxRecDepth 100000 in
/-- Moves.joined -/
theorem c_X3_joined (l : Launch) (G : EG) (m0 : Nat) (n0 : Nat) (f0 : Nat) (s0 : Nat) (b0 : Nat) (B : Nat → Nat) (hn0 : n0 ≤ 8) (hBb : ∀ i, i < n0 → B i < 8388608) (a : Nat) (b : Nat) (d : Nat) (ha : a < 23) (hb0 : b < 23) (hd : d ≤ n0) : RO l yX3_joined wsX3_joined (rmR 0 0) G [(m0, .inr (2, [.int (nI n0), .ref f0, .ref s0, .ref b0])), (b0, aI G 8 B)] [.ref m0, .int (nI a), .int (nI b), .int (nI d)] (.int (nI (jonL B (pr a b) d))) := by
  refine RO.start (by decide) rfl (Nat.le_of_ble_eq_true rfl) ?_
  intro p e s m below meth c hx hb hr hml hts hown hlocks hP hE ls hl
  have hown : s.vm.findClass RX3 = some m.cls := hown
  have hl : lv_has ls 7 [(0, .ref m0), (1, .int (nI a)), (2, .int (nI b)), (3, .int (nI d))] := hl
  refine lv_iconst (v := nI 1) hx hb dX3_joined_0 (by decide) ?_
  refine lv_iload_n hx hb dX3_joined_1 rfl (lv_at hl 1 rfl) ?_
  refine j_shl hx hb dX3_joined_2 ?_
  refine lv_iconst (v := nI 1) hx hb dX3_joined_3 (by decide) ?_
  refine lv_iload_n hx hb dX3_joined_4 rfl (lv_at hl 2 rfl) ?_
  refine j_shl hx hb dX3_joined_5 ?_
  refine j_or hx hb dX3_joined_6 ?_
  refine j_top (fun x7 ex7 => ?_)
  refine lv_istore (lv' := [(4, .int (nI x7)), (0, .ref m0), (1, .int (nI a)), (2, .int (nI b)), (3, .int (nI d))]) hx hb dX3_joined_7 hl (by decide) rfl (fun ls hl => ?_)
  refine lv_iconst (v := nI 0) hx hb dX3_joined_9 (by decide) ?_
  refine lv_istore (lv' := [(5, .int (nI 0)), (4, .int (nI x7)), (0, .ref m0), (1, .int (nI a)), (2, .int (nI b)), (3, .int (nI d))]) hx hb dX3_joined_10 hl (by decide) rfl (fun ls hl => ?_)
  refine lv_iconst (v := nI 0) hx hb dX3_joined_12 (by decide) ?_
  refine lv_istore (lv' := [(6, .int (nI 0)), (5, .int (nI 0)), (4, .int (nI x7)), (0, .ref m0), (1, .int (nI a)), (2, .int (nI b)), (3, .int (nI d))]) hx hb dX3_joined_13 hl (by decide) rfl (fun ls hl => ?_)
  have loop15 : ∀ (fuel : Nat) (v : Nat) (k : Nat), (k ≤ d) → (v = jonL B (pr a b) k) → d - k < fuel → ∀ ls : Array Slot, lv_has ls 7 [(6, .int (nI k)), (5, .int (nI v)), (4, .int (nI x7)), (0, .ref m0), (1, .int (nI a)), (2, .int (nI b)), (3, .int (nI d))] → W p l e (rmR 0 0) s m ([.ref m0, .int (nI a), .int (nI b), .int (nI d)] : List Value).toArray below meth c s.heap [] 0 0 (MQ below (k2_QcV (.int (nI (jonL B (pr a b) d)))) ([.ref m0, .int (nI a), .int (nI b), .int (nI d)] : List Value).toArray s 0 0 (fun _ => False)) (F0 m 15 ls []) := by
    intro fuel
    induction fuel with
    | zero => intro v k h1 h2 hf; exact absurd hf (Nat.not_lt_zero _)
    | succ fuel ih15 =>
      intro v k h1 h2 hf ls hl
      have hpr : x7 = pr a b := ex7
      refine lv_iload hx hb dX3_joined_15 (lv_at hl 0 rfl) ?_
      refine lv_iload_n hx hb dX3_joined_17 rfl (lv_at hl 6 rfl) ?_
      refine j_icmp_ge (tgt := 63) hx hb dX3_joined_18 (by decide) (fun c18 => ?_) (fun c18 => ?_)
      · skip
        refine lv_iload hx hb dX3_joined_63 (lv_at hl 1 rfl) ?_
        exact ro_ret hx hb hr hlocks dX3_joined_65 (by rw [h2, show k = d by omega])
      · skip
        refine lv_iload hx hb dX3_joined_21 (lv_at hl 0 rfl) ?_
        refine lv_aload_n hx hb dX3_joined_23 rfl (lv_at hl 3 rfl) ?_
        refine va_get (D := G.1) (ci := 2) (v := .int (nI n0)) (C := RX3) (T := TX3) (N := 4) hx hb hts (fun w h => List.mem_cons_of_mem _ (List.mem_append_right _ h)) hown hE.1 hP 0 rfl rfl 0 (by decide) (hts (.fieldLink RX3 9 "TripleTrap$Moves" "size" "I") (List.mem_of_getElem? (i := 1) rfl)) (fun _ h9 => h9) rfl dX3_joined_24 ?_
        refine j_icmp_ge (tgt := 63) hx hb dX3_joined_27 (by decide) (fun c27 => ?_) (fun c27 => ?_)
        · skip
          exact absurd c27 (by omega)
        · skip
          refine lv_aload_n hx hb dX3_joined_30 rfl (lv_at hl 3 rfl) ?_
          refine va_get (D := G.1) (ci := 2) (v := .ref b0) (C := RX3) (T := TX3) (N := 4) hx hb hts (fun w h => List.mem_cons_of_mem _ (List.mem_append_right _ h)) hown hE.1 hP 0 rfl rfl 3 (by decide) (hts (.fieldLink RX3 22 "TripleTrap$Moves" "brought" "[I") (List.mem_of_getElem? (i := 2) rfl)) (fun _ h9 => h9) rfl dX3_joined_31 ?_
          refine lv_iload hx hb dX3_joined_34 (lv_at hl 0 rfl) ?_
          refine j_iald hx hb hE hP 1 rfl dX3_joined_36 ?_
          refine lv_iload hx hb dX3_joined_37 (lv_at hl 2 rfl) ?_
          refine j_and hx hb dX3_joined_39 ?_
          refine lv_iload hx hb dX3_joined_40 (lv_at hl 2 rfl) ?_
          refine j_icmp_ne (tgt := 57) hx hb dX3_joined_42 (by decide) (fun c42 => ?_) (fun c42 => ?_) (h1 := Nat.lt_of_le_of_lt Nat.and_le_right (by rw [hpr]; exact Nat.lt_trans (pr_lt ha hb0) (by decide))) (h2 := by rw [hpr]; exact Nat.lt_trans (pr_lt ha hb0) (by decide))
          · skip
            obtain ⟨x57, ex57⟩ : ∃ y : Nat, y = k + 1 := ⟨_, rfl⟩
            refine lv_iinc (v := nI x57) (lv' := [(6, .int (nI x57)), (5, .int (nI v)), (4, .int (nI x7)), (0, .ref m0), (1, .int (nI a)), (2, .int (nI b)), (3, .int (nI d))]) hx hb dX3_joined_57 hl (k := 0) rfl (by rw [ex57]; exact nI_add _ _) (by decide) rfl (fun ls hl => ?_)
            refine lv_goto (tgt := 15) hx hb dX3_joined_60 (by decide) ?_
            exact ih15 v x57 (by omega) (by rw [ex57, jonL, if_neg (by rw [← hpr]; exact c42)]; exact h2) (by omega) ls (lv_sub hl [0, 1, 2, 3, 4, 5, 6] rfl)
          · skip
            refine lv_iload hx hb dX3_joined_45 (lv_at hl 1 rfl) ?_
            refine lv_aload_n hx hb dX3_joined_47 rfl (lv_at hl 3 rfl) ?_
            refine va_get (D := G.1) (ci := 2) (v := .ref b0) (C := RX3) (T := TX3) (N := 4) hx hb hts (fun w h => List.mem_cons_of_mem _ (List.mem_append_right _ h)) hown hE.1 hP 0 rfl rfl 3 (by decide) (hts (.fieldLink RX3 22 "TripleTrap$Moves" "brought" "[I") (List.mem_of_getElem? (i := 2) rfl)) (fun _ h9 => h9) rfl dX3_joined_48 ?_
            refine lv_iload hx hb dX3_joined_51 (lv_at hl 0 rfl) ?_
            refine j_iald hx hb hE hP 1 rfl dX3_joined_53 ?_
            refine j_or hx hb dX3_joined_54 ?_
            refine j_top (fun x55 ex55 => ?_)
            refine lv_istore (lv' := [(5, .int (nI x55)), (6, .int (nI k)), (4, .int (nI x7)), (0, .ref m0), (1, .int (nI a)), (2, .int (nI b)), (3, .int (nI d))]) hx hb dX3_joined_55 hl (by decide) rfl (fun ls hl => ?_)
            obtain ⟨x57, ex57⟩ : ∃ y : Nat, y = k + 1 := ⟨_, rfl⟩
            refine lv_iinc (v := nI x57) (lv' := [(6, .int (nI x57)), (5, .int (nI x55)), (4, .int (nI x7)), (0, .ref m0), (1, .int (nI a)), (2, .int (nI b)), (3, .int (nI d))]) hx hb dX3_joined_57 hl (k := 1) rfl (by rw [ex57]; exact nI_add _ _) (by decide) rfl (fun ls hl => ?_)
            refine lv_goto (tgt := 15) hx hb dX3_joined_60 (by decide) ?_
            exact ih15 x55 x57 (by omega) (by rw [ex55, ex57, jonL, if_pos (by rw [← hpr]; exact c42), ← h2]) (by omega) ls (lv_sub hl [0, 1, 2, 3, 4, 5, 6] rfl)
  exact loop15 _ 0 0 (by omega) rfl (Nat.lt_succ_self _) ls (lv_sub hl [0, 1, 2, 3, 4, 5, 6] rfl)
set_option maxHeartbeats 4000000 in
set_option maxRecDepth 100000 in
/-- Moves.coveredByFirst -/
theorem c_X3_coveredByFirst (l : Launch) (G : EG) (m0 : Nat) (n0 : Nat) (f0 : Nat) (s0 : Nat) (b0 : Nat) (B : Nat → Nat) (hn0 : n0 ≤ 8) (hBb : ∀ i, i < n0 → B i < 8388608) (d : Nat) (hd : d ≤ n0) : RO l yX3_coveredByFirst wsX3_coveredByFirst (rmR 1 26) G [(m0, .inr (2, [.int (nI n0), .ref f0, .ref s0, .ref b0])), (b0, aI G 8 B)] [.ref m0, .int (nI d)] (.int (nI (cbP B d 23 0))) := by
  refine RO.start (by decide) rfl (Nat.le_of_ble_eq_true rfl) ?_
  intro p e s m below meth c hx hb hr hml hts hown hlocks hP hE ls hl
  have hown : s.vm.findClass RX3 = some m.cls := hown
  have hl : lv_has ls 5 [(0, .ref m0), (1, .int (nI d))] := hl
  refine lv_iconst (v := nI 0) hx hb dX3_coveredByFirst_0 (by decide) ?_
  refine lv_istore_n (lv' := [(2, .int (nI 0)), (0, .ref m0), (1, .int (nI d))]) hx hb dX3_coveredByFirst_1 rfl hl (by decide) rfl (fun ls hl => ?_)
  refine lv_iconst (v := nI 0) hx hb dX3_coveredByFirst_2 (by decide) ?_
  refine lv_istore_n (lv' := [(3, .int (nI 0)), (2, .int (nI 0)), (0, .ref m0), (1, .int (nI d))]) hx hb dX3_coveredByFirst_3 rfl hl (by decide) rfl (fun ls hl => ?_)
  have loop4 : ∀ (fuel : Nat) (t : Nat) (a : Nat), (a ≤ 23) → (cbP B d (23 - a) t = cbP B d 23 0) → 23 - a < fuel → ∀ ls : Array Slot, lv_has ls 5 [(3, .int (nI a)), (2, .int (nI t)), (0, .ref m0), (1, .int (nI d))] → W p l e (rmR 1 26) s m ([.ref m0, .int (nI d)] : List Value).toArray below meth c s.heap [] 0 0 (MQ below (k2_QcV (.int (nI (cbP B d 23 0)))) ([.ref m0, .int (nI d)] : List Value).toArray s 0 0 (fun _ => False)) (F0 m 4 ls []) := by
    intro fuel
    induction fuel with
    | zero => intro t a h1 h2 hf; exact absurd hf (Nat.not_lt_zero _)
    | succ fuel ih4 =>
      intro t a h1 h2 hf ls hl
      refine lv_iload_n hx hb dX3_coveredByFirst_4 rfl (lv_at hl 0 rfl) ?_
      refine lv_bipush (v := nI 23) hx hb dX3_coveredByFirst_5 (by decide) ?_
      refine j_icmp_ge (tgt := 53) hx hb dX3_coveredByFirst_7 (by decide) (fun c7 => ?_) (fun c7 => ?_)
      · skip
        refine lv_iload_n hx hb dX3_coveredByFirst_53 rfl (lv_at hl 1 rfl) ?_
        exact ro_ret hx hb hr hlocks dX3_coveredByFirst_54 (by rw [← h2, show 23 - a = 0 by omega, cbP])
      · skip
        refine lv_iload_n hx hb dX3_coveredByFirst_10 rfl (lv_at hl 0 rfl) ?_
        refine lv_iconst (v := nI 1) hx hb dX3_coveredByFirst_11 (by decide) ?_
        refine j_add hx hb dX3_coveredByFirst_12 ?_
        refine j_top (fun x13 ex13 => ?_)
        refine lv_istore (lv' := [(4, .int (nI x13)), (3, .int (nI a)), (2, .int (nI t)), (0, .ref m0), (1, .int (nI d))]) hx hb dX3_coveredByFirst_13 hl (by decide) rfl (fun ls hl => ?_)
        have loop15 : ∀ (fuel : Nat) (t1 : Nat) (b : Nat), (b ≤ 23) → (cbP B d (22 - a) (cbQ B d a (23 - b) t1) = cbP B d 23 0) → 23 - b < fuel → ∀ ls : Array Slot, lv_has ls 5 [(4, .int (nI b)), (3, .int (nI a)), (2, .int (nI t1)), (0, .ref m0), (1, .int (nI d))] → W p l e (rmR 1 26) s m ([.ref m0, .int (nI d)] : List Value).toArray below meth c s.heap [] 0 0 (MQ below (k2_QcV (.int (nI (cbP B d 23 0)))) ([.ref m0, .int (nI d)] : List Value).toArray s 0 0 (fun _ => False)) (F0 m 15 ls []) := by
          intro fuel
          induction fuel with
          | zero => intro t1 b g1 g2 hf; exact absurd hf (Nat.not_lt_zero _)
          | succ fuel ih15 =>
            intro t1 b g1 g2 hf ls hl
            refine lv_iload hx hb dX3_coveredByFirst_15 (lv_at hl 0 rfl) ?_
            refine lv_bipush (v := nI 23) hx hb dX3_coveredByFirst_17 (by decide) ?_
            refine j_icmp_ge (tgt := 47) hx hb dX3_coveredByFirst_19 (by decide) (fun c19 => ?_) (fun c19 => ?_)
            · skip
              obtain ⟨x47, ex47⟩ : ∃ y : Nat, y = a + 1 := ⟨_, rfl⟩
              refine lv_iinc (v := nI x47) (lv' := [(3, .int (nI x47)), (4, .int (nI b)), (2, .int (nI t1)), (0, .ref m0), (1, .int (nI d))]) hx hb dX3_coveredByFirst_47 hl (k := 1) rfl (by rw [ex47]; exact nI_add _ _) (by decide) rfl (fun ls hl => ?_)
              refine lv_goto (tgt := 4) hx hb dX3_coveredByFirst_50 (by decide) ?_
              exact ih4 t1 x47 (by omega) (by rw [← g2, show 23 - b = 0 by omega, cbQ, show 23 - x47 = 22 - a by omega]) (by omega) ls (lv_sub hl [0, 2, 3, 4] rfl)
            · skip
              refine lv_iload_n hx hb dX3_coveredByFirst_22 rfl (lv_at hl 2 rfl) ?_
              refine lv_aload_n hx hb dX3_coveredByFirst_23 rfl (lv_at hl 3 rfl) ?_
              refine lv_iload_n hx hb dX3_coveredByFirst_24 rfl (lv_at hl 1 rfl) ?_
              refine lv_iload hx hb dX3_coveredByFirst_25 (lv_at hl 0 rfl) ?_
              refine lv_iload_n hx hb dX3_coveredByFirst_27 rfl (lv_at hl 4 rfl) ?_
              refine ro_V 2 0 (rest := [.int (nI t1)]) ⟨hx, hb, hml, hown, hts⟩ (c_X3_joined l G m0 n0 f0 s0 b0 B hn0 hBb a b d (by omega) (by omega) (by omega)) (cwV 3 hts gX3_coveredByFirst_X3_joined rfl rfl rfl (by decide +kernel) ⟨Nat.le_of_ble_eq_true rfl, Nat.le_of_ble_eq_true rfl⟩) hE (hP.sub [0, 1] rfl) rfl rfl rfl hl.1 rfl (Nat.le_of_ble_eq_true rfl) dX3_coveredByFirst_28 ⟨Nat.zero_le _, Nat.zero_le _⟩ ?_
              refine lv_iload hx hb dX3_coveredByFirst_31 (lv_at hl 0 rfl) ?_
              refine lv_iconst (v := nI 1) hx hb dX3_coveredByFirst_33 (by decide) ?_
              refine j_add hx hb dX3_coveredByFirst_34 ?_
              refine j_ushr hx hb dX3_coveredByFirst_35 ?_ (ha := Nat.lt_trans (jonL_lt hBb _ hd) (by decide)) (h := by omega)
              refine ro_S (rest := [.int (nI t1)]) ⟨hx, hb, hml, hown, hts⟩ (c_J6_bitCount_0f7a4 l G ((jonL B (pr a b) d) >>> (b + 1)) (bd_shr (Nat.lt_trans (jonL_lt hBb _ hd) (by decide)))) (va_cwS 1 hts gX3_coveredByFirst_J6_bitCount_0f7a4 rfl rfl rfl (by decide +kernel) ⟨Nat.le_of_ble_eq_true rfl, Nat.le_of_ble_eq_true rfl⟩) hE (hP.sub [] rfl) rfl hl.1 rfl (Nat.le_of_ble_eq_true rfl) dX3_coveredByFirst_36 ⟨Nat.zero_le _, Nat.zero_le _⟩ ?_
              refine j_add hx hb dX3_coveredByFirst_39 ?_
              refine j_top (fun x40 ex40 => ?_)
              refine lv_istore_n (lv' := [(2, .int (nI x40)), (4, .int (nI b)), (3, .int (nI a)), (0, .ref m0), (1, .int (nI d))]) hx hb dX3_coveredByFirst_40 rfl hl (by decide) rfl (fun ls hl => ?_)
              obtain ⟨x41, ex41⟩ : ∃ y : Nat, y = b + 1 := ⟨_, rfl⟩
              refine lv_iinc (v := nI x41) (lv' := [(4, .int (nI x41)), (2, .int (nI x40)), (3, .int (nI a)), (0, .ref m0), (1, .int (nI d))]) hx hb dX3_coveredByFirst_41 hl (k := 1) rfl (by rw [ex41]; exact nI_add _ _) (by decide) rfl (fun ls hl => ?_)
              refine lv_goto (tgt := 15) hx hb dX3_coveredByFirst_44 (by decide) ?_
              exact ih15 x40 x41 (by omega) (by rw [← g2, show 23 - b = (23 - x41) + 1 by omega, cbQ, show 22 - (23 - x41) = b by omega, ex40]) (by omega) ls (lv_sub hl [0, 2, 1, 3, 4] rfl)
        exact loop15 _ t x13 (by omega) (by rw [← h2, show 23 - a = (22 - a) + 1 by omega, cbP, show 22 - (22 - a) = a by omega, show 23 - x13 = 22 - a by omega]) (Nat.lt_succ_self _) ls (lv_sub hl [0, 1, 2, 3, 4] rfl)
  exact loop4 _ 0 0 (by omega) rfl (Nat.lt_succ_self _) ls (lv_sub hl [0, 1, 2, 3] rfl)
set_option maxHeartbeats 4000000 in
set_option maxRecDepth 100000 in
/-- Moves.firstNotCovered -/
theorem c_X3_firstNotCovered (l : Launch) (G : EG) (m0 : Nat) (n0 : Nat) (f0 : Nat) (s0 : Nat) (b0 : Nat) (B : Nat → Nat) (hn0 : n0 ≤ 8) (hBb : ∀ i, i < n0 → B i < 8388608) : RO l yX3_firstNotCovered wsX3_firstNotCovered (rmR 1 26) G [(m0, .inr (2, [.int (nI n0), .ref f0, .ref s0, .ref b0])), (b0, aI G 8 B)] [.ref m0] (.int (fnP B n0 23 (-6))) := by
  refine RO.start (by decide) rfl (Nat.le_of_ble_eq_true rfl) ?_
  intro p e s m below meth c hx hb hr hml hts hown hlocks hP hE ls hl
  have hown : s.vm.findClass RX3 = some m.cls := hown
  have hl : lv_has ls 5 [(0, .ref m0)] := hl
  refine lv_iconst (v := nI 0) hx hb dX3_firstNotCovered_0 (by decide) ?_
  refine lv_istore_n (lv' := [(1, .int (nI 0)), (0, .ref m0)]) hx hb dX3_firstNotCovered_1 rfl hl (by decide) rfl (fun ls hl => ?_)
  have loop2 : ∀ (fuel : Nat) (a : Nat), (a ≤ 23) → (fnP B n0 (23 - a) (-6) = fnP B n0 23 (-6)) → 23 - a < fuel → ∀ ls : Array Slot, lv_has ls 5 [(1, .int (nI a)), (0, .ref m0)] → W p l e (rmR 1 26) s m ([.ref m0] : List Value).toArray below meth c s.heap [] 0 0 (MQ below (k2_QcV (.int (fnP B n0 23 (-6)))) ([.ref m0] : List Value).toArray s 0 0 (fun _ => False)) (F0 m 2 ls []) := by
    intro fuel
    induction fuel with
    | zero => intro a h1 h2 hf; exact absurd hf (Nat.not_lt_zero _)
    | succ fuel ih2 =>
      intro a h1 h2 hf ls hl
      refine lv_iload_n hx hb dX3_firstNotCovered_2 rfl (lv_at hl 0 rfl) ?_
      refine lv_bipush (v := nI 23) hx hb dX3_firstNotCovered_3 (by decide) ?_
      refine j_icmp_ge (tgt := 81) hx hb dX3_firstNotCovered_5 (by decide) (fun c5 => ?_) (fun c5 => ?_)
      · skip
        refine lv_bipush (v := (-6)) hx hb dX3_firstNotCovered_81 (by decide) ?_
        exact ro_ret hx hb hr hlocks dX3_firstNotCovered_83 (by rw [← h2, show 23 - a = 0 by omega, fnP])
      · skip
        refine lv_iload_n hx hb dX3_firstNotCovered_8 rfl (lv_at hl 0 rfl) ?_
        refine lv_iconst (v := nI 1) hx hb dX3_firstNotCovered_9 (by decide) ?_
        refine j_add hx hb dX3_firstNotCovered_10 ?_
        refine j_top (fun x11 ex11 => ?_)
        refine lv_istore_n (lv' := [(2, .int (nI x11)), (1, .int (nI a)), (0, .ref m0)]) hx hb dX3_firstNotCovered_11 rfl hl (by decide) rfl (fun ls hl => ?_)
        have loop12 : ∀ (fuel : Nat) (b : Nat), (b ≤ 23) → (fnQ B n0 a (23 - b) (fnP B n0 (22 - a) (-6)) = fnP B n0 23 (-6)) → 23 - b < fuel → ∀ ls : Array Slot, lv_has ls 5 [(2, .int (nI b)), (1, .int (nI a)), (0, .ref m0)] → W p l e (rmR 1 26) s m ([.ref m0] : List Value).toArray below meth c s.heap [] 0 0 (MQ below (k2_QcV (.int (fnP B n0 23 (-6)))) ([.ref m0] : List Value).toArray s 0 0 (fun _ => False)) (F0 m 12 ls []) := by
          intro fuel
          induction fuel with
          | zero => intro b g1 g2 hf; exact absurd hf (Nat.not_lt_zero _)
          | succ fuel ih12 =>
            intro b g1 g2 hf ls hl
            refine lv_iload_n hx hb dX3_firstNotCovered_12 rfl (lv_at hl 0 rfl) ?_
            refine lv_bipush (v := nI 23) hx hb dX3_firstNotCovered_13 (by decide) ?_
            refine j_icmp_ge (tgt := 75) hx hb dX3_firstNotCovered_15 (by decide) (fun c15 => ?_) (fun c15 => ?_)
            · skip
              obtain ⟨x75, ex75⟩ : ∃ y : Nat, y = a + 1 := ⟨_, rfl⟩
              refine lv_iinc (v := nI x75) (lv' := [(1, .int (nI x75)), (2, .int (nI b)), (0, .ref m0)]) hx hb dX3_firstNotCovered_75 hl (k := 1) rfl (by rw [ex75]; exact nI_add _ _) (by decide) rfl (fun ls hl => ?_)
              refine lv_goto (tgt := 2) hx hb dX3_firstNotCovered_78 (by decide) ?_
              exact ih2 x75 (by omega) (by rw [← g2, show 23 - b = 0 by omega, fnQ, show 23 - x75 = 22 - a by omega]) (by omega) ls (lv_sub hl [0, 2] rfl)
            · skip
              refine lv_aload_n hx hb dX3_firstNotCovered_18 rfl (lv_at hl 2 rfl) ?_
              refine lv_iload_n hx hb dX3_firstNotCovered_19 rfl (lv_at hl 1 rfl) ?_
              refine lv_iload_n hx hb dX3_firstNotCovered_20 rfl (lv_at hl 0 rfl) ?_
              refine lv_aload_n hx hb dX3_firstNotCovered_21 rfl (lv_at hl 2 rfl) ?_
              refine va_get (D := G.1) (ci := 2) (v := .int (nI n0)) (C := RX3) (T := TX3) (N := 4) hx hb hts (fun w h => List.mem_cons_of_mem _ (List.mem_append_right _ h)) hown hE.1 hP 0 rfl rfl 0 (by decide) (hts (.fieldLink RX3 9 "TripleTrap$Moves" "size" "I") (List.mem_of_getElem? (i := 1) rfl)) (fun _ h9 => h9) rfl dX3_firstNotCovered_22 ?_
              refine ro_V 2 0 (rest := []) ⟨hx, hb, hml, hown, hts⟩ (c_X3_joined l G m0 n0 f0 s0 b0 B hn0 hBb a b n0 (by omega) (by omega) (by omega)) (cwV 3 hts gX3_firstNotCovered_X3_joined rfl rfl rfl (by decide +kernel) ⟨Nat.le_of_ble_eq_true rfl, Nat.le_of_ble_eq_true rfl⟩) hE (hP.sub [0, 1] rfl) rfl rfl rfl hl.1 rfl (Nat.le_of_ble_eq_true rfl) dX3_firstNotCovered_25 ⟨Nat.zero_le _, Nat.zero_le _⟩ ?_
              refine j_top (fun x28 ex28 => ?_)
              refine lv_istore_n (lv' := [(3, .int (nI x28)), (2, .int (nI b)), (1, .int (nI a)), (0, .ref m0)]) hx hb dX3_firstNotCovered_28 rfl hl (by decide) rfl (fun ls hl => ?_)
              refine lv_iload_n hx hb dX3_firstNotCovered_29 rfl (lv_at hl 1 rfl) ?_
              refine lv_iconst (v := nI 1) hx hb dX3_firstNotCovered_30 (by decide) ?_
              refine j_add hx hb dX3_firstNotCovered_31 ?_
              refine j_top (fun x32 ex32 => ?_)
              refine lv_istore (lv' := [(4, .int (nI x32)), (3, .int (nI x28)), (2, .int (nI b)), (1, .int (nI a)), (0, .ref m0)]) hx hb dX3_firstNotCovered_32 hl (by decide) rfl (fun ls hl => ?_)
              have loop34 : ∀ (fuel : Nat) (d : Nat), (d ≤ 23) → (fnR x28 a b (23 - d) (fnQ B n0 a (22 - b) (fnP B n0 (22 - a) (-6))) = fnP B n0 23 (-6)) → 23 - d < fuel → ∀ ls : Array Slot, lv_has ls 5 [(4, .int (nI d)), (3, .int (nI x28)), (2, .int (nI b)), (1, .int (nI a)), (0, .ref m0)] → W p l e (rmR 1 26) s m ([.ref m0] : List Value).toArray below meth c s.heap [] 0 0 (MQ below (k2_QcV (.int (fnP B n0 23 (-6)))) ([.ref m0] : List Value).toArray s 0 0 (fun _ => False)) (F0 m 34 ls []) := by
                intro fuel
                induction fuel with
                | zero => intro d k1 k2 hf; exact absurd hf (Nat.not_lt_zero _)
                | succ fuel ih34 =>
                  intro d k1 k2 hf ls hl
                  refine lv_iload hx hb dX3_firstNotCovered_34 (lv_at hl 0 rfl) ?_
                  refine lv_bipush (v := nI 23) hx hb dX3_firstNotCovered_36 (by decide) ?_
                  refine j_icmp_ge (tgt := 69) hx hb dX3_firstNotCovered_38 (by decide) (fun c38 => ?_) (fun c38 => ?_)
                  · skip
                    obtain ⟨x69, ex69⟩ : ∃ y : Nat, y = b + 1 := ⟨_, rfl⟩
                    refine lv_iinc (v := nI x69) (lv' := [(2, .int (nI x69)), (4, .int (nI d)), (3, .int (nI x28)), (1, .int (nI a)), (0, .ref m0)]) hx hb dX3_firstNotCovered_69 hl (k := 2) rfl (by rw [ex69]; exact nI_add _ _) (by decide) rfl (fun ls hl => ?_)
                    refine lv_goto (tgt := 12) hx hb dX3_firstNotCovered_72 (by decide) ?_
                    exact ih12 x69 (by omega) (by rw [← k2, show 23 - d = 0 by omega, fnR, show 23 - x69 = 22 - b by omega]) (by omega) ls (lv_sub hl [0, 3, 4] rfl)
                  · skip
                    refine lv_iload_n hx hb dX3_firstNotCovered_41 rfl (lv_at hl 1 rfl) ?_
                    refine lv_iload hx hb dX3_firstNotCovered_42 (lv_at hl 0 rfl) ?_
                    refine j_ushr hx hb dX3_firstNotCovered_44 ?_ (ha := by rw [ex28]; exact Nat.lt_trans (jonL_lt hBb _ (Nat.le_refl _)) (by decide)) (h := by omega)
                    refine lv_iconst (v := nI 1) hx hb dX3_firstNotCovered_45 (by decide) ?_
                    refine j_and hx hb dX3_firstNotCovered_46 ?_
                    refine j_if_ne (tgt := 63) hx hb dX3_firstNotCovered_47 (by decide) (fun c47 => ?_) (fun c47 => ?_) (h1 := bd_and (by decide))
                    · skip
                      obtain ⟨x63, ex63⟩ : ∃ y : Nat, y = d + 1 := ⟨_, rfl⟩
                      refine lv_iinc (v := nI x63) (lv' := [(4, .int (nI x63)), (3, .int (nI x28)), (2, .int (nI b)), (1, .int (nI a)), (0, .ref m0)]) hx hb dX3_firstNotCovered_63 hl (k := 0) rfl (by rw [ex63]; exact nI_add _ _) (by decide) rfl (fun ls hl => ?_)
                      refine lv_goto (tgt := 34) hx hb dX3_firstNotCovered_66 (by decide) ?_
                      exact ih34 x63 (by omega) (by rw [← k2, show 23 - d = (23 - x63) + 1 by omega, fnR, show 22 - (23 - x63) = d by omega, if_neg c47]) (by omega) ls (lv_sub hl [0, 1, 2, 3, 4] rfl)
                    · skip
                      refine lv_iload_n hx hb dX3_firstNotCovered_50 rfl (lv_at hl 3 rfl) ?_
                      refine lv_bipush (v := nI 23) hx hb dX3_firstNotCovered_51 (by decide) ?_
                      refine j_mul hx hb dX3_firstNotCovered_53 ?_
                      refine lv_iload_n hx hb dX3_firstNotCovered_54 rfl (lv_at hl 2 rfl) ?_
                      refine j_add hx hb dX3_firstNotCovered_55 ?_
                      refine lv_bipush (v := nI 23) hx hb dX3_firstNotCovered_56 (by decide) ?_
                      refine j_mul hx hb dX3_firstNotCovered_58 ?_
                      refine lv_iload hx hb dX3_firstNotCovered_59 (lv_at hl 0 rfl) ?_
                      refine j_add hx hb dX3_firstNotCovered_61 ?_
                      exact ro_ret hx hb hr hlocks dX3_firstNotCovered_62 (by rw [← k2, show 23 - d = (22 - d) + 1 by omega, fnR, show 22 - (22 - d) = d by omega, if_pos c47])
              exact loop34 _ x32 (by omega) (by rw [← g2, show 23 - b = (22 - b) + 1 by omega, fnQ, show 22 - (22 - b) = b by omega, show 23 - x32 = 22 - b by omega, ex28]) (Nat.lt_succ_self _) ls (lv_sub hl [0, 1, 2, 3, 4] rfl)
        exact loop12 _ x11 (by omega) (by rw [← h2, show 23 - a = (22 - a) + 1 by omega, fnP, show 22 - (22 - a) = a by omega, show 23 - x11 = 22 - a by omega]) (Nat.lt_succ_self _) ls (lv_sub hl [0, 1, 2] rfl)
  exact loop2 _ 0 (by omega) rfl (Nat.lt_succ_self _) ls (lv_sub hl [0, 1] rfl)
set_option maxHeartbeats 4000000 in
set_option maxRecDepth 100000 in
/-- Trust.sum -/
theorem c_X4_sum (l : Launch) (G : EG) (t0 : Nat) (l0 : Nat) (V : Nat → Nat) (v : Nat) (hv : v < 4294967296) : RO l yX4_sum wsX4_sum (rmR 0 0) G [(t0, .inr (3, [.ref l0])), (l0, aI G 23 V)] [.ref t0, .int (nI v)] (.int (nI (smL V v 23))) := by
  refine RO.start (by decide) rfl (Nat.le_of_ble_eq_true rfl) ?_
  intro p e s m below meth c hx hb hr hml hts hown hlocks hP hE ls hl
  have hown : s.vm.findClass RX4 = some m.cls := hown
  have hl : lv_has ls 4 [(0, .ref t0), (1, .int (nI v))] := hl
  refine lv_iconst (v := nI 0) hx hb dX4_sum_0 (by decide) ?_
  refine lv_istore_n (lv' := [(2, .int (nI 0)), (0, .ref t0), (1, .int (nI v))]) hx hb dX4_sum_1 rfl hl (by decide) rfl (fun ls hl => ?_)
  refine lv_iconst (v := nI 0) hx hb dX4_sum_2 (by decide) ?_
  refine lv_istore_n (lv' := [(3, .int (nI 0)), (2, .int (nI 0)), (0, .ref t0), (1, .int (nI v))]) hx hb dX4_sum_3 rfl hl (by decide) rfl (fun ls hl => ?_)
  have loop4 : ∀ (fuel : Nat) (t : Nat) (q : Nat), (q ≤ 23) → (t = smL V v q) → 23 - q < fuel → ∀ ls : Array Slot, lv_has ls 4 [(3, .int (nI q)), (2, .int (nI t)), (0, .ref t0), (1, .int (nI v))] → W p l e (rmR 0 0) s m ([.ref t0, .int (nI v)] : List Value).toArray below meth c s.heap [] 0 0 (MQ below (k2_QcV (.int (nI (smL V v 23)))) ([.ref t0, .int (nI v)] : List Value).toArray s 0 0 (fun _ => False)) (F0 m 4 ls []) := by
    intro fuel
    induction fuel with
    | zero => intro t q h1 h2 hf; exact absurd hf (Nat.not_lt_zero _)
    | succ fuel ih4 =>
      intro t q h1 h2 hf ls hl
      refine lv_iload_n hx hb dX4_sum_4 rfl (lv_at hl 0 rfl) ?_
      refine lv_bipush (v := nI 23) hx hb dX4_sum_5 (by decide) ?_
      refine j_icmp_ge (tgt := 34) hx hb dX4_sum_7 (by decide) (fun c7 => ?_) (fun c7 => ?_)
      · skip
        refine lv_iload_n hx hb dX4_sum_34 rfl (lv_at hl 1 rfl) ?_
        exact ro_ret hx hb hr hlocks dX4_sum_35 (by rw [h2, show q = 23 by omega])
      · skip
        refine lv_iload_n hx hb dX4_sum_10 rfl (lv_at hl 3 rfl) ?_
        refine lv_iload_n hx hb dX4_sum_11 rfl (lv_at hl 0 rfl) ?_
        refine j_ushr hx hb dX4_sum_12 ?_
        refine lv_iconst (v := nI 1) hx hb dX4_sum_13 (by decide) ?_
        refine j_and hx hb dX4_sum_14 ?_
        refine lv_iconst (v := nI 1) hx hb dX4_sum_15 (by decide) ?_
        refine j_icmp_ne (tgt := 28) hx hb dX4_sum_16 (by decide) (fun c16 => ?_) (fun c16 => ?_) (h1 := bd_and (by decide)) (h2 := by decide)
        · skip
          obtain ⟨x28, ex28⟩ : ∃ y : Nat, y = q + 1 := ⟨_, rfl⟩
          refine lv_iinc (v := nI x28) (lv' := [(3, .int (nI x28)), (2, .int (nI t)), (0, .ref t0), (1, .int (nI v))]) hx hb dX4_sum_28 hl (k := 0) rfl (by rw [ex28]; exact nI_add _ _) (by decide) rfl (fun ls hl => ?_)
          refine lv_goto (tgt := 4) hx hb dX4_sum_31 (by decide) ?_
          exact ih4 t x28 (by omega) (by rw [ex28, smL, if_neg c16]; exact h2) (by omega) ls (lv_sub hl [0, 1, 2, 3] rfl)
        · skip
          refine lv_iload_n hx hb dX4_sum_19 rfl (lv_at hl 1 rfl) ?_
          refine lv_aload_n hx hb dX4_sum_20 rfl (lv_at hl 2 rfl) ?_
          refine va_get (D := G.1) (ci := 3) (v := .ref l0) (C := RX4) (T := TX4) (N := 1) hx hb hts (fun w h => List.mem_cons_of_mem _ (List.mem_append_right _ h)) hown hE.1 hP 0 rfl rfl 0 (by decide) (hts (.fieldLink RX4 9 "TripleTrap$Trust" "levels" "[I") (List.mem_of_getElem? (i := 1) rfl)) (fun _ h9 => h9) rfl dX4_sum_21 ?_
          refine lv_iload_n hx hb dX4_sum_24 rfl (lv_at hl 0 rfl) ?_
          refine j_iald hx hb hE hP 1 rfl dX4_sum_25 ?_
          refine j_add hx hb dX4_sum_26 ?_
          refine j_top (fun x27 ex27 => ?_)
          refine lv_istore_n (lv' := [(2, .int (nI x27)), (3, .int (nI q)), (0, .ref t0), (1, .int (nI v))]) hx hb dX4_sum_27 rfl hl (by decide) rfl (fun ls hl => ?_)
          obtain ⟨x28, ex28⟩ : ∃ y : Nat, y = q + 1 := ⟨_, rfl⟩
          refine lv_iinc (v := nI x28) (lv' := [(3, .int (nI x28)), (2, .int (nI x27)), (0, .ref t0), (1, .int (nI v))]) hx hb dX4_sum_28 hl (k := 1) rfl (by rw [ex28]; exact nI_add _ _) (by decide) rfl (fun ls hl => ?_)
          refine lv_goto (tgt := 4) hx hb dX4_sum_31 (by decide) ?_
          exact ih4 x27 x28 (by omega) (by rw [ex27, ex28, smL, if_pos c16, ← h2]) (by omega) ls (lv_sub hl [0, 1, 2, 3] rfl)
  exact loop4 _ 0 0 (by omega) rfl (Nat.lt_succ_self _) ls (lv_sub hl [0, 1, 2, 3] rfl)
set_option maxHeartbeats 4000000 in
set_option maxRecDepth 100000 in
/-- Trust.weakestBut -/
theorem c_X4_weakestBut (l : Launch) (G : EG) (t0 : Nat) (l0 : Nat) (V : Nat → Nat) (hVb : ∀ q, q < 23 → V q ≤ 9) (v : Nat) (hv : v < 4294967296) : RO l yX4_weakestBut wsX4_weakestBut (rmR 0 0) G [(t0, .inr (3, [.ref l0])), (l0, aI G 23 V)] [.ref t0, .int (nI v)] (.int (nI (wbN V v))) := by
  refine RO.start (by decide) rfl (Nat.le_of_ble_eq_true rfl) ?_
  intro p e s m below meth c hx hb hr hml hts hown hlocks hP hE ls hl
  have hown : s.vm.findClass RX4 = some m.cls := hown
  have hl : lv_has ls 5 [(0, .ref t0), (1, .int (nI v))] := hl
  refine lv_iconst (v := nI 0) hx hb dX4_weakestBut_0 (by decide) ?_
  refine lv_istore_n (lv' := [(2, .int (nI 0)), (0, .ref t0), (1, .int (nI v))]) hx hb dX4_weakestBut_1 rfl hl (by decide) rfl (fun ls hl => ?_)
  refine lv_bipush (v := nI 10) hx hb dX4_weakestBut_2 (by decide) ?_
  refine lv_istore_n (lv' := [(3, .int (nI 10)), (2, .int (nI 0)), (0, .ref t0), (1, .int (nI v))]) hx hb dX4_weakestBut_4 rfl hl (by decide) rfl (fun ls hl => ?_)
  refine lv_iconst (v := nI 0) hx hb dX4_weakestBut_5 (by decide) ?_
  refine lv_istore (lv' := [(4, .int (nI 0)), (3, .int (nI 10)), (2, .int (nI 0)), (0, .ref t0), (1, .int (nI v))]) hx hb dX4_weakestBut_6 hl (by decide) rfl (fun ls hl => ?_)
  have loop8 : ∀ (fuel : Nat) (u : Nat) (t : Nat) (q : Nat), (q ≤ 23) → (t ≤ 10) → ((u, t) = wbL V v q) → 23 - q < fuel → ∀ ls : Array Slot, lv_has ls 5 [(4, .int (nI q)), (3, .int (nI t)), (2, .int (nI u)), (0, .ref t0), (1, .int (nI v))] → W p l e (rmR 0 0) s m ([.ref t0, .int (nI v)] : List Value).toArray below meth c s.heap [] 0 0 (MQ below (k2_QcV (.int (nI (wbN V v)))) ([.ref t0, .int (nI v)] : List Value).toArray s 0 0 (fun _ => False)) (F0 m 8 ls []) := by
    intro fuel
    induction fuel with
    | zero => intro u t q h1 h2 h3 hf; exact absurd hf (Nat.not_lt_zero _)
    | succ fuel ih8 =>
      intro u t q h1 h2 h3 hf ls hl
      refine lv_iload hx hb dX4_weakestBut_8 (lv_at hl 0 rfl) ?_
      refine lv_bipush (v := nI 23) hx hb dX4_weakestBut_10 (by decide) ?_
      refine j_icmp_ge (tgt := 52) hx hb dX4_weakestBut_12 (by decide) (fun c12 => ?_) (fun c12 => ?_)
      · skip
        refine lv_iload_n hx hb dX4_weakestBut_52 rfl (lv_at hl 2 rfl) ?_
        exact ro_ret hx hb hr hlocks dX4_weakestBut_53 (by rw [wbN, show 23 = q by omega, ← h3])
      · skip
        refine lv_iload_n hx hb dX4_weakestBut_15 rfl (lv_at hl 4 rfl) ?_
        refine lv_iload hx hb dX4_weakestBut_16 (lv_at hl 0 rfl) ?_
        refine j_ushr hx hb dX4_weakestBut_18 ?_
        refine lv_iconst (v := nI 1) hx hb dX4_weakestBut_19 (by decide) ?_
        refine j_and hx hb dX4_weakestBut_20 ?_
        refine j_if_ne (tgt := 46) hx hb dX4_weakestBut_21 (by decide) (fun c21 => ?_) (fun c21 => ?_) (h1 := bd_and (by decide))
        · skip
          obtain ⟨x46, ex46⟩ : ∃ y : Nat, y = q + 1 := ⟨_, rfl⟩
          refine lv_iinc (v := nI x46) (lv' := [(4, .int (nI x46)), (3, .int (nI t)), (2, .int (nI u)), (0, .ref t0), (1, .int (nI v))]) hx hb dX4_weakestBut_46 hl (k := 0) rfl (by rw [ex46]; exact nI_add _ _) (by decide) rfl (fun ls hl => ?_)
          refine lv_goto (tgt := 8) hx hb dX4_weakestBut_49 (by decide) ?_
          exact ih8 u t x46 (by omega) h2 (by rw [ex46]; exact wb_f1 h3 c21) (by omega) ls (lv_sub hl [0, 1, 2, 3, 4] rfl)
        · skip
          refine lv_aload_n hx hb dX4_weakestBut_24 rfl (lv_at hl 3 rfl) ?_
          refine va_get (D := G.1) (ci := 3) (v := .ref l0) (C := RX4) (T := TX4) (N := 1) hx hb hts (fun w h => List.mem_cons_of_mem _ (List.mem_append_right _ h)) hown hE.1 hP 0 rfl rfl 0 (by decide) (hts (.fieldLink RX4 9 "TripleTrap$Trust" "levels" "[I") (List.mem_of_getElem? (i := 1) rfl)) (fun _ h9 => h9) rfl dX4_weakestBut_25 ?_
          refine lv_iload hx hb dX4_weakestBut_28 (lv_at hl 0 rfl) ?_
          refine j_iald hx hb hE hP 1 rfl dX4_weakestBut_30 ?_
          refine lv_iload_n hx hb dX4_weakestBut_31 rfl (lv_at hl 1 rfl) ?_
          refine j_icmp_ge (tgt := 46) hx hb dX4_weakestBut_32 (by decide) (fun c32 => ?_) (fun c32 => ?_) (h1 := by have := hVb q (by omega); omega) (h2 := by omega)
          · skip
            obtain ⟨x46, ex46⟩ : ∃ y : Nat, y = q + 1 := ⟨_, rfl⟩
            refine lv_iinc (v := nI x46) (lv' := [(4, .int (nI x46)), (3, .int (nI t)), (2, .int (nI u)), (0, .ref t0), (1, .int (nI v))]) hx hb dX4_weakestBut_46 hl (k := 0) rfl (by rw [ex46]; exact nI_add _ _) (by decide) rfl (fun ls hl => ?_)
            refine lv_goto (tgt := 8) hx hb dX4_weakestBut_49 (by decide) ?_
            exact ih8 u t x46 (by omega) h2 (by rw [ex46]; exact wb_f2 h3 c32) (by omega) ls (lv_sub hl [0, 1, 2, 3, 4] rfl)
          · skip
            refine lv_aload_n hx hb dX4_weakestBut_35 rfl (lv_at hl 3 rfl) ?_
            refine va_get (D := G.1) (ci := 3) (v := .ref l0) (C := RX4) (T := TX4) (N := 1) hx hb hts (fun w h => List.mem_cons_of_mem _ (List.mem_append_right _ h)) hown hE.1 hP 0 rfl rfl 0 (by decide) (hts (.fieldLink RX4 9 "TripleTrap$Trust" "levels" "[I") (List.mem_of_getElem? (i := 1) rfl)) (fun _ h9 => h9) rfl dX4_weakestBut_36 ?_
            refine lv_iload hx hb dX4_weakestBut_39 (lv_at hl 0 rfl) ?_
            refine j_iald hx hb hE hP 1 rfl dX4_weakestBut_41 ?_
            refine j_top (fun x42 ex42 => ?_)
            refine lv_istore_n (lv' := [(3, .int (nI x42)), (4, .int (nI q)), (2, .int (nI u)), (0, .ref t0), (1, .int (nI v))]) hx hb dX4_weakestBut_42 rfl hl (by decide) rfl (fun ls hl => ?_)
            refine lv_iload hx hb dX4_weakestBut_43 (lv_at hl 1 rfl) ?_
            refine lv_istore_n (lv' := [(2, .int (nI q)), (3, .int (nI x42)), (4, .int (nI q)), (0, .ref t0), (1, .int (nI v))]) hx hb dX4_weakestBut_45 rfl hl (by decide) rfl (fun ls hl => ?_)
            obtain ⟨x46, ex46⟩ : ∃ y : Nat, y = q + 1 := ⟨_, rfl⟩
            refine lv_iinc (v := nI x46) (lv' := [(4, .int (nI x46)), (2, .int (nI q)), (3, .int (nI x42)), (0, .ref t0), (1, .int (nI v))]) hx hb dX4_weakestBut_46 hl (k := 2) rfl (by rw [ex46]; exact nI_add _ _) (by decide) rfl (fun ls hl => ?_)
            refine lv_goto (tgt := 8) hx hb dX4_weakestBut_49 (by decide) ?_
            exact ih8 q x42 x46 (by omega) (by rw [ex42]; have := hVb q (by omega); omega) (by rw [ex46, ex42]; exact wb_t h3 c21 c32) (by omega) ls (lv_sub hl [0, 2, 1, 3, 4] rfl)
  exact loop8 _ 0 10 0 (by omega) (by omega) rfl (Nat.lt_succ_self _) ls (lv_sub hl [0, 1, 2, 3, 4] rfl)
