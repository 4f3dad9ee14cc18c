set_option maxHeartbeats 4000000 in
set_option maxRecDepth 100000 in
/-- in -/
theorem c_X6_in (l : Launch) (G : EG) (x : Int32) (lo : Int32) (hi : Int32) : RO l yX6_in wsX6_in (rmR 0 0) G [] [.int x, .int lo, .int hi] (.int (nI (inI x lo hi).toNat)) := by
  refine RO.start (by decide) rfl (Nat.le_of_ble_eq_true rfl) ?_
  intro p e s m below meth c hx hb hr hml hts hown hlocks hP hE ls hl
  have hown : s.vm.findClass RX6 = some m.cls := hown
  have hl : lv_has ls 3 [(0, .int x), (1, .int lo), (2, .int hi)] := hl
  refine lv_iload_n hx hb dX6_in_0 rfl (lv_at hl 0 rfl) ?_
  refine lv_iload_n hx hb dX6_in_1 rfl (lv_at hl 1 rfl) ?_
  refine lv_icmp_lt (tgt := 14) hx hb dX6_in_2 (by decide) (fun c2 => ?_) (fun c2 => ?_)
  · skip
    refine lv_iconst (v := nI 0) hx hb dX6_in_14 (by decide) ?_
    exact ro_zret hx hb hr hlocks dX6_in_15 (by rw [inI_f1 c2]; rfl) rfl
  · skip
    refine lv_iload_n hx hb dX6_in_5 rfl (lv_at hl 0 rfl) ?_
    refine lv_iload_n hx hb dX6_in_6 rfl (lv_at hl 2 rfl) ?_
    refine lv_icmp_gt (tgt := 14) hx hb dX6_in_7 (by decide) (fun c7 => ?_) (fun c7 => ?_)
    · skip
      refine lv_iconst (v := nI 0) hx hb dX6_in_14 (by decide) ?_
      exact ro_zret hx hb hr hlocks dX6_in_15 (by rw [inI_f2 c7]; rfl) rfl
    · skip
      refine lv_iconst (v := nI 1) hx hb dX6_in_10 (by decide) ?_
      refine lv_goto (tgt := 15) hx hb dX6_in_11 (by decide) ?_
      exact ro_zret hx hb hr hlocks dX6_in_15 (by rw [inI_t c2 c7]; rfl) rfl
set_option maxHeartbeats 4000000 in
set_option maxRecDepth 100000 in
/-- X6_isWord -/
theorem c_X6_isWord (l : Launch) (G : EG) (x : Int32) : RO l yX6_isWord wsX6_isWord (rmR 1 22) G [] [.int x] (.int (nI (blw x 8388608).toNat)) := by
  refine RO.start (by decide) rfl (Nat.le_of_ble_eq_true rfl) ?_
  intro p e s m below meth c hx hb hr hml hts hown hlocks hP hE ls hl
  have hown : s.vm.findClass RX6 = some m.cls := hown
  have hl : lv_has ls 1 [(0, .int x)] := hl
  refine lv_iload_n hx hb dX6_isWord_0 rfl (lv_at hl 0 rfl) ?_
  refine lv_iconst (v := nI 0) hx hb dX6_isWord_1 (by decide) ?_
  refine lv_ldc (v := nI 8388607) hx hb hown (hts (.constant RX6 34 (nI 8388607)) (List.mem_of_getElem? (i := 1) rfl)) dX6_isWord_2 ?_
  refine ro_S (rest := []) ⟨hx, hb, hml, hown, hts⟩ (c_X6_in l G x (nI 0) (nI 8388607)) (va_cwS 3 hts gX6_isWord_X6_in rfl rfl rfl (by decide +kernel) ⟨Nat.le_of_ble_eq_true rfl, Nat.le_of_ble_eq_true rfl⟩) hE (hP.sub [] rfl) rfl hl.1 rfl (Nat.le_of_ble_eq_true rfl) dX6_isWord_4 ⟨Nat.zero_le _, Nat.zero_le _⟩ ?_
  refine j_bool (fun c4 => ?_) (fun c4 => ?_)
  · skip
    exact ro_zret hx hb hr hlocks dX6_isWord_7 (by rw [← inI_blw x (by decide) (by decide), show nI (8388608 - 1) = nI 8388607 from rfl, c4]; rfl) rfl
  · skip
    exact ro_zret hx hb hr hlocks dX6_isWord_7 (by rw [← inI_blw x (by decide) (by decide), show nI (8388608 - 1) = nI 8388607 from rfl, c4]; rfl) rfl
set_option maxHeartbeats 4000000 in
set_option maxRecDepth 100000 in
/-- X6_isMessage -/
theorem c_X6_isMessage (l : Launch) (G : EG) (x : Int32) : RO l yX6_isMessage wsX6_isMessage (rmR 1 22) G [] [.int x] (.int (nI (blw x 4096).toNat)) := by
  refine RO.start (by decide) rfl (Nat.le_of_ble_eq_true rfl) ?_
  intro p e s m below meth c hx hb hr hml hts hown hlocks hP hE ls hl
  have hown : s.vm.findClass RX6 = some m.cls := hown
  have hl : lv_has ls 1 [(0, .int x)] := hl
  refine lv_iload_n hx hb dX6_isMessage_0 rfl (lv_at hl 0 rfl) ?_
  refine lv_iconst (v := nI 0) hx hb dX6_isMessage_1 (by decide) ?_
  refine lv_sipush (v := nI 4095) hx hb dX6_isMessage_2 (by decide) ?_
  refine ro_S (rest := []) ⟨hx, hb, hml, hown, hts⟩ (c_X6_in l G x (nI 0) (nI 4095)) (va_cwS 3 hts gX6_isMessage_X6_in rfl rfl rfl (by decide +kernel) ⟨Nat.le_of_ble_eq_true rfl, Nat.le_of_ble_eq_true rfl⟩) hE (hP.sub [] rfl) rfl hl.1 rfl (Nat.le_of_ble_eq_true rfl) dX6_isMessage_5 ⟨Nat.zero_le _, Nat.zero_le _⟩ ?_
  refine j_bool (fun c5 => ?_) (fun c5 => ?_)
  · skip
    exact ro_zret hx hb hr hlocks dX6_isMessage_8 (by rw [← inI_blw x (by decide) (by decide), show nI (4096 - 1) = nI 4095 from rfl, c5]; rfl) rfl
  · skip
    exact ro_zret hx hb hr hlocks dX6_isMessage_8 (by rw [← inI_blw x (by decide) (by decide), show nI (4096 - 1) = nI 4095 from rfl, c5]; rfl) rfl
set_option maxHeartbeats 4000000 in
set_option maxRecDepth 100000 in
/-- X6_isPlace -/
theorem c_X6_isPlace (l : Launch) (G : EG) (x : Int32) : RO l yX6_isPlace wsX6_isPlace (rmR 1 22) G [] [.int x] (.int (nI (blw x 23).toNat)) := by
  refine RO.start (by decide) rfl (Nat.le_of_ble_eq_true rfl) ?_
  intro p e s m below meth c hx hb hr hml hts hown hlocks hP hE ls hl
  have hown : s.vm.findClass RX6 = some m.cls := hown
  have hl : lv_has ls 1 [(0, .int x)] := hl
  refine lv_iload_n hx hb dX6_isPlace_0 rfl (lv_at hl 0 rfl) ?_
  refine lv_iconst (v := nI 0) hx hb dX6_isPlace_1 (by decide) ?_
  refine lv_bipush (v := nI 22) hx hb dX6_isPlace_2 (by decide) ?_
  refine ro_S (rest := []) ⟨hx, hb, hml, hown, hts⟩ (c_X6_in l G x (nI 0) (nI 22)) (va_cwS 3 hts gX6_isPlace_X6_in rfl rfl rfl (by decide +kernel) ⟨Nat.le_of_ble_eq_true rfl, Nat.le_of_ble_eq_true rfl⟩) hE (hP.sub [] rfl) rfl hl.1 rfl (Nat.le_of_ble_eq_true rfl) dX6_isPlace_4 ⟨Nat.zero_le _, Nat.zero_le _⟩ ?_
  refine j_bool (fun c4 => ?_) (fun c4 => ?_)
  · skip
    exact ro_zret hx hb hr hlocks dX6_isPlace_7 (by rw [← inI_blw x (by decide) (by decide), show nI (23 - 1) = nI 22 from rfl, c4]; rfl) rfl
  · skip
    exact ro_zret hx hb hr hlocks dX6_isPlace_7 (by rw [← inI_blw x (by decide) (by decide), show nI (23 - 1) = nI 22 from rfl, c4]; rfl) rfl
set_option maxHeartbeats 4000000 in
set_option maxRecDepth 100000 in
/-- weight -/
theorem c_X6_weight (l : Launch) (G : EG) (v : Nat) (hv : v < 2147483648) : RO l yX6_weight wsX6_weight (rmR 0 0) G [] [.int (nI v)] (.int (nI (wtN v))) := by
  refine RO.start (by decide) rfl (Nat.le_of_ble_eq_true rfl) ?_
  intro p e s m below meth c hx hb hr hml hts hown hlocks hP hE ls hl
  have hown : s.vm.findClass RX6 = some m.cls := hown
  have hl : lv_has ls 3 [(0, .int (nI v))] := hl
  refine lv_iconst (v := nI 0) hx hb dX6_weight_0 (by decide) ?_
  refine lv_istore_n (lv' := [(1, .int (nI 0)), (0, .int (nI v))]) hx hb dX6_weight_1 rfl hl (by decide) rfl (fun ls hl => ?_)
  refine lv_iconst (v := nI 0) hx hb dX6_weight_2 (by decide) ?_
  refine lv_istore_n (lv' := [(2, .int (nI 0)), (1, .int (nI 0)), (0, .int (nI v))]) hx hb dX6_weight_3 rfl hl (by decide) rfl (fun ls hl => ?_)
  have loop4 : ∀ (fuel : Nat) (t : Nat) (k : Nat), (k ≤ 24) → (t = wtL v k) → 24 - k < fuel → ∀ ls : Array Slot, lv_has ls 3 [(2, .int (nI k)), (1, .int (nI t)), (0, .int (nI v))] → W p l e (rmR 0 0) s m ([.int (nI v)] : List Value).toArray below meth c s.heap [] 0 0 (MQ below (k2_QcV (.int (nI (wtN v)))) ([.int (nI v)] : List Value).toArray s 0 0 (fun _ => False)) (F0 m 4 ls []) := by
    intro fuel
    induction fuel with
    | zero => intro t k h1 h2 hf; exact absurd hf (Nat.not_lt_zero _)
    | succ fuel ih4 =>
      intro t k h1 h2 hf ls hl
      refine lv_iload_n hx hb dX6_weight_4 rfl (lv_at hl 0 rfl) ?_
      refine lv_bipush (v := nI 24) hx hb dX6_weight_5 (by decide) ?_
      refine j_icmp_ge (tgt := 24) hx hb dX6_weight_7 (by decide) (fun c7 => ?_) (fun c7 => ?_)
      · skip
        refine lv_iload_n hx hb dX6_weight_24 rfl (lv_at hl 1 rfl) ?_
        exact ro_ret hx hb hr hlocks dX6_weight_25 (by rw [h2, show k = 24 by omega]; rfl)
      · skip
        refine lv_iload_n hx hb dX6_weight_10 rfl (lv_at hl 1 rfl) ?_
        refine lv_iload_n hx hb dX6_weight_11 rfl (lv_at hl 2 rfl) ?_
        refine lv_iload_n hx hb dX6_weight_12 rfl (lv_at hl 0 rfl) ?_
        refine j_shr hx hb dX6_weight_13 ?_
        refine lv_iconst (v := nI 1) hx hb dX6_weight_14 (by decide) ?_
        refine j_and hx hb dX6_weight_15 ?_
        refine j_add hx hb dX6_weight_16 ?_
        refine j_top (fun x17 ex17 => ?_)
        refine lv_istore_n (lv' := [(1, .int (nI x17)), (2, .int (nI k)), (0, .int (nI v))]) hx hb dX6_weight_17 rfl hl (by decide) rfl (fun ls hl => ?_)
        obtain ⟨x18, ex18⟩ : ∃ y : Nat, y = k + 1 := ⟨_, rfl⟩
        refine lv_iinc (v := nI x18) (lv' := [(2, .int (nI x18)), (1, .int (nI x17)), (0, .int (nI v))]) hx hb dX6_weight_18 hl (k := 1) rfl (by rw [ex18]; exact nI_add _ _) (by decide) rfl (fun ls hl => ?_)
        refine lv_goto (tgt := 4) hx hb dX6_weight_21 (by decide) ?_
        exact ih4 x17 x18 (by omega) (by rw [ex17, ex18, h2]; rfl) (by omega) ls (lv_sub hl [0, 1, 2] rfl)
  exact loop4 _ 0 0 (by omega) rfl (Nat.lt_succ_self _) ls (lv_sub hl [0, 1, 2] rfl)
set_option maxHeartbeats 4000000 in
set_option maxRecDepth 100000 in
/-- restOf -/
theorem c_X6_restOf (l : Launch) (G : EG) (w : Nat) (hw : w < 16777216) : RO l yX6_restOf wsX6_restOf (rmR 0 0) G [] [.int (nI w)] (.int (nI (remN w))) := by
  refine RO.start (by decide) rfl (Nat.le_of_ble_eq_true rfl) ?_
  intro p e s m below meth c hx hb hr hml hts hown hlocks hP hE ls hl
  have hown : s.vm.findClass RX6 = some m.cls := hown
  have hl : lv_has ls 3 [(0, .int (nI w))] := hl
  refine lv_iload_n hx hb dX6_restOf_0 rfl (lv_at hl 0 rfl) ?_
  refine lv_istore_n (lv' := [(1, .int (nI w)), (0, .int (nI w))]) hx hb dX6_restOf_1 rfl hl (by decide) rfl (fun ls hl => ?_)
  refine lv_bipush (v := nI 22) hx hb dX6_restOf_2 (by decide) ?_
  refine lv_istore_n (lv' := [(2, .int (nI 22)), (1, .int (nI w)), (0, .int (nI w))]) hx hb dX6_restOf_4 rfl hl (by decide) rfl (fun ls hl => ?_)
  have loop5 : ∀ (fuel : Nat) (v : Nat) (q : Nat), (10 ≤ q) → (q ≤ 22) → (v < 16777216) → (remL (q - 10) v = remN w) → q < fuel → ∀ ls : Array Slot, lv_has ls 3 [(2, .int (nI q)), (1, .int (nI v)), (0, .int (nI w))] → W p l e (rmR 0 0) s m ([.int (nI w)] : List Value).toArray below meth c s.heap [] 0 0 (MQ below (k2_QcV (.int (nI (remN w)))) ([.int (nI w)] : List Value).toArray s 0 0 (fun _ => False)) (F0 m 5 ls []) := by
    intro fuel
    induction fuel with
    | zero => intro v q h1 h2 h3 h4 hf; exact absurd hf (Nat.not_lt_zero _)
    | succ fuel ih5 =>
      intro v q h1 h2 h3 h4 hf ls hl
      refine lv_iload_n hx hb dX6_restOf_5 rfl (lv_at hl 0 rfl) ?_
      refine lv_bipush (v := nI 11) hx hb dX6_restOf_6 (by decide) ?_
      refine j_icmp_lt (tgt := 41) hx hb dX6_restOf_8 (by decide) (fun c8 => ?_) (fun c8 => ?_)
      · skip
        refine lv_iload_n hx hb dX6_restOf_41 rfl (lv_at hl 1 rfl) ?_
        exact ro_ret hx hb hr hlocks dX6_restOf_42 (by rw [← h4, show q - 10 = 0 by omega]; rfl)
      · skip
        refine lv_iload_n hx hb dX6_restOf_11 rfl (lv_at hl 1 rfl) ?_
        refine lv_iload_n hx hb dX6_restOf_12 rfl (lv_at hl 1 rfl) ?_
        refine lv_iload_n hx hb dX6_restOf_13 rfl (lv_at hl 0 rfl) ?_
        refine j_shr hx hb dX6_restOf_14 ?_
        refine lv_iconst (v := nI 1) hx hb dX6_restOf_15 (by decide) ?_
        refine j_and hx hb dX6_restOf_16 ?_
        refine lv_iconst (v := nI 1) hx hb dX6_restOf_17 (by decide) ?_
        refine j_icmp_ne (tgt := 32) hx hb dX6_restOf_18 (by decide) (fun c18 => ?_) (fun c18 => ?_) (h1 := bd_and (by decide)) (h2 := by decide)
        · skip
          refine lv_iconst (v := nI 0) hx hb dX6_restOf_32 (by decide) ?_
          refine j_xor hx hb dX6_restOf_33 ?_
          refine j_top (fun x34 ex34 => ?_)
          refine lv_istore_n (lv' := [(1, .int (nI x34)), (2, .int (nI q)), (0, .int (nI w))]) hx hb dX6_restOf_34 rfl hl (by decide) rfl (fun ls hl => ?_)
          obtain ⟨x35, ex35⟩ : ∃ y : Nat, y = q - 1 := ⟨_, rfl⟩
          refine lv_iinc (v := nI x35) (lv' := [(2, .int (nI x35)), (1, .int (nI x34)), (0, .int (nI w))]) hx hb dX6_restOf_35 hl (k := 1) rfl (by rw [ex35]; exact sb_m1 (by omega)) (by decide) rfl (fun ls hl => ?_)
          refine lv_goto (tgt := 5) hx hb dX6_restOf_38 (by decide) ?_
          exact ih5 x34 x35 (by omega) (by omega) (by rw [ex34, Nat.xor_zero]; exact h3) (by rw [← h4, show q - 10 = (x35 - 10) + 1 by omega, remL_succ, show x35 - 10 + 11 = q by omega, remStep_f c18, ex34, Nat.xor_zero]) (by omega) ls (lv_sub hl [0, 1, 2] rfl)
        · skip
          refine lv_sipush (v := nI 3189) hx hb dX6_restOf_21 (by decide) ?_
          refine lv_iload_n hx hb dX6_restOf_24 rfl (lv_at hl 0 rfl) ?_
          refine lv_bipush (v := nI 11) hx hb dX6_restOf_25 (by decide) ?_
          refine j_sub hx hb dX6_restOf_27 ?_
          refine j_shl hx hb dX6_restOf_28 ?_
          refine lv_goto (tgt := 33) hx hb dX6_restOf_29 (by decide) ?_
          refine j_xor hx hb dX6_restOf_33 ?_
          refine j_top (fun x34 ex34 => ?_)
          refine lv_istore_n (lv' := [(1, .int (nI x34)), (2, .int (nI q)), (0, .int (nI w))]) hx hb dX6_restOf_34 rfl hl (by decide) rfl (fun ls hl => ?_)
          obtain ⟨x35, ex35⟩ : ∃ y : Nat, y = q - 1 := ⟨_, rfl⟩
          refine lv_iinc (v := nI x35) (lv' := [(2, .int (nI x35)), (1, .int (nI x34)), (0, .int (nI w))]) hx hb dX6_restOf_35 hl (k := 1) rfl (by rw [ex35]; exact sb_m1 (by omega)) (by decide) rfl (fun ls hl => ?_)
          refine lv_goto (tgt := 5) hx hb dX6_restOf_38 (by decide) ?_
          exact ih5 x34 x35 (by omega) (by omega) (by rw [ex34, ← remStep_t c18]; exact remStep_lt h3 h2) (by rw [← h4, show q - 10 = (x35 - 10) + 1 by omega, remL_succ, show x35 - 10 + 11 = q by omega, remStep_t c18, ex34]) (by omega) ls (lv_sub hl [0, 1, 2] rfl)
  exact loop5 _ w 22 (by omega) (by omega) hw rfl (Nat.lt_succ_self _) ls (lv_sub hl [0, 1, 2] rfl)
set_option maxHeartbeats 4000000 in
set_option maxRecDepth 100000 in
/-- madeOf -/
theorem c_X6_madeOf (l : Launch) (G : EG) (w : Nat) (hw : w < 4096) : RO l yX6_madeOf wsX6_madeOf (rmR 1 22) G [] [.int (nI w)] (.int (nI (madeN w))) := by
  refine RO.start (by decide) rfl (Nat.le_of_ble_eq_true rfl) ?_
  intro p e s m below meth c hx hb hr hml hts hown hlocks hP hE ls hl
  have hown : s.vm.findClass RX6 = some m.cls := hown
  have hl : lv_has ls 2 [(0, .int (nI w))] := hl
  refine lv_iload_n hx hb dX6_madeOf_0 rfl (lv_at hl 0 rfl) ?_
  refine lv_bipush (v := nI 11) hx hb dX6_madeOf_1 (by decide) ?_
  refine j_shl hx hb dX6_madeOf_3 ?_
  refine j_top (fun x4 ex4 => ?_)
  refine lv_istore_n (lv' := [(1, .int (nI x4)), (0, .int (nI w))]) hx hb dX6_madeOf_4 rfl hl (by decide) rfl (fun ls hl => ?_)
  refine lv_iload_n hx hb dX6_madeOf_5 rfl (lv_at hl 0 rfl) ?_
  refine lv_iload_n hx hb dX6_madeOf_6 rfl (lv_at hl 0 rfl) ?_
  refine ro_S (rest := [.int (nI x4)]) ⟨hx, hb, hml, hown, hts⟩ (c_X6_restOf l G x4 (by rw [ex4, Nat.shiftLeft_eq]; omega)) (va_cwS 1 hts gX6_madeOf_X6_restOf rfl rfl rfl (by decide +kernel) ⟨Nat.le_of_ble_eq_true rfl, Nat.le_of_ble_eq_true rfl⟩) hE (hP.sub [] rfl) rfl hl.1 rfl (Nat.le_of_ble_eq_true rfl) dX6_madeOf_7 ⟨Nat.zero_le _, Nat.zero_le _⟩ ?_
  refine j_add hx hb dX6_madeOf_10 ?_
  exact ro_ret hx hb hr hlocks dX6_madeOf_11 (by rw [ex4]; rfl)
set_option maxHeartbeats 4000000 in
set_option maxRecDepth 100000 in
/-- nearest -/
theorem c_X6_nearest (l : Launch) (G : EG) (o : Nat) (sa : Nat) (ia : Nat) (ka : Nat) (ea : Nat) (ca : Nat) (tr : Nat) (fi : Int32) (E : Nat → Nat) (w : Nat) (hw : w < 8388608) : RO l yX6_nearest wsX6_nearest (rmR 1 22) G [(o, .inr (5, [.ref sa, .ref ia, .ref ka, .ref ea, .int (nI tr), .int fi, .ref ca])), (ea, aI G 2048 E)] [.ref o, .int (nI w)] (.int (nI (nearE E w))) := by
  refine RO.start (by decide) rfl (Nat.le_of_ble_eq_true rfl) ?_
  intro p e s m below meth c hx hb hr hml hts hown hlocks hP hE ls hl
  have hown : s.vm.findClass RX6 = some m.cls := hown
  have hl : lv_has ls 2 [(0, .ref o), (1, .int (nI w))] := hl
  refine lv_iload_n hx hb dX6_nearest_0 rfl (lv_at hl 1 rfl) ?_
  refine lv_aload_n hx hb dX6_nearest_1 rfl (lv_at hl 0 rfl) ?_
  refine va_get (D := G.1) (ci := 5) (v := .ref ea) (C := RX6) (T := TX6) (N := 7) hx hb hts (fun w h => List.mem_cons_of_mem _ (List.mem_append_right _ h)) hown hE.1 hP 0 rfl rfl 3 (by decide) (hts (.fieldLink RX6 20 "TripleTrapModel" "errorsOf" "[I") (List.mem_of_getElem? (i := 1) rfl)) (fun _ h9 => h9) rfl dX6_nearest_2 ?_
  refine lv_iload_n hx hb dX6_nearest_5 rfl (lv_at hl 1 rfl) ?_
  refine ro_S (rest := [.ref ea, .int (nI w)]) ⟨hx, hb, hml, hown, hts⟩ (c_X6_restOf l G w (by omega)) (va_cwS 1 hts gX6_nearest_X6_restOf rfl rfl rfl (by decide +kernel) ⟨Nat.le_of_ble_eq_true rfl, Nat.le_of_ble_eq_true rfl⟩) hE (hP.sub [] rfl) rfl hl.1 rfl (Nat.le_of_ble_eq_true rfl) dX6_nearest_6 ⟨Nat.zero_le _, Nat.zero_le _⟩ ?_
  refine j_iald hx hb hE hP 1 rfl dX6_nearest_9 ?_ (hk := remN_lt11 hw)
  refine j_xor hx hb dX6_nearest_10 ?_
  exact ro_ret hx hb hr hlocks dX6_nearest_11 (rfl)
set_option maxHeartbeats 4000000 in
set_option maxRecDepth 100000 in
/-- made -/
theorem c_X6_made (l : Launch) (G : EG) (o : Nat) (sa : Nat) (ia : Nat) (ka : Nat) (ea : Nat) (ca : Nat) (tr : Nat) (fi : Int32) (x : Int32) : RO l yX6_made wsX6_made (rmR 2 43) G [(o, .inr (5, [.ref sa, .ref ia, .ref ka, .ref ea, .int (nI tr), .int fi, .ref ca]))] [.ref o, .int x] (.int (mMade x)) := by
  refine RO.start (by decide) rfl (Nat.le_of_ble_eq_true rfl) ?_
  intro p e s m below meth c hx hb hr hml hts hown hlocks hP hE ls hl
  have hown : s.vm.findClass RX6 = some m.cls := hown
  have hl : lv_has ls 2 [(0, .ref o), (1, .int x)] := hl
  refine lv_iload_n hx hb dX6_made_0 rfl (lv_at hl 1 rfl) ?_
  refine ro_S (rest := []) ⟨hx, hb, hml, hown, hts⟩ (c_X6_isMessage l G x) (va_cwS 1 hts gX6_made_X6_isMessage rfl rfl rfl (by decide +kernel) ⟨Nat.le_of_ble_eq_true rfl, Nat.le_of_ble_eq_true rfl⟩) hE (hP.sub [] rfl) rfl hl.1 rfl (Nat.le_of_ble_eq_true rfl) dX6_made_1 ⟨Nat.zero_le _, Nat.zero_le _⟩ ?_
  refine j_bool (fun c1 => ?_) (fun c1 => ?_)
  · skip
    obtain ⟨w, hw, rfl⟩ := blw_ex c1 (by decide)
    refine j_if_eq (tgt := 14) hx hb dX6_made_4 (by decide) (fun q => absurd q (by decide)) (fun _ => ?_)
    refine lv_iload_n hx hb dX6_made_7 rfl (lv_at hl 1 rfl) ?_
    refine ro_S (rest := []) ⟨hx, hb, hml, hown, hts⟩ (c_X6_madeOf l G w (by omega)) (va_cwS 1 hts gX6_made_X6_madeOf rfl rfl rfl (by decide +kernel) ⟨Nat.le_of_ble_eq_true rfl, Nat.le_of_ble_eq_true rfl⟩) hE (hP.sub [] rfl) rfl hl.1 rfl (Nat.le_of_ble_eq_true rfl) dX6_made_8 ⟨Nat.zero_le _, Nat.zero_le _⟩ ?_
    refine lv_goto (tgt := 16) hx hb dX6_made_11 (by decide) ?_
    exact ro_ret hx hb hr hlocks dX6_made_16 (by rw [mMade, if_pos c1, cl_nI hw (by decide)])
  · skip
    refine j_if_eq (tgt := 14) hx hb dX6_made_4 (by decide) (fun _ => ?_) (fun q => absurd q (by decide))
    refine lv_bipush (v := (-2)) hx hb dX6_made_14 (by decide) ?_
    exact ro_ret hx hb hr hlocks dX6_made_16 (by rw [mMade, if_neg (by rw [c1]; decide)])
set_option maxHeartbeats 4000000 in
set_option maxRecDepth 100000 in
/-- rest -/
theorem c_X6_rest (l : Launch) (G : EG) (o : Nat) (sa : Nat) (ia : Nat) (ka : Nat) (ea : Nat) (ca : Nat) (tr : Nat) (fi : Int32) (x : Int32) : RO l yX6_rest wsX6_rest (rmR 2 42) G [(o, .inr (5, [.ref sa, .ref ia, .ref ka, .ref ea, .int (nI tr), .int fi, .ref ca]))] [.ref o, .int x] (.int (mRest x)) := by
  refine RO.start (by decide) rfl (Nat.le_of_ble_eq_true rfl) ?_
  intro p e s m below meth c hx hb hr hml hts hown hlocks hP hE ls hl
  have hown : s.vm.findClass RX6 = some m.cls := hown
  have hl : lv_has ls 2 [(0, .ref o), (1, .int x)] := hl
  refine lv_iload_n hx hb dX6_rest_0 rfl (lv_at hl 1 rfl) ?_
  refine ro_S (rest := []) ⟨hx, hb, hml, hown, hts⟩ (c_X6_isWord l G x) (va_cwS 1 hts gX6_rest_X6_isWord rfl rfl rfl (by decide +kernel) ⟨Nat.le_of_ble_eq_true rfl, Nat.le_of_ble_eq_true rfl⟩) hE (hP.sub [] rfl) rfl hl.1 rfl (Nat.le_of_ble_eq_true rfl) dX6_rest_1 ⟨Nat.zero_le _, Nat.zero_le _⟩ ?_
  refine j_bool (fun c1 => ?_) (fun c1 => ?_)
  · skip
    obtain ⟨w, hw, rfl⟩ := blw_ex c1 (by decide)
    refine j_if_eq (tgt := 14) hx hb dX6_rest_4 (by decide) (fun q => absurd q (by decide)) (fun _ => ?_)
    refine lv_iload_n hx hb dX6_rest_7 rfl (lv_at hl 1 rfl) ?_
    refine ro_S (rest := []) ⟨hx, hb, hml, hown, hts⟩ (c_X6_restOf l G w (by omega)) (va_cwS 1 hts gX6_rest_X6_restOf rfl rfl rfl (by decide +kernel) ⟨Nat.le_of_ble_eq_true rfl, Nat.le_of_ble_eq_true rfl⟩) hE (hP.sub [] rfl) rfl hl.1 rfl (Nat.le_of_ble_eq_true rfl) dX6_rest_8 ⟨Nat.zero_le _, Nat.zero_le _⟩ ?_
    refine lv_goto (tgt := 16) hx hb dX6_rest_11 (by decide) ?_
    exact ro_ret hx hb hr hlocks dX6_rest_16 (by rw [mRest, if_pos c1, cl_nI hw (by decide)])
  · skip
    refine j_if_eq (tgt := 14) hx hb dX6_rest_4 (by decide) (fun _ => ?_) (fun q => absurd q (by decide))
    refine lv_bipush (v := (-2)) hx hb dX6_rest_14 (by decide) ?_
    exact ro_ret hx hb hr hlocks dX6_rest_16 (by rw [mRest, if_neg (by rw [c1]; decide)])
set_option maxHeartbeats 4000000 in
set_option maxRecDepth 100000 in
/-- of -/
theorem c_X6_of (l : Launch) (G : EG) (o : Nat) (sa : Nat) (ia : Nat) (ka : Nat) (ea : Nat) (ca : Nat) (tr : Nat) (fi : Int32) (E : Nat → Nat) (hEb : ∀ i, i < 2048 → E i < 8388608) (x : Int32) (y : Int32) : RO l yX6_of wsX6_of (rmR 2 43) G [(o, .inr (5, [.ref sa, .ref ia, .ref ka, .ref ea, .int (nI tr), .int fi, .ref ca])), (ea, aI G 2048 E)] [.ref o, .int x, .int y] (.int (mOf E x y)) := by
  refine RO.start (by decide) rfl (Nat.le_of_ble_eq_true rfl) ?_
  intro p e s m below meth c hx hb hr hml hts hown hlocks hP hE ls hl
  have hown : s.vm.findClass RX6 = some m.cls := hown
  have hl : lv_has ls 3 [(0, .ref o), (1, .int x), (2, .int y)] := hl
  refine lv_iload_n hx hb dX6_of_0 rfl (lv_at hl 1 rfl) ?_
  refine ro_S (rest := []) ⟨hx, hb, hml, hown, hts⟩ (c_X6_isWord l G x) (va_cwS 1 hts gX6_of_X6_isWord rfl rfl rfl (by decide +kernel) ⟨Nat.le_of_ble_eq_true rfl, Nat.le_of_ble_eq_true rfl⟩) hE (hP.sub [] rfl) rfl hl.1 rfl (Nat.le_of_ble_eq_true rfl) dX6_of_1 ⟨Nat.zero_le _, Nat.zero_le _⟩ ?_
  refine j_bool (fun c1 => ?_) (fun c1 => ?_)
  · skip
    obtain ⟨w, hw, rfl⟩ := blw_ex c1 (by decide)
    refine j_if_ne (tgt := 10) hx hb dX6_of_4 (by decide) (fun _ => ?_) (fun q => absurd q (by decide))
    refine lv_iload_n hx hb dX6_of_10 rfl (lv_at hl 2 rfl) ?_
    by_cases c11_0 : y = nI 0
    · subst c11_0
      refine lv_tableIn (off := 29) (tgt := 40) hx hb dX6_of_11 (by decide) (by decide) rfl (by decide) ?_
      refine lv_iload_n hx hb dX6_of_40 rfl (lv_at hl 1 rfl) ?_
      refine ro_S (rest := []) ⟨hx, hb, hml, hown, hts⟩ (c_X6_weight l G w (by omega)) (va_cwS 1 hts gX6_of_X6_weight rfl rfl rfl (by decide +kernel) ⟨Nat.le_of_ble_eq_true rfl, Nat.le_of_ble_eq_true rfl⟩) hE (hP.sub [] rfl) rfl hl.1 rfl (Nat.le_of_ble_eq_true rfl) dX6_of_41 ⟨Nat.zero_le _, Nat.zero_le _⟩ ?_
      exact ro_ret hx hb hr hlocks dX6_of_44 (by rw [mOf, if_pos c1, cl_nI hw (by decide), if_pos rfl])
    by_cases c11_1 : y = nI 1
    · subst c11_1
      refine lv_tableIn (off := 34) (tgt := 45) hx hb dX6_of_11 (by decide) (by decide) rfl (by decide) ?_
      refine lv_aload_n hx hb dX6_of_45 rfl (lv_at hl 0 rfl) ?_
      refine lv_iload_n hx hb dX6_of_46 rfl (lv_at hl 1 rfl) ?_
      refine ro_V 5 0 (rest := []) ⟨hx, hb, hml, hown, hts⟩ (c_X6_nearest l G o sa ia ka ea ca tr fi E w (by omega)) (cwV 1 hts gX6_of_X6_nearest rfl rfl rfl (by decide +kernel) ⟨Nat.le_of_ble_eq_true rfl, Nat.le_of_ble_eq_true rfl⟩) hE (hP.sub [0, 1] rfl) rfl rfl rfl hl.1 rfl (Nat.le_of_ble_eq_true rfl) dX6_of_47 ⟨Nat.zero_le _, Nat.zero_le _⟩ ?_
      exact ro_ret hx hb hr hlocks dX6_of_50 (by rw [mOf, if_pos c1, cl_nI hw (by decide), if_neg (by decide), if_pos rfl])
    by_cases c11_2 : y = nI 2
    · subst c11_2
      refine lv_tableIn (off := 40) (tgt := 51) hx hb dX6_of_11 (by decide) (by decide) rfl (by decide) ?_
      refine lv_aload_n hx hb dX6_of_51 rfl (lv_at hl 0 rfl) ?_
      refine va_get (D := G.1) (ci := 5) (v := .ref ea) (C := RX6) (T := TX6) (N := 7) hx hb hts (fun w h => List.mem_cons_of_mem _ (List.mem_append_right _ h)) hown hE.1 hP 0 rfl rfl 3 (by decide) (hts (.fieldLink RX6 20 "TripleTrapModel" "errorsOf" "[I") (List.mem_of_getElem? (i := 1) rfl)) (fun _ h9 => h9) rfl dX6_of_52 ?_
      refine lv_iload_n hx hb dX6_of_55 rfl (lv_at hl 1 rfl) ?_
      refine ro_S (rest := [.ref ea]) ⟨hx, hb, hml, hown, hts⟩ (c_X6_restOf l G w (by omega)) (va_cwS 1 hts gX6_of_X6_restOf rfl rfl rfl (by decide +kernel) ⟨Nat.le_of_ble_eq_true rfl, Nat.le_of_ble_eq_true rfl⟩) hE (hP.sub [] rfl) rfl hl.1 rfl (Nat.le_of_ble_eq_true rfl) dX6_of_56 ⟨Nat.zero_le _, Nat.zero_le _⟩ ?_
      refine j_iald hx hb hE hP 1 rfl dX6_of_59 ?_ (hk := remN_lt11 hw)
      refine ro_S (rest := []) ⟨hx, hb, hml, hown, hts⟩ (c_X6_weight l G (E (remN w)) (Nat.lt_trans (hEb _ (remN_lt11 hw)) (by decide))) (va_cwS 1 hts gX6_of_X6_weight rfl rfl rfl (by decide +kernel) ⟨Nat.le_of_ble_eq_true rfl, Nat.le_of_ble_eq_true rfl⟩) hE (hP.sub [] rfl) rfl hl.1 rfl (Nat.le_of_ble_eq_true rfl) dX6_of_60 ⟨Nat.zero_le _, Nat.zero_le _⟩ ?_
      exact ro_ret hx hb hr hlocks dX6_of_63 (by rw [mOf, if_pos c1, cl_nI hw (by decide), if_neg (by decide), if_neg (by decide), if_pos rfl])
    by_cases c11_3 : y = nI 3
    · subst c11_3
      refine lv_tableIn (off := 53) (tgt := 64) hx hb dX6_of_11 (by decide) (by decide) rfl (by decide) ?_
      refine lv_aload_n hx hb dX6_of_64 rfl (lv_at hl 0 rfl) ?_
      refine lv_iload_n hx hb dX6_of_65 rfl (lv_at hl 1 rfl) ?_
      refine ro_V 5 0 (rest := []) ⟨hx, hb, hml, hown, hts⟩ (c_X6_nearest l G o sa ia ka ea ca tr fi E w (by omega)) (cwV 1 hts gX6_of_X6_nearest rfl rfl rfl (by decide +kernel) ⟨Nat.le_of_ble_eq_true rfl, Nat.le_of_ble_eq_true rfl⟩) hE (hP.sub [0, 1] rfl) rfl rfl rfl hl.1 rfl (Nat.le_of_ble_eq_true rfl) dX6_of_66 ⟨Nat.zero_le _, Nat.zero_le _⟩ ?_
      refine lv_bipush (v := nI 11) hx hb dX6_of_69 (by decide) ?_
      refine j_shr hx hb dX6_of_71 ?_ (ha := Nat.lt_trans (near_lt hEb hw) (by decide)) (h := by decide)
      exact ro_ret hx hb hr hlocks dX6_of_72 (by rw [mOf, if_pos c1, cl_nI hw (by decide), if_neg (by decide), if_neg (by decide), if_neg (by decide), if_pos rfl])
    refine lv_tableOut (tgt := 73) hx hb dX6_of_11 (by have q0 := i32_ne c11_0 (by decide); have q1 := i32_ne c11_1 (by decide); have q2 := i32_ne c11_2 (by decide); have q3 := i32_ne c11_3 (by decide); omega) (by decide) ?_
    refine lv_bipush (v := (-2)) hx hb dX6_of_73 (by decide) ?_
    exact ro_ret hx hb hr hlocks dX6_of_75 (by rw [mOf, if_pos c1, if_neg c11_0, if_neg c11_1, if_neg c11_2, if_neg c11_3])
  · skip
    refine j_if_ne (tgt := 10) hx hb dX6_of_4 (by decide) (fun q => absurd q (by decide)) (fun _ => ?_)
    refine lv_bipush (v := (-2)) hx hb dX6_of_7 (by decide) ?_
    exact ro_ret hx hb hr hlocks dX6_of_9 (by rw [mOf, if_neg (by rw [c1]; decide)])
set_option maxHeartbeats 4000000 in
set_option maxRecDepth 100000 in
/-- around -/
theorem c_X6_around (l : Launch) (G : EG) (o : Nat) (sa : Nat) (ia : Nat) (ka : Nat) (ea : Nat) (ca : Nat) (tr : Nat) (fi : Int32) (x : Int32) (y : Int32) : RO l yX6_around wsX6_around (rmR 2 43) G [(o, .inr (5, [.ref sa, .ref ia, .ref ka, .ref ea, .int (nI tr), .int fi, .ref ca]))] [.ref o, .int x, .int y] (.int (mAround x y)) := by
  refine RO.start (by decide) rfl (Nat.le_of_ble_eq_true rfl) ?_
  intro p e s m below meth c hx hb hr hml hts hown hlocks hP hE ls hl
  have hown : s.vm.findClass RX6 = some m.cls := hown
  have hl : lv_has ls 5 [(0, .ref o), (1, .int x), (2, .int y)] := hl
  refine lv_iload_n hx hb dX6_around_0 rfl (lv_at hl 1 rfl) ?_
  refine ro_S (rest := []) ⟨hx, hb, hml, hown, hts⟩ (c_X6_isWord l G x) (va_cwS 1 hts gX6_around_X6_isWord rfl rfl rfl (by decide +kernel) ⟨Nat.le_of_ble_eq_true rfl, Nat.le_of_ble_eq_true rfl⟩) hE (hP.sub [] rfl) rfl hl.1 rfl (Nat.le_of_ble_eq_true rfl) dX6_around_1 ⟨Nat.zero_le _, Nat.zero_le _⟩ ?_
  refine j_bool (fun c1 => ?_) (fun c1 => ?_)
  · skip
    obtain ⟨w, hw, rfl⟩ := blw_ex c1 (by decide)
    refine j_if_eq (tgt := 17) hx hb dX6_around_4 (by decide) (fun q => absurd q (by decide)) (fun _ => ?_)
    refine lv_iload_n hx hb dX6_around_7 rfl (lv_at hl 2 rfl) ?_
    refine lv_iconst (v := nI 0) hx hb dX6_around_8 (by decide) ?_
    refine lv_bipush (v := nI 23) hx hb dX6_around_9 (by decide) ?_
    refine ro_S (rest := []) ⟨hx, hb, hml, hown, hts⟩ (c_X6_in l G y (nI 0) (nI 23)) (va_cwS 3 hts gX6_around_X6_in rfl rfl rfl (by decide +kernel) ⟨Nat.le_of_ble_eq_true rfl, Nat.le_of_ble_eq_true rfl⟩) hE (hP.sub [] rfl) rfl hl.1 rfl (Nat.le_of_ble_eq_true rfl) dX6_around_11 ⟨Nat.zero_le _, Nat.zero_le _⟩ ?_
    refine j_bool (fun c11 => ?_) (fun c11 => ?_)
    · skip
      obtain ⟨j, hj, rfl⟩ := inI_ex (N := 23) rfl c11 (by decide)
      refine j_if_ne (tgt := 20) hx hb dX6_around_14 (by decide) (fun _ => ?_) (fun q => absurd q (by decide))
      refine lv_iconst (v := nI 0) hx hb dX6_around_20 (by decide) ?_
      refine lv_istore_n (lv' := [(3, .int (nI 0)), (0, .ref o), (1, .int (nI w)), (2, .int (nI j))]) hx hb dX6_around_21 rfl hl (by decide) rfl (fun ls hl => ?_)
      refine lv_iconst (v := nI 0) hx hb dX6_around_22 (by decide) ?_
      refine lv_istore (lv' := [(4, .int (nI 0)), (3, .int (nI 0)), (0, .ref o), (1, .int (nI w)), (2, .int (nI j))]) hx hb dX6_around_23 hl (by decide) rfl (fun ls hl => ?_)
      have loop25 : ∀ (fuel : Nat) (t : Nat) (k : Nat), (k ≤ 4096) → (t = aroL w j k) → 4096 - k < fuel → ∀ ls : Array Slot, lv_has ls 5 [(4, .int (nI k)), (3, .int (nI t)), (0, .ref o), (1, .int (nI w)), (2, .int (nI j))] → W p l e (rmR 2 43) s m ([.ref o, .int (nI w), .int (nI j)] : List Value).toArray below meth c s.heap [] 0 0 (MQ below (k2_QcV (.int (mAround (nI w) (nI j)))) ([.ref o, .int (nI w), .int (nI j)] : List Value).toArray s 0 0 (fun _ => False)) (F0 m 25 ls []) := by
        intro fuel
        induction fuel with
        | zero => intro t k h1 h2 hf; exact absurd hf (Nat.not_lt_zero _)
        | succ fuel ih25 =>
          intro t k h1 h2 hf ls hl
          refine lv_iload hx hb dX6_around_25 (lv_at hl 0 rfl) ?_
          refine lv_sipush (v := nI 4096) hx hb dX6_around_27 (by decide) ?_
          refine j_icmp_ge (tgt := 61) hx hb dX6_around_30 (by decide) (fun c30 => ?_) (fun c30 => ?_)
          · skip
            refine lv_iload_n hx hb dX6_around_61 rfl (lv_at hl 1 rfl) ?_
            exact ro_ret hx hb hr hlocks dX6_around_62 (by rw [mAround, if_pos ⟨c1, blw_j hj (by decide)⟩, cl_nI hw (by decide), cl_nI hj (by decide), h2, show k = 4096 by omega])
          · skip
            refine lv_iload_n hx hb dX6_around_33 rfl (lv_at hl 1 rfl) ?_
            refine lv_iload hx hb dX6_around_34 (lv_at hl 0 rfl) ?_
            refine ro_S (rest := [.int (nI t)]) ⟨hx, hb, hml, hown, hts⟩ (c_X6_madeOf l G k (by omega)) (va_cwS 1 hts gX6_around_X6_madeOf rfl rfl rfl (by decide +kernel) ⟨Nat.le_of_ble_eq_true rfl, Nat.le_of_ble_eq_true rfl⟩) hE (hP.sub [] rfl) rfl hl.1 rfl (Nat.le_of_ble_eq_true rfl) dX6_around_36 ⟨Nat.zero_le _, Nat.zero_le _⟩ ?_
            refine lv_iload_n hx hb dX6_around_39 rfl (lv_at hl 3 rfl) ?_
            refine j_xor hx hb dX6_around_40 ?_
            refine ro_S (rest := [.int (nI t)]) ⟨hx, hb, hml, hown, hts⟩ (c_X6_weight l G ((madeN k) ^^^ w) (Nat.lt_trans (bd_xor 23 (made_lt (by omega)) hw) (by decide))) (va_cwS 1 hts gX6_around_X6_weight rfl rfl rfl (by decide +kernel) ⟨Nat.le_of_ble_eq_true rfl, Nat.le_of_ble_eq_true rfl⟩) hE (hP.sub [] rfl) rfl hl.1 rfl (Nat.le_of_ble_eq_true rfl) dX6_around_41 ⟨Nat.zero_le _, Nat.zero_le _⟩ ?_
            refine lv_iload_n hx hb dX6_around_44 rfl (lv_at hl 4 rfl) ?_
            refine j_icmp_ne (tgt := 52) hx hb dX6_around_45 (by decide) (fun c45 => ?_) (fun c45 => ?_) (h1 := Nat.lt_of_le_of_lt (wtN_le _) (by decide)) (h2 := by omega)
            · skip
              refine lv_iconst (v := nI 0) hx hb dX6_around_52 (by decide) ?_
              refine j_add hx hb dX6_around_53 ?_
              refine j_top (fun x54 ex54 => ?_)
              refine lv_istore_n (lv' := [(3, .int (nI x54)), (4, .int (nI k)), (0, .ref o), (1, .int (nI w)), (2, .int (nI j))]) hx hb dX6_around_54 rfl hl (by decide) rfl (fun ls hl => ?_)
              obtain ⟨x55, ex55⟩ : ∃ y : Nat, y = k + 1 := ⟨_, rfl⟩
              refine lv_iinc (v := nI x55) (lv' := [(4, .int (nI x55)), (3, .int (nI x54)), (0, .ref o), (1, .int (nI w)), (2, .int (nI j))]) hx hb dX6_around_55 hl (k := 1) rfl (by rw [ex55]; exact nI_add _ _) (by decide) rfl (fun ls hl => ?_)
              refine lv_goto (tgt := 25) hx hb dX6_around_58 (by decide) ?_
              exact ih25 x54 x55 (by omega) (by rw [ex54, ex55, h2, aroL, if_neg c45]) (by omega) ls (lv_sub hl [0, 1, 2, 3, 4] rfl)
            · skip
              refine lv_iconst (v := nI 1) hx hb dX6_around_48 (by decide) ?_
              refine lv_goto (tgt := 53) hx hb dX6_around_49 (by decide) ?_
              refine j_add hx hb dX6_around_53 ?_
              refine j_top (fun x54 ex54 => ?_)
              refine lv_istore_n (lv' := [(3, .int (nI x54)), (4, .int (nI k)), (0, .ref o), (1, .int (nI w)), (2, .int (nI j))]) hx hb dX6_around_54 rfl hl (by decide) rfl (fun ls hl => ?_)
              obtain ⟨x55, ex55⟩ : ∃ y : Nat, y = k + 1 := ⟨_, rfl⟩
              refine lv_iinc (v := nI x55) (lv' := [(4, .int (nI x55)), (3, .int (nI x54)), (0, .ref o), (1, .int (nI w)), (2, .int (nI j))]) hx hb dX6_around_55 hl (k := 1) rfl (by rw [ex55]; exact nI_add _ _) (by decide) rfl (fun ls hl => ?_)
              refine lv_goto (tgt := 25) hx hb dX6_around_58 (by decide) ?_
              exact ih25 x54 x55 (by omega) (by rw [ex54, ex55, h2, aroL, if_pos c45]) (by omega) ls (lv_sub hl [0, 1, 2, 3, 4] rfl)
      exact loop25 _ 0 0 (by omega) rfl (Nat.lt_succ_self _) ls (lv_sub hl [0, 1, 2, 3, 4] rfl)
    · skip
      refine j_if_ne (tgt := 20) hx hb dX6_around_14 (by decide) (fun q => absurd q (by decide)) (fun _ => ?_)
      refine lv_bipush (v := (-2)) hx hb dX6_around_17 (by decide) ?_
      exact ro_ret hx hb hr hlocks dX6_around_19 (by rw [mAround, if_neg (fun h => by rw [← inI_blw y (N := 24) (by decide) (by decide), show nI (24 - 1) = nI 23 from rfl, c11] at h; exact absurd h.2 (by decide))])
  · skip
    refine j_if_eq (tgt := 17) hx hb dX6_around_4 (by decide) (fun _ => ?_) (fun q => absurd q (by decide))
    refine lv_bipush (v := (-2)) hx hb dX6_around_17 (by decide) ?_
    exact ro_ret hx hb hr hlocks dX6_around_19 (by rw [mAround, if_neg (fun h => by rw [c1] at h; exact absurd h.1 (by decide))])
set_option maxHeartbeats 4000000 in
set_option maxRecDepth 100000 in
/-- turn -/
theorem c_X6_turn (l : Launch) (G : EG) (w : Nat) (d : Nat) (hw : w < 2147483648) (hd : d ≤ 23) : RO l yX6_turn wsX6_turn (rmR 0 0) G [] [.int (nI w), .int (nI d)] (.int (nI (trnN w d))) := by
  refine RO.start (by decide) rfl (Nat.le_of_ble_eq_true rfl) ?_
  intro p e s m below meth c hx hb hr hml hts hown hlocks hP hE ls hl
  have hown : s.vm.findClass RX6 = some m.cls := hown
  have hl : lv_has ls 4 [(0, .int (nI w)), (1, .int (nI d))] := hl
  refine lv_iconst (v := nI 0) hx hb dX6_turn_0 (by decide) ?_
  refine lv_istore_n (lv' := [(2, .int (nI 0)), (0, .int (nI w)), (1, .int (nI d))]) hx hb dX6_turn_1 rfl hl (by decide) rfl (fun ls hl => ?_)
  refine lv_iconst (v := nI 0) hx hb dX6_turn_2 (by decide) ?_
  refine lv_istore_n (lv' := [(3, .int (nI 0)), (2, .int (nI 0)), (0, .int (nI w)), (1, .int (nI d))]) hx hb dX6_turn_3 rfl hl (by decide) rfl (fun ls hl => ?_)
  have loop4 : ∀ (fuel : Nat) (v : Nat) (k : Nat), (k ≤ 23) → (v = trnL w d k) → 23 - k < fuel → ∀ ls : Array Slot, lv_has ls 4 [(3, .int (nI k)), (2, .int (nI v)), (0, .int (nI w)), (1, .int (nI d))] → W p l e (rmR 0 0) s m ([.int (nI w), .int (nI d)] : List Value).toArray below meth c s.heap [] 0 0 (MQ below (k2_QcV (.int (nI (trnN w d)))) ([.int (nI w), .int (nI d)] : List Value).toArray s 0 0 (fun _ => False)) (F0 m 4 ls []) := by
    intro fuel
    induction fuel with
    | zero => intro v k h1 h2 hf; exact absurd hf (Nat.not_lt_zero _)
    | succ fuel ih4 =>
      intro v k h1 h2 hf ls hl
      refine lv_iload_n hx hb dX6_turn_4 rfl (lv_at hl 0 rfl) ?_
      refine lv_bipush (v := nI 23) hx hb dX6_turn_5 (by decide) ?_
      refine j_icmp_ge (tgt := 31) hx hb dX6_turn_7 (by decide) (fun c7 => ?_) (fun c7 => ?_)
      · skip
        refine lv_iload_n hx hb dX6_turn_31 rfl (lv_at hl 1 rfl) ?_
        exact ro_ret hx hb hr hlocks dX6_turn_32 (by rw [h2, show k = 23 by omega]; rfl)
      · skip
        refine lv_iload_n hx hb dX6_turn_10 rfl (lv_at hl 1 rfl) ?_
        refine lv_iload_n hx hb dX6_turn_11 rfl (lv_at hl 2 rfl) ?_
        refine lv_iload_n hx hb dX6_turn_12 rfl (lv_at hl 0 rfl) ?_
        refine j_shr hx hb dX6_turn_13 ?_
        refine lv_iconst (v := nI 1) hx hb dX6_turn_14 (by decide) ?_
        refine j_and hx hb dX6_turn_15 ?_
        refine lv_iload_n hx hb dX6_turn_16 rfl (lv_at hl 0 rfl) ?_
        refine lv_iload_n hx hb dX6_turn_17 rfl (lv_at hl 3 rfl) ?_
        refine j_add hx hb dX6_turn_18 ?_
        refine lv_bipush (v := nI 23) hx hb dX6_turn_19 (by decide) ?_
        refine j_rem hx hb dX6_turn_21 ?_
        refine j_shl hx hb dX6_turn_22 ?_ (h := by omega)
        refine j_or hx hb dX6_turn_23 ?_
        refine j_top (fun x24 ex24 => ?_)
        refine lv_istore_n (lv' := [(2, .int (nI x24)), (3, .int (nI k)), (0, .int (nI w)), (1, .int (nI d))]) hx hb dX6_turn_24 rfl hl (by decide) rfl (fun ls hl => ?_)
        obtain ⟨x25, ex25⟩ : ∃ y : Nat, y = k + 1 := ⟨_, rfl⟩
        refine lv_iinc (v := nI x25) (lv' := [(3, .int (nI x25)), (2, .int (nI x24)), (0, .int (nI w)), (1, .int (nI d))]) hx hb dX6_turn_25 hl (k := 1) rfl (by rw [ex25]; exact nI_add _ _) (by decide) rfl (fun ls hl => ?_)
        refine lv_goto (tgt := 4) hx hb dX6_turn_28 (by decide) ?_
        exact ih4 x24 x25 (by omega) (by rw [ex24, ex25, h2]; rfl) (by omega) ls (lv_sub hl [0, 1, 2, 3] rfl)
  exact loop4 _ 0 0 (by omega) rfl (Nat.lt_succ_self _) ls (lv_sub hl [0, 1, 2, 3] rfl)
set_option maxHeartbeats 4000000 in
set_option maxRecDepth 100000 in
/-- turned -/
theorem c_X6_turned (l : Launch) (G : EG) (o : Nat) (sa : Nat) (ia : Nat) (ka : Nat) (ea : Nat) (ca : Nat) (tr : Nat) (fi : Int32) (x : Int32) (y : Int32) : RO l yX6_turned wsX6_turned (rmR 2 42) G [(o, .inr (5, [.ref sa, .ref ia, .ref ka, .ref ea, .int (nI tr), .int fi, .ref ca]))] [.ref o, .int x, .int y] (.int (mTurned x y)) := by
  refine RO.start (by decide) rfl (Nat.le_of_ble_eq_true rfl) ?_
  intro p e s m below meth c hx hb hr hml hts hown hlocks hP hE ls hl
  have hown : s.vm.findClass RX6 = some m.cls := hown
  have hl : lv_has ls 3 [(0, .ref o), (1, .int x), (2, .int y)] := hl
  refine lv_iload_n hx hb dX6_turned_0 rfl (lv_at hl 1 rfl) ?_
  refine ro_S (rest := []) ⟨hx, hb, hml, hown, hts⟩ (c_X6_isWord l G x) (va_cwS 1 hts gX6_turned_X6_isWord rfl rfl rfl (by decide +kernel) ⟨Nat.le_of_ble_eq_true rfl, Nat.le_of_ble_eq_true rfl⟩) hE (hP.sub [] rfl) rfl hl.1 rfl (Nat.le_of_ble_eq_true rfl) dX6_turned_1 ⟨Nat.zero_le _, Nat.zero_le _⟩ ?_
  refine j_bool (fun c1 => ?_) (fun c1 => ?_)
  · skip
    obtain ⟨w, hw, rfl⟩ := blw_ex c1 (by decide)
    refine j_if_eq (tgt := 25) hx hb dX6_turned_4 (by decide) (fun q => absurd q (by decide)) (fun _ => ?_)
    refine lv_iload_n hx hb dX6_turned_7 rfl (lv_at hl 2 rfl) ?_
    refine lv_iconst (v := nI 0) hx hb dX6_turned_8 (by decide) ?_
    refine lv_bipush (v := nI 22) hx hb dX6_turned_9 (by decide) ?_
    refine ro_S (rest := []) ⟨hx, hb, hml, hown, hts⟩ (c_X6_in l G y (nI 0) (nI 22)) (va_cwS 3 hts gX6_turned_X6_in rfl rfl rfl (by decide +kernel) ⟨Nat.le_of_ble_eq_true rfl, Nat.le_of_ble_eq_true rfl⟩) hE (hP.sub [] rfl) rfl hl.1 rfl (Nat.le_of_ble_eq_true rfl) dX6_turned_11 ⟨Nat.zero_le _, Nat.zero_le _⟩ ?_
    refine j_bool (fun c11 => ?_) (fun c11 => ?_)
    · skip
      obtain ⟨j, hj, rfl⟩ := inI_ex (N := 22) rfl c11 (by decide)
      refine j_if_eq (tgt := 25) hx hb dX6_turned_14 (by decide) (fun q => absurd q (by decide)) (fun _ => ?_)
      refine lv_iload_n hx hb dX6_turned_17 rfl (lv_at hl 1 rfl) ?_
      refine lv_iload_n hx hb dX6_turned_18 rfl (lv_at hl 2 rfl) ?_
      refine ro_S (rest := []) ⟨hx, hb, hml, hown, hts⟩ (c_X6_turn l G w j (by omega) (by omega)) (va_cwS 2 hts gX6_turned_X6_turn rfl rfl rfl (by decide +kernel) ⟨Nat.le_of_ble_eq_true rfl, Nat.le_of_ble_eq_true rfl⟩) hE (hP.sub [] rfl) rfl hl.1 rfl (Nat.le_of_ble_eq_true rfl) dX6_turned_19 ⟨Nat.zero_le _, Nat.zero_le _⟩ ?_
      refine lv_goto (tgt := 27) hx hb dX6_turned_22 (by decide) ?_
      exact ro_ret hx hb hr hlocks dX6_turned_27 (by rw [mTurned, if_pos ⟨c1, blw_j hj (by decide)⟩, cl_nI hw (by decide), cl_nI hj (by decide)])
    · skip
      refine j_if_eq (tgt := 25) hx hb dX6_turned_14 (by decide) (fun _ => ?_) (fun q => absurd q (by decide))
      refine lv_bipush (v := (-2)) hx hb dX6_turned_25 (by decide) ?_
      exact ro_ret hx hb hr hlocks dX6_turned_27 (by rw [mTurned, if_neg (fun h => by rw [← inI_blw y (N := 23) (by decide) (by decide), show nI (23 - 1) = nI 22 from rfl, c11] at h; exact absurd h.2 (by decide))])
  · skip
    refine j_if_eq (tgt := 25) hx hb dX6_turned_4 (by decide) (fun _ => ?_) (fun q => absurd q (by decide))
    refine lv_bipush (v := (-2)) hx hb dX6_turned_25 (by decide) ?_
    exact ro_ret hx hb hr hlocks dX6_turned_27 (by rw [mTurned, if_neg (fun h => by rw [c1] at h; exact absurd h.1 (by decide))])
set_option maxHeartbeats 4000000 in
set_option maxRecDepth 100000 in
/-- caught -/
theorem c_X6_caught (l : Launch) (G : EG) (w : Nat) (k : Nat) (hw : w < 8388608) (hk : k < 3) : RO l yX6_caught wsX6_caught (rmR 1 22) G [] [.int (nI w), .int (nI k)] (.int (if catOk w k = true then (nI (catE w k)) else (-6))) := by
  refine RO.start (by decide) rfl (Nat.le_of_ble_eq_true rfl) ?_
  intro p e s m below meth c hx hb hr hml hts hown hlocks hP hE ls hl
  have hown : s.vm.findClass RX6 = some m.cls := hown
  have hl : lv_has ls 4 [(0, .int (nI w)), (1, .int (nI k))] := hl
  refine lv_iload_n hx hb dX6_caught_0 rfl (lv_at hl 1 rfl) ?_
  refine j_if_ne (tgt := 8) hx hb dX6_caught_1 (by decide) (fun c1 => ?_) (fun c1 => ?_)
  · skip
    refine lv_iconst (v := nI 1) hx hb dX6_caught_8 (by decide) ?_
    refine lv_bipush (v := nI 15) hx hb dX6_caught_9 (by decide) ?_
    refine lv_iload_n hx hb dX6_caught_11 rfl (lv_at hl 1 rfl) ?_
    refine j_add hx hb dX6_caught_12 ?_
    refine j_shl hx hb dX6_caught_13 ?_
    refine j_top (fun x14 ex14 => ?_)
    refine lv_istore_n (lv' := [(2, .int (nI x14)), (0, .int (nI w)), (1, .int (nI k))]) hx hb dX6_caught_14 rfl hl (by decide) rfl (fun ls hl => ?_)
    refine lv_iload_n hx hb dX6_caught_15 rfl (lv_at hl 1 rfl) ?_
    refine lv_iload_n hx hb dX6_caught_16 rfl (lv_at hl 0 rfl) ?_
    refine j_xor hx hb dX6_caught_17 ?_
    refine ro_S (rest := []) ⟨hx, hb, hml, hown, hts⟩ (c_X6_restOf l G (w ^^^ x14) (by first | exact Nat.lt_trans (bd_xor 23 hw (by decide)) (by decide) | (rw [ex14, show 1 <<< (15 + k) = catB k from (if_neg c1).symm]; exact Nat.lt_trans (bd_xor 23 hw (catB_lt hk)) (by decide)))) (va_cwS 1 hts gX6_caught_X6_restOf rfl rfl rfl (by decide +kernel) ⟨Nat.le_of_ble_eq_true rfl, Nat.le_of_ble_eq_true rfl⟩) hE (hP.sub [] rfl) rfl hl.1 rfl (Nat.le_of_ble_eq_true rfl) dX6_caught_18 ⟨Nat.zero_le _, Nat.zero_le _⟩ ?_
    refine j_top (fun x21 ex21 => ?_)
    refine lv_istore_n (lv' := [(3, .int (nI x21)), (2, .int (nI x14)), (0, .int (nI w)), (1, .int (nI k))]) hx hb dX6_caught_21 rfl hl (by decide) rfl (fun ls hl => ?_)
    refine lv_iload_n hx hb dX6_caught_22 rfl (lv_at hl 0 rfl) ?_
    refine ro_S (rest := []) ⟨hx, hb, hml, hown, hts⟩ (c_X6_weight l G x21 (by first | (rw [ex21]; exact Nat.lt_trans (remN_lt11 (bd_xor 23 hw (by decide))) (by decide)) | (rw [ex21, ex14, show 1 <<< (15 + k) = catB k from (if_neg c1).symm]; exact Nat.lt_trans (catR_lt hw hk) (by decide)))) (va_cwS 1 hts gX6_caught_X6_weight rfl rfl rfl (by decide +kernel) ⟨Nat.le_of_ble_eq_true rfl, Nat.le_of_ble_eq_true rfl⟩) hE (hP.sub [] rfl) rfl hl.1 rfl (Nat.le_of_ble_eq_true rfl) dX6_caught_23 ⟨Nat.zero_le _, Nat.zero_le _⟩ ?_
    refine lv_iload_n hx hb dX6_caught_26 rfl (lv_at hl 3 rfl) ?_
    refine j_if_ne (tgt := 34) hx hb dX6_caught_27 (by decide) (fun c27 => ?_) (fun c27 => ?_)
    · skip
      refine lv_iconst (v := nI 2) hx hb dX6_caught_34 (by decide) ?_
      refine j_icmp_gt (tgt := 44) hx hb dX6_caught_35 (by decide) (fun c35 => ?_) (fun c35 => ?_) (h1 := Nat.lt_of_le_of_lt (wtN_le _) (by decide)) (h2 := by decide)
      · skip
        refine lv_bipush (v := (-6)) hx hb dX6_caught_44 (by decide) ?_
        exact ro_ret hx hb hr hlocks dX6_caught_46 (by rw [ex21, ex14, show 1 <<< (15 + k) = catB k from (if_neg c1).symm] at c35; rw [if_neg (fun h => by have h2 := of_decide_eq_true h; rw [if_neg c1] at h2; exact absurd h2 (Nat.not_le.mpr c35))])
      · skip
        refine lv_iload_n hx hb dX6_caught_38 rfl (lv_at hl 0 rfl) ?_
        refine lv_iload_n hx hb dX6_caught_39 rfl (lv_at hl 1 rfl) ?_
        refine j_or hx hb dX6_caught_40 ?_
        refine lv_goto (tgt := 46) hx hb dX6_caught_41 (by decide) ?_
        exact ro_ret hx hb hr hlocks dX6_caught_46 (by rw [ex21, ex14, show 1 <<< (15 + k) = catB k from (if_neg c1).symm] at c35; rw [ex21, ex14, show 1 <<< (15 + k) = catB k from (if_neg c1).symm, if_pos (show catOk w k = true from decide_eq_true (by rw [if_neg c1]; exact c35))]; rfl)
    · skip
      exact absurd c27 c1
  · skip
    subst c1
    refine lv_iconst (v := nI 0) hx hb dX6_caught_4 (by decide) ?_
    refine lv_goto (tgt := 14) hx hb dX6_caught_5 (by decide) ?_
    refine lv_istore_n (lv' := [(2, .int (nI 0)), (0, .int (nI w)), (1, .int (nI 0))]) hx hb dX6_caught_14 rfl hl (by decide) rfl (fun ls hl => ?_)
    refine lv_iload_n hx hb dX6_caught_15 rfl (lv_at hl 1 rfl) ?_
    refine lv_iload_n hx hb dX6_caught_16 rfl (lv_at hl 0 rfl) ?_
    refine j_xor hx hb dX6_caught_17 ?_
    refine ro_S (rest := []) ⟨hx, hb, hml, hown, hts⟩ (c_X6_restOf l G (w ^^^ 0) (by first | exact Nat.lt_trans (bd_xor 23 hw (by decide)) (by decide) | (rw [ex14, show 1 <<< (15 + k) = catB k from (if_neg c1).symm]; exact Nat.lt_trans (bd_xor 23 hw (catB_lt hk)) (by decide)))) (va_cwS 1 hts gX6_caught_X6_restOf rfl rfl rfl (by decide +kernel) ⟨Nat.le_of_ble_eq_true rfl, Nat.le_of_ble_eq_true rfl⟩) hE (hP.sub [] rfl) rfl hl.1 rfl (Nat.le_of_ble_eq_true rfl) dX6_caught_18 ⟨Nat.zero_le _, Nat.zero_le _⟩ ?_
    refine j_top (fun x21 ex21 => ?_)
    refine lv_istore_n (lv' := [(3, .int (nI x21)), (2, .int (nI 0)), (0, .int (nI w)), (1, .int (nI 0))]) hx hb dX6_caught_21 rfl hl (by decide) rfl (fun ls hl => ?_)
    refine lv_iload_n hx hb dX6_caught_22 rfl (lv_at hl 0 rfl) ?_
    refine ro_S (rest := []) ⟨hx, hb, hml, hown, hts⟩ (c_X6_weight l G x21 (by first | (rw [ex21]; exact Nat.lt_trans (remN_lt11 (bd_xor 23 hw (by decide))) (by decide)) | (rw [ex21, ex14, show 1 <<< (15 + k) = catB k from (if_neg c1).symm]; exact Nat.lt_trans (catR_lt hw hk) (by decide)))) (va_cwS 1 hts gX6_caught_X6_weight rfl rfl rfl (by decide +kernel) ⟨Nat.le_of_ble_eq_true rfl, Nat.le_of_ble_eq_true rfl⟩) hE (hP.sub [] rfl) rfl hl.1 rfl (Nat.le_of_ble_eq_true rfl) dX6_caught_23 ⟨Nat.zero_le _, Nat.zero_le _⟩ ?_
    refine lv_iload_n hx hb dX6_caught_26 rfl (lv_at hl 3 rfl) ?_
    refine j_if_ne (tgt := 34) hx hb dX6_caught_27 (by decide) (fun q => absurd q (by decide)) (fun _ => ?_)
    refine lv_iconst (v := nI 3) hx hb dX6_caught_30 (by decide) ?_
    refine lv_goto (tgt := 35) hx hb dX6_caught_31 (by decide) ?_
    refine j_icmp_gt (tgt := 44) hx hb dX6_caught_35 (by decide) (fun c35 => ?_) (fun c35 => ?_) (h1 := Nat.lt_of_le_of_lt (wtN_le _) (by decide)) (h2 := by decide)
    · skip
      refine lv_bipush (v := (-6)) hx hb dX6_caught_44 (by decide) ?_
      exact ro_ret hx hb hr hlocks dX6_caught_46 (by rw [ex21] at c35; rw [if_neg (show ¬ catOk w 0 = true from fun h => absurd (of_decide_eq_true (show decide (wtN (catR w 0) ≤ 3) = true from h)) (Nat.not_le.mpr c35))])
    · skip
      refine lv_iload_n hx hb dX6_caught_38 rfl (lv_at hl 0 rfl) ?_
      refine lv_iload_n hx hb dX6_caught_39 rfl (lv_at hl 1 rfl) ?_
      refine j_or hx hb dX6_caught_40 ?_
      refine lv_goto (tgt := 46) hx hb dX6_caught_41 (by decide) ?_
      exact ro_ret hx hb hr hlocks dX6_caught_46 (by rw [ex21] at c35 ⊢; rw [if_pos (show catOk w 0 = true from decide_eq_true c35)]; rfl)
set_option maxHeartbeats 4000000 in
set_option maxRecDepth 100000 in
/-- trapped -/
theorem c_X6_trapped (l : Launch) (G : EG) (o : Nat) (sa : Nat) (ia : Nat) (ka : Nat) (ea : Nat) (ca : Nat) (tr : Nat) (fi : Int32) (x : Int32) (y : Int32) : RO l yX6_trapped wsX6_trapped (rmR 2 45) G [(o, .inr (5, [.ref sa, .ref ia, .ref ka, .ref ea, .int (nI tr), .int fi, .ref ca]))] [.ref o, .int x, .int y] (.int (mTrapped x y)) := by
  refine RO.start (by decide) rfl (Nat.le_of_ble_eq_true rfl) ?_
  intro p e s m below meth c hx hb hr hml hts hown hlocks hP hE ls hl
  have hown : s.vm.findClass RX6 = some m.cls := hown
  have hl : lv_has ls 6 [(0, .ref o), (1, .int x), (2, .int y)] := hl
  refine lv_iload_n hx hb dX6_trapped_0 rfl (lv_at hl 1 rfl) ?_
  refine ro_S (rest := []) ⟨hx, hb, hml, hown, hts⟩ (c_X6_isWord l G x) (va_cwS 1 hts gX6_trapped_X6_isWord rfl rfl rfl (by decide +kernel) ⟨Nat.le_of_ble_eq_true rfl, Nat.le_of_ble_eq_true rfl⟩) hE (hP.sub [] rfl) rfl hl.1 rfl (Nat.le_of_ble_eq_true rfl) dX6_trapped_1 ⟨Nat.zero_le _, Nat.zero_le _⟩ ?_
  refine j_bool (fun c1 => ?_) (fun c1 => ?_)
  · skip
    obtain ⟨w, hw, rfl⟩ := blw_ex c1 (by decide)
    refine j_if_eq (tgt := 16) hx hb dX6_trapped_4 (by decide) (fun q => absurd q (by decide)) (fun _ => ?_)
    refine lv_iload_n hx hb dX6_trapped_7 rfl (lv_at hl 2 rfl) ?_
    refine lv_iconst (v := nI 0) hx hb dX6_trapped_8 (by decide) ?_
    refine lv_iconst (v := nI 2) hx hb dX6_trapped_9 (by decide) ?_
    refine ro_S (rest := []) ⟨hx, hb, hml, hown, hts⟩ (c_X6_in l G y (nI 0) (nI 2)) (va_cwS 3 hts gX6_trapped_X6_in rfl rfl rfl (by decide +kernel) ⟨Nat.le_of_ble_eq_true rfl, Nat.le_of_ble_eq_true rfl⟩) hE (hP.sub [] rfl) rfl hl.1 rfl (Nat.le_of_ble_eq_true rfl) dX6_trapped_10 ⟨Nat.zero_le _, Nat.zero_le _⟩ ?_
    refine j_bool (fun c10 => ?_) (fun c10 => ?_)
    · skip
      obtain ⟨j, hj, rfl⟩ := inI_ex (N := 2) rfl c10 (by decide)
      refine j_if_ne (tgt := 19) hx hb dX6_trapped_13 (by decide) (fun _ => ?_) (fun q => absurd q (by decide))
      refine lv_iconst (v := nI 0) hx hb dX6_trapped_19 (by decide) ?_
      refine lv_istore_n (lv' := [(3, .int (nI 0)), (0, .ref o), (1, .int (nI w)), (2, .int (nI j))]) hx hb dX6_trapped_20 rfl hl (by decide) rfl (fun ls hl => ?_)
      have loop21 : ∀ (fuel : Nat) (t : Nat), (t ≤ 23) → (trpT w j (23 - t) = trpT w j 23) → 23 - t < fuel → ∀ ls : Array Slot, lv_has ls 6 [(3, .int (nI t)), (0, .ref o), (1, .int (nI w)), (2, .int (nI j))] → W p l e (rmR 2 45) s m ([.ref o, .int (nI w), .int (nI j)] : List Value).toArray below meth c s.heap [] 0 0 (MQ below (k2_QcV (.int (mTrapped (nI w) (nI j)))) ([.ref o, .int (nI w), .int (nI j)] : List Value).toArray s 0 0 (fun _ => False)) (F0 m 21 ls []) := by
        intro fuel
        induction fuel with
        | zero => intro t h1 h2 hf; exact absurd hf (Nat.not_lt_zero _)
        | succ fuel ih21 =>
          intro t h1 h2 hf ls hl
          refine lv_iload_n hx hb dX6_trapped_21 rfl (lv_at hl 0 rfl) ?_
          refine lv_bipush (v := nI 23) hx hb dX6_trapped_22 (by decide) ?_
          refine j_icmp_ge (tgt := 93) hx hb dX6_trapped_24 (by decide) (fun c24 => ?_) (fun c24 => ?_)
          · skip
            refine lv_bipush (v := (-6)) hx hb dX6_trapped_93 (by decide) ?_
            exact ro_ret hx hb hr hlocks dX6_trapped_95 (by rw [mTrapped, if_pos ⟨c1, blw_j hj (by decide)⟩, cl_nI hw (by decide), cl_nI hj (by decide), ← h2, show 23 - t = 0 by omega, trpT])
          · skip
            refine lv_iconst (v := nI 0) hx hb dX6_trapped_27 (by decide) ?_
            refine lv_istore (lv' := [(4, .int (nI 0)), (3, .int (nI t)), (0, .ref o), (1, .int (nI w)), (2, .int (nI j))]) hx hb dX6_trapped_28 hl (by decide) rfl (fun ls hl => ?_)
            have loop30 : ∀ (fuel : Nat) (way : Nat), (way ≤ 3) → (trpW w j t (trpT w j (22 - t)) (3 - way) = trpT w j 23) → 3 - way < fuel → ∀ ls : Array Slot, lv_has ls 6 [(4, .int (nI way)), (3, .int (nI t)), (0, .ref o), (1, .int (nI w)), (2, .int (nI j))] → W p l e (rmR 2 45) s m ([.ref o, .int (nI w), .int (nI j)] : List Value).toArray below meth c s.heap [] 0 0 (MQ below (k2_QcV (.int (mTrapped (nI w) (nI j)))) ([.ref o, .int (nI w), .int (nI j)] : List Value).toArray s 0 0 (fun _ => False)) (F0 m 30 ls []) := by
              intro fuel
              induction fuel with
              | zero => intro way g1 g2 hf; exact absurd hf (Nat.not_lt_zero _)
              | succ fuel ih30 =>
                intro way g1 g2 hf ls hl
                refine lv_iload hx hb dX6_trapped_30 (lv_at hl 0 rfl) ?_
                refine lv_iconst (v := nI 3) hx hb dX6_trapped_32 (by decide) ?_
                refine j_icmp_ge (tgt := 87) hx hb dX6_trapped_33 (by decide) (fun c33 => ?_) (fun c33 => ?_)
                · skip
                  obtain ⟨x87, ex87⟩ : ∃ y : Nat, y = t + 1 := ⟨_, rfl⟩
                  refine lv_iinc (v := nI x87) (lv' := [(3, .int (nI x87)), (4, .int (nI way)), (0, .ref o), (1, .int (nI w)), (2, .int (nI j))]) hx hb dX6_trapped_87 hl (k := 1) rfl (by rw [ex87]; exact nI_add _ _) (by decide) rfl (fun ls hl => ?_)
                  refine lv_goto (tgt := 21) hx hb dX6_trapped_90 (by decide) ?_
                  exact ih21 x87 (by omega) (by rw [← g2, show 3 - way = 0 by omega, trpW, show 23 - x87 = 22 - t by omega]) (by omega) ls (lv_sub hl [0, 2, 3, 4] rfl)
                · skip
                  refine lv_iload_n hx hb dX6_trapped_36 rfl (lv_at hl 3 rfl) ?_
                  refine lv_iload_n hx hb dX6_trapped_37 rfl (lv_at hl 1 rfl) ?_
                  refine ro_S (rest := []) ⟨hx, hb, hml, hown, hts⟩ (c_X6_turn l G w t (by omega) (by omega)) (va_cwS 2 hts gX6_trapped_X6_turn rfl rfl rfl (by decide +kernel) ⟨Nat.le_of_ble_eq_true rfl, Nat.le_of_ble_eq_true rfl⟩) hE (hP.sub [] rfl) rfl hl.1 rfl (Nat.le_of_ble_eq_true rfl) dX6_trapped_38 ⟨Nat.zero_le _, Nat.zero_le _⟩ ?_
                  refine lv_iload hx hb dX6_trapped_41 (lv_at hl 0 rfl) ?_
                  refine ro_S (rest := []) ⟨hx, hb, hml, hown, hts⟩ (c_X6_caught l G (trnN w t) way (trnL_lt _ _ _) (by omega)) (va_cwS 2 hts gX6_trapped_X6_caught rfl rfl rfl (by decide +kernel) ⟨Nat.le_of_ble_eq_true rfl, Nat.le_of_ble_eq_true rfl⟩) hE (hP.sub [] rfl) rfl hl.1 rfl (Nat.le_of_ble_eq_true rfl) dX6_trapped_43 ⟨Nat.zero_le _, Nat.zero_le _⟩ ?_
                  refine j_opt (fun c43 => ?_) (fun c43 => ?_)
                  · skip
                    refine j_top (fun x46 ex46 => ?_)
                    refine lv_istore (lv' := [(5, .int (nI x46)), (4, .int (nI way)), (3, .int (nI t)), (0, .ref o), (1, .int (nI w)), (2, .int (nI j))]) hx hb dX6_trapped_46 hl (by decide) rfl (fun ls hl => ?_)
                    refine lv_iload hx hb dX6_trapped_48 (lv_at hl 0 rfl) ?_
                    refine lv_if_lt (tgt := 81) hx hb dX6_trapped_50 (by decide) (fun q => absurd q (nI_pos (by rw [ex46]; exact Nat.lt_trans (catE_lt (trnL_lt _ _ _) (by omega)) (by decide)))) (fun _ => ?_)
                    refine lv_iload_n hx hb dX6_trapped_53 rfl (lv_at hl 5 rfl) ?_
                    refine j_if_ne (tgt := 61) hx hb dX6_trapped_54 (by decide) (fun c54 => ?_) (fun c54 => ?_)
                    · skip
                      refine lv_iload_n hx hb dX6_trapped_61 rfl (lv_at hl 5 rfl) ?_
                      refine lv_iconst (v := nI 1) hx hb dX6_trapped_62 (by decide) ?_
                      refine j_icmp_ne (tgt := 71) hx hb dX6_trapped_63 (by decide) (fun c63 => ?_) (fun c63 => ?_)
                      · skip
                        refine lv_iload hx hb dX6_trapped_71 (lv_at hl 0 rfl) ?_
                        refine lv_bipush (v := nI 23) hx hb dX6_trapped_73 (by decide) ?_
                        refine lv_iload_n hx hb dX6_trapped_75 rfl (lv_at hl 2 rfl) ?_
                        refine j_sub hx hb dX6_trapped_76 ?_
                        refine ro_S (rest := []) ⟨hx, hb, hml, hown, hts⟩ (c_X6_turn l G x46 (23 - t) (by rw [ex46]; exact Nat.lt_trans (catE_lt (trnL_lt _ _ _) (by omega)) (by decide)) (by omega)) (va_cwS 2 hts gX6_trapped_X6_turn rfl rfl rfl (by decide +kernel) ⟨Nat.le_of_ble_eq_true rfl, Nat.le_of_ble_eq_true rfl⟩) hE (hP.sub [] rfl) rfl hl.1 rfl (Nat.le_of_ble_eq_true rfl) dX6_trapped_77 ⟨Nat.zero_le _, Nat.zero_le _⟩ ?_
                        exact ro_ret hx hb hr hlocks dX6_trapped_80 (by rw [mTrapped, if_pos ⟨c1, blw_j hj (by decide)⟩, cl_nI hw (by decide), cl_nI hj (by decide), ← g2, show 3 - way = (2 - way) + 1 by omega, trpW, show 2 - (2 - way) = way by omega, if_pos c43, trpV, if_neg c54, if_neg c63, ex46])
                      · skip
                        refine lv_iload hx hb dX6_trapped_66 (lv_at hl 1 rfl) ?_
                        refine lv_goto (tgt := 80) hx hb dX6_trapped_68 (by decide) ?_
                        exact ro_ret hx hb hr hlocks dX6_trapped_80 (by rw [mTrapped, if_pos ⟨c1, blw_j hj (by decide)⟩, cl_nI hw (by decide), cl_nI hj (by decide), ← g2, show 3 - way = (2 - way) + 1 by omega, trpW, show 2 - (2 - way) = way by omega, if_pos c43, trpV, if_neg c54, if_pos c63])
                    · skip
                      refine lv_iload_n hx hb dX6_trapped_57 rfl (lv_at hl 2 rfl) ?_
                      refine lv_goto (tgt := 80) hx hb dX6_trapped_58 (by decide) ?_
                      exact ro_ret hx hb hr hlocks dX6_trapped_80 (by rw [mTrapped, if_pos ⟨c1, blw_j hj (by decide)⟩, cl_nI hw (by decide), cl_nI hj (by decide), ← g2, show 3 - way = (2 - way) + 1 by omega, trpW, show 2 - (2 - way) = way by omega, if_pos c43, trpV, if_pos c54])
                  · skip
                    refine lv_istore (lv' := [(5, .int (-6)), (4, .int (nI way)), (3, .int (nI t)), (0, .ref o), (1, .int (nI w)), (2, .int (nI j))]) hx hb dX6_trapped_46 hl (by decide) rfl (fun ls hl => ?_)
                    refine lv_iload hx hb dX6_trapped_48 (lv_at hl 0 rfl) ?_
                    refine lv_if_lt (tgt := 81) hx hb dX6_trapped_50 (by decide) (fun _ => ?_) (fun q => absurd (by decide) q)
                    obtain ⟨x81, ex81⟩ : ∃ y : Nat, y = way + 1 := ⟨_, rfl⟩
                    refine lv_iinc (v := nI x81) (lv' := [(4, .int (nI x81)), (5, .int (-6)), (3, .int (nI t)), (0, .ref o), (1, .int (nI w)), (2, .int (nI j))]) hx hb dX6_trapped_81 hl (k := 1) rfl (by rw [ex81]; exact nI_add _ _) (by decide) rfl (fun ls hl => ?_)
                    refine lv_goto (tgt := 30) hx hb dX6_trapped_84 (by decide) ?_
                    exact ih30 x81 (by omega) (by rw [← g2, show 3 - way = (3 - x81) + 1 by omega, trpW, show 2 - (3 - x81) = way by omega, if_neg c43]) (by omega) ls (lv_sub hl [0, 2, 3, 4, 5] rfl)
            exact loop30 _ 0 (by omega) (by rw [← h2, show 23 - t = (22 - t) + 1 by omega, trpT, show 22 - (22 - t) = t by omega]) (Nat.lt_succ_self _) ls (lv_sub hl [0, 1, 2, 3, 4] rfl)
      exact loop21 _ 0 (by omega) rfl (Nat.lt_succ_self _) ls (lv_sub hl [0, 1, 2, 3] rfl)
    · skip
      refine j_if_ne (tgt := 19) hx hb dX6_trapped_13 (by decide) (fun q => absurd q (by decide)) (fun _ => ?_)
      refine lv_bipush (v := (-2)) hx hb dX6_trapped_16 (by decide) ?_
      exact ro_ret hx hb hr hlocks dX6_trapped_18 (by rw [mTrapped, if_neg (fun h => by rw [← inI_blw y (N := 3) (by decide) (by decide), show nI (3 - 1) = nI 2 from rfl, c10] at h; exact absurd h.2 (by decide))])
  · skip
    refine j_if_eq (tgt := 16) hx hb dX6_trapped_4 (by decide) (fun _ => ?_) (fun q => absurd q (by decide))
    refine lv_bipush (v := (-2)) hx hb dX6_trapped_16 (by decide) ?_
    exact ro_ret hx hb hr hlocks dX6_trapped_18 (by rw [mTrapped, if_neg (fun h => by rw [c1] at h; exact absurd h.1 (by decide))])
set_option maxHeartbeats 4000000 in
set_option maxRecDepth 100000 in
/-- widened -/
theorem c_X6_widened (l : Launch) (G : EG) (w : Nat) (hw : w < 2147483648) : RO l yX6_widened wsX6_widened (rmR 1 22) G [] [.int (nI w)] (.int (nI (wdnN w))) := by
  refine RO.start (by decide) rfl (Nat.le_of_ble_eq_true rfl) ?_
  intro p e s m below meth c hx hb hr hml hts hown hlocks hP hE ls hl
  have hown : s.vm.findClass RX6 = some m.cls := hown
  have hl : lv_has ls 1 [(0, .int (nI w))] := hl
  refine lv_iload_n hx hb dX6_widened_0 rfl (lv_at hl 0 rfl) ?_
  refine lv_iload_n hx hb dX6_widened_1 rfl (lv_at hl 0 rfl) ?_
  refine ro_S (rest := [.int (nI w)]) ⟨hx, hb, hml, hown, hts⟩ (c_X6_weight l G w (by omega)) (va_cwS 1 hts gX6_widened_X6_weight rfl rfl rfl (by decide +kernel) ⟨Nat.le_of_ble_eq_true rfl, Nat.le_of_ble_eq_true rfl⟩) hE (hP.sub [] rfl) rfl hl.1 rfl (Nat.le_of_ble_eq_true rfl) dX6_widened_2 ⟨Nat.zero_le _, Nat.zero_le _⟩ ?_
  refine lv_iconst (v := nI 2) hx hb dX6_widened_5 (by decide) ?_
  refine j_rem hx hb dX6_widened_6 ?_ (ha := Nat.lt_of_le_of_lt (wtN_le _) (by decide)) (h0 := by decide) (h := by decide)
  refine lv_bipush (v := nI 23) hx hb dX6_widened_7 (by decide) ?_
  refine j_shl hx hb dX6_widened_9 ?_
  refine j_or hx hb dX6_widened_10 ?_
  exact ro_ret hx hb hr hlocks dX6_widened_11 (rfl)
set_option maxHeartbeats 4000000 in
set_option maxRecDepth 100000 in
/-- wide -/
theorem c_X6_wide (l : Launch) (G : EG) (o : Nat) (sa : Nat) (ia : Nat) (ka : Nat) (ea : Nat) (ca : Nat) (tr : Nat) (fi : Int32) (x : Int32) : RO l yX6_wide wsX6_wide (rmR 2 43) G [(o, .inr (5, [.ref sa, .ref ia, .ref ka, .ref ea, .int (nI tr), .int fi, .ref ca]))] [.ref o, .int x] (.int (mWide x)) := by
  refine RO.start (by decide) rfl (Nat.le_of_ble_eq_true rfl) ?_
  intro p e s m below meth c hx hb hr hml hts hown hlocks hP hE ls hl
  have hown : s.vm.findClass RX6 = some m.cls := hown
  have hl : lv_has ls 2 [(0, .ref o), (1, .int x)] := hl
  refine lv_iload_n hx hb dX6_wide_0 rfl (lv_at hl 1 rfl) ?_
  refine ro_S (rest := []) ⟨hx, hb, hml, hown, hts⟩ (c_X6_isMessage l G x) (va_cwS 1 hts gX6_wide_X6_isMessage rfl rfl rfl (by decide +kernel) ⟨Nat.le_of_ble_eq_true rfl, Nat.le_of_ble_eq_true rfl⟩) hE (hP.sub [] rfl) rfl hl.1 rfl (Nat.le_of_ble_eq_true rfl) dX6_wide_1 ⟨Nat.zero_le _, Nat.zero_le _⟩ ?_
  refine j_bool (fun c1 => ?_) (fun c1 => ?_)
  · skip
    obtain ⟨w, hw, rfl⟩ := blw_ex c1 (by decide)
    refine j_if_eq (tgt := 17) hx hb dX6_wide_4 (by decide) (fun q => absurd q (by decide)) (fun _ => ?_)
    refine lv_iload_n hx hb dX6_wide_7 rfl (lv_at hl 1 rfl) ?_
    refine ro_S (rest := []) ⟨hx, hb, hml, hown, hts⟩ (c_X6_madeOf l G w (by omega)) (va_cwS 1 hts gX6_wide_X6_madeOf rfl rfl rfl (by decide +kernel) ⟨Nat.le_of_ble_eq_true rfl, Nat.le_of_ble_eq_true rfl⟩) hE (hP.sub [] rfl) rfl hl.1 rfl (Nat.le_of_ble_eq_true rfl) dX6_wide_8 ⟨Nat.zero_le _, Nat.zero_le _⟩ ?_
    refine ro_S (rest := []) ⟨hx, hb, hml, hown, hts⟩ (c_X6_widened l G (madeN w) (Nat.lt_trans (made_lt hw) (by decide))) (va_cwS 1 hts gX6_wide_X6_widened rfl rfl rfl (by decide +kernel) ⟨Nat.le_of_ble_eq_true rfl, Nat.le_of_ble_eq_true rfl⟩) hE (hP.sub [] rfl) rfl hl.1 rfl (Nat.le_of_ble_eq_true rfl) dX6_wide_11 ⟨Nat.zero_le _, Nat.zero_le _⟩ ?_
    refine lv_goto (tgt := 19) hx hb dX6_wide_14 (by decide) ?_
    exact ro_ret hx hb hr hlocks dX6_wide_19 (by rw [mWide, if_pos c1, cl_nI hw (by decide)])
  · skip
    refine j_if_eq (tgt := 17) hx hb dX6_wide_4 (by decide) (fun _ => ?_) (fun q => absurd q (by decide))
    refine lv_bipush (v := (-2)) hx hb dX6_wide_17 (by decide) ?_
    exact ro_ret hx hb hr hlocks dX6_wide_19 (by rw [mWide, if_neg (by rw [c1]; decide)])
set_option maxHeartbeats 4000000 in
set_option maxRecDepth 100000 in
/-- read -/
theorem c_X6_read (l : Launch) (G : EG) (o : Nat) (sa : Nat) (ia : Nat) (ka : Nat) (ea : Nat) (ca : Nat) (tr : Nat) (fi : Int32) (E : Nat → Nat) (hEb : ∀ i, i < 2048 → E i < 8388608) (x : Int32) (y : Int32) : RO l yX6_read wsX6_read (rmR 2 43) G [(o, .inr (5, [.ref sa, .ref ia, .ref ka, .ref ea, .int (nI tr), .int fi, .ref ca])), (ea, aI G 2048 E)] [.ref o, .int x, .int y] (.int (mRead E x y)) := by
  refine RO.start (by decide) rfl (Nat.le_of_ble_eq_true rfl) ?_
  intro p e s m below meth c hx hb hr hml hts hown hlocks hP hE ls hl
  have hown : s.vm.findClass RX6 = some m.cls := hown
  have hl : lv_has ls 5 [(0, .ref o), (1, .int x), (2, .int y)] := hl
  refine lv_iload_n hx hb dX6_read_0 rfl (lv_at hl 1 rfl) ?_
  refine lv_iconst (v := nI 0) hx hb dX6_read_1 (by decide) ?_
  refine lv_ldc (v := nI 16777215) hx hb hown (hts (.constant RX6 65 (nI 16777215)) (List.mem_of_getElem? (i := 1) rfl)) dX6_read_2 ?_
  refine ro_S (rest := []) ⟨hx, hb, hml, hown, hts⟩ (c_X6_in l G x (nI 0) (nI 16777215)) (va_cwS 3 hts gX6_read_X6_in rfl rfl rfl (by decide +kernel) ⟨Nat.le_of_ble_eq_true rfl, Nat.le_of_ble_eq_true rfl⟩) hE (hP.sub [] rfl) rfl hl.1 rfl (Nat.le_of_ble_eq_true rfl) dX6_read_4 ⟨Nat.zero_le _, Nat.zero_le _⟩ ?_
  refine j_bool (fun c4 => ?_) (fun c4 => ?_)
  · skip
    obtain ⟨w, hw, rfl⟩ := inI_ex (N := 16777215) rfl c4 (by decide)
    refine j_if_eq (tgt := 19) hx hb dX6_read_7 (by decide) (fun q => absurd q (by decide)) (fun _ => ?_)
    refine lv_iload_n hx hb dX6_read_10 rfl (lv_at hl 2 rfl) ?_
    refine lv_iconst (v := nI 0) hx hb dX6_read_11 (by decide) ?_
    refine lv_iconst (v := nI 1) hx hb dX6_read_12 (by decide) ?_
    refine ro_S (rest := []) ⟨hx, hb, hml, hown, hts⟩ (c_X6_in l G y (nI 0) (nI 1)) (va_cwS 3 hts gX6_read_X6_in rfl rfl rfl (by decide +kernel) ⟨Nat.le_of_ble_eq_true rfl, Nat.le_of_ble_eq_true rfl⟩) hE (hP.sub [] rfl) rfl hl.1 rfl (Nat.le_of_ble_eq_true rfl) dX6_read_13 ⟨Nat.zero_le _, Nat.zero_le _⟩ ?_
    refine j_bool (fun c13 => ?_) (fun c13 => ?_)
    · skip
      obtain ⟨j, hj, rfl⟩ := inI_ex (N := 1) rfl c13 (by decide)
      refine j_if_ne (tgt := 22) hx hb dX6_read_16 (by decide) (fun _ => ?_) (fun q => absurd q (by decide))
      have hm : w % 8388608 < 8388608 := Nat.mod_lt _ (by decide)
      refine lv_aload_n hx hb dX6_read_22 rfl (lv_at hl 0 rfl) ?_
      refine lv_iload_n hx hb dX6_read_23 rfl (lv_at hl 1 rfl) ?_
      refine lv_ldc (v := nI 8388608) hx hb hown (hts (.constant RX6 66 (nI 8388608)) (List.mem_of_getElem? (i := 2) rfl)) dX6_read_24 ?_
      refine j_rem hx hb dX6_read_26 ?_
      refine ro_V 5 0 (rest := []) ⟨hx, hb, hml, hown, hts⟩ (c_X6_nearest l G o sa ia ka ea ca tr fi E (w % 8388608) (by omega)) (cwV 1 hts gX6_read_X6_nearest rfl rfl rfl (by decide +kernel) ⟨Nat.le_of_ble_eq_true rfl, Nat.le_of_ble_eq_true rfl⟩) hE (hP.sub [0, 1] rfl) rfl rfl rfl hl.1 rfl (Nat.le_of_ble_eq_true rfl) dX6_read_27 ⟨Nat.zero_le _, Nat.zero_le _⟩ ?_
      refine j_top (fun x30 ex30 => ?_)
      refine lv_istore_n (lv' := [(3, .int (nI x30)), (0, .ref o), (1, .int (nI w)), (2, .int (nI j))]) hx hb dX6_read_30 rfl hl (by decide) rfl (fun ls hl => ?_)
      refine lv_iload_n hx hb dX6_read_31 rfl (lv_at hl 0 rfl) ?_
      refine ro_S (rest := []) ⟨hx, hb, hml, hown, hts⟩ (c_X6_widened l G x30 (by rw [ex30]; exact Nat.lt_trans (near_lt hEb hm) (by decide))) (va_cwS 1 hts gX6_read_X6_widened rfl rfl rfl (by decide +kernel) ⟨Nat.le_of_ble_eq_true rfl, Nat.le_of_ble_eq_true rfl⟩) hE (hP.sub [] rfl) rfl hl.1 rfl (Nat.le_of_ble_eq_true rfl) dX6_read_32 ⟨Nat.zero_le _, Nat.zero_le _⟩ ?_
      refine lv_iload_n hx hb dX6_read_35 rfl (lv_at hl 2 rfl) ?_
      refine j_xor hx hb dX6_read_36 ?_
      refine ro_S (rest := []) ⟨hx, hb, hml, hown, hts⟩ (c_X6_weight l G ((wdnN x30) ^^^ w) (by rw [ex30]; exact Nat.lt_trans (bd_xor 24 (wdn_lt (near_lt hEb hm)) hw) (by decide))) (va_cwS 1 hts gX6_read_X6_weight rfl rfl rfl (by decide +kernel) ⟨Nat.le_of_ble_eq_true rfl, Nat.le_of_ble_eq_true rfl⟩) hE (hP.sub [] rfl) rfl hl.1 rfl (Nat.le_of_ble_eq_true rfl) dX6_read_37 ⟨Nat.zero_le _, Nat.zero_le _⟩ ?_
      refine j_top (fun x40 ex40 => ?_)
      refine lv_istore (lv' := [(4, .int (nI x40)), (3, .int (nI x30)), (0, .ref o), (1, .int (nI w)), (2, .int (nI j))]) hx hb dX6_read_40 hl (by decide) rfl (fun ls hl => ?_)
      refine lv_iload hx hb dX6_read_42 (lv_at hl 0 rfl) ?_
      refine lv_iconst (v := nI 3) hx hb dX6_read_44 (by decide) ?_
      refine j_icmp_le (tgt := 51) hx hb dX6_read_45 (by decide) (fun c45 => ?_) (fun c45 => ?_) (h1 := by rw [ex40]; exact Nat.lt_of_le_of_lt (wtN_le _) (by decide)) (h2 := by decide)
      · skip
        refine lv_iload_n hx hb dX6_read_51 rfl (lv_at hl 4 rfl) ?_
        refine j_if_ne (tgt := 62) hx hb dX6_read_52 (by decide) (fun c52 => ?_) (fun c52 => ?_)
        · skip
          refine lv_iload hx hb dX6_read_62 (lv_at hl 0 rfl) ?_
          exact ro_ret hx hb hr hlocks dX6_read_64 (by rw [mRead, if_pos ⟨blw_j hw (by decide), blw_j hj (by decide)⟩, cl_nI hw (by decide), cl_nI hj (by decide), if_pos (by rw [ex40, ex30] at c45; exact c45), if_neg c52, ex40, ex30])
        · skip
          refine lv_iload_n hx hb dX6_read_55 rfl (lv_at hl 1 rfl) ?_
          refine lv_bipush (v := nI 11) hx hb dX6_read_56 (by decide) ?_
          refine j_shr hx hb dX6_read_58 ?_ (ha := by rw [ex30]; exact Nat.lt_trans (near_lt hEb hm) (by decide)) (h := by decide)
          refine lv_goto (tgt := 64) hx hb dX6_read_59 (by decide) ?_
          exact ro_ret hx hb hr hlocks dX6_read_64 (by rw [mRead, if_pos ⟨blw_j hw (by decide), blw_j hj (by decide)⟩, cl_nI hw (by decide), cl_nI hj (by decide), if_pos (by rw [ex40, ex30] at c45; exact c45), if_pos c52, ex30])
      · skip
        refine lv_bipush (v := (-6)) hx hb dX6_read_48 (by decide) ?_
        exact ro_ret hx hb hr hlocks dX6_read_50 (by rw [mRead, if_pos ⟨blw_j hw (by decide), blw_j hj (by decide)⟩, cl_nI hw (by decide), cl_nI hj (by decide), if_neg (by rw [ex40, ex30] at c45; omega)])
    · skip
      refine j_if_ne (tgt := 22) hx hb dX6_read_16 (by decide) (fun q => absurd q (by decide)) (fun _ => ?_)
      refine lv_bipush (v := (-2)) hx hb dX6_read_19 (by decide) ?_
      exact ro_ret hx hb hr hlocks dX6_read_21 (by rw [mRead, if_neg (fun h => by rw [← inI_blw y (N := 2) (by decide) (by decide), show nI (2 - 1) = nI 1 from rfl, c13] at h; exact absurd h.2 (by decide))])
  · skip
    refine j_if_eq (tgt := 19) hx hb dX6_read_7 (by decide) (fun _ => ?_) (fun q => absurd q (by decide))
    refine lv_bipush (v := (-2)) hx hb dX6_read_19 (by decide) ?_
    exact ro_ret hx hb hr hlocks dX6_read_21 (by rw [mRead, if_neg (fun h => by rw [← inI_blw x (N := 16777216) (by decide) (by decide), show nI (16777216 - 1) = nI 16777215 from rfl, c4] at h; exact absurd h.1 (by decide))])
set_option maxHeartbeats 4000000 in
set_option maxRecDepth 100000 in
/-- isMove -/
theorem c_X6_isMove (l : Launch) (G : EG) (a : Int32) (b : Int32) : RO l yX6_isMove wsX6_isMove (rmR 1 22) G [] [.int a, .int b] (.int (nI (mvOk a b).toNat)) := by
  refine RO.start (by decide) rfl (Nat.le_of_ble_eq_true rfl) ?_
  intro p e s m below meth c hx hb hr hml hts hown hlocks hP hE ls hl
  have hown : s.vm.findClass RX6 = some m.cls := hown
  have hl : lv_has ls 2 [(0, .int a), (1, .int b)] := hl
  refine lv_iload_n hx hb dX6_isMove_0 rfl (lv_at hl 0 rfl) ?_
  refine lv_iconst (v := nI 1) hx hb dX6_isMove_1 (by decide) ?_
  refine lv_bipush (v := nI 22) hx hb dX6_isMove_2 (by decide) ?_
  refine ro_S (rest := []) ⟨hx, hb, hml, hown, hts⟩ (c_X6_in l G a (nI 1) (nI 22)) (va_cwS 3 hts gX6_isMove_X6_in rfl rfl rfl (by decide +kernel) ⟨Nat.le_of_ble_eq_true rfl, Nat.le_of_ble_eq_true rfl⟩) hE (hP.sub [] rfl) rfl hl.1 rfl (Nat.le_of_ble_eq_true rfl) dX6_isMove_4 ⟨Nat.zero_le _, Nat.zero_le _⟩ ?_
  refine j_bool (fun c4 => ?_) (fun c4 => ?_)
  · skip
    refine j_if_eq (tgt := 24) hx hb dX6_isMove_7 (by decide) (fun q => absurd q (by decide)) (fun _ => ?_)
    refine lv_iload_n hx hb dX6_isMove_10 rfl (lv_at hl 1 rfl) ?_
    refine lv_iconst (v := nI 0) hx hb dX6_isMove_11 (by decide) ?_
    refine lv_bipush (v := nI 22) hx hb dX6_isMove_12 (by decide) ?_
    refine ro_S (rest := []) ⟨hx, hb, hml, hown, hts⟩ (c_X6_in l G b (nI 0) (nI 22)) (va_cwS 3 hts gX6_isMove_X6_in rfl rfl rfl (by decide +kernel) ⟨Nat.le_of_ble_eq_true rfl, Nat.le_of_ble_eq_true rfl⟩) hE (hP.sub [] rfl) rfl hl.1 rfl (Nat.le_of_ble_eq_true rfl) dX6_isMove_14 ⟨Nat.zero_le _, Nat.zero_le _⟩ ?_
    refine j_bool (fun c14 => ?_) (fun c14 => ?_)
    · skip
      refine j_if_eq (tgt := 24) hx hb dX6_isMove_17 (by decide) (fun q => absurd q (by decide)) (fun _ => ?_)
      refine lv_iconst (v := nI 1) hx hb dX6_isMove_20 (by decide) ?_
      refine lv_goto (tgt := 25) hx hb dX6_isMove_21 (by decide) ?_
      exact ro_zret hx hb hr hlocks dX6_isMove_25 (by rw [show mvOk a b = true from decide_eq_true ⟨((inI_mv a).mp c4).1, ((inI_mv a).mp c4).2, by rw [← inI_blw b (N := 23) (by decide) (by decide), show nI (23 - 1) = nI 22 from rfl, c14]⟩]; rfl) rfl
    · skip
      refine j_if_eq (tgt := 24) hx hb dX6_isMove_17 (by decide) (fun _ => ?_) (fun q => absurd q (by decide))
      refine lv_iconst (v := nI 0) hx hb dX6_isMove_24 (by decide) ?_
      exact ro_zret hx hb hr hlocks dX6_isMove_25 (by rw [show mvOk a b = false from decide_eq_false (fun h => by rw [← inI_blw b (N := 23) (by decide) (by decide), show nI (23 - 1) = nI 22 from rfl, c14] at h; exact absurd h.2.2 (by decide))]; rfl) rfl
  · skip
    refine j_if_eq (tgt := 24) hx hb dX6_isMove_7 (by decide) (fun _ => ?_) (fun q => absurd q (by decide))
    refine lv_iconst (v := nI 0) hx hb dX6_isMove_24 (by decide) ?_
    exact ro_zret hx hb hr hlocks dX6_isMove_25 (by rw [show mvOk a b = false from decide_eq_false (fun h => by rw [(inI_mv a).mpr ⟨h.1, h.2.1⟩] at c4; exact absurd c4 (by decide))]; rfl) rfl
set_option maxHeartbeats 4000000 in
set_option maxRecDepth 100000 in
/-- place -/
theorem c_X6_place (l : Launch) (G : EG) (q : Nat) (a : Nat) (b : Nat) (h : a * q + b < 2147483648) : RO l yX6_place wsX6_place (rmR 0 0) G [] [.int (nI q), .int (nI a), .int (nI b)] (.int (nI (tgtN q a b))) := by
  refine RO.start (by decide) rfl (Nat.le_of_ble_eq_true rfl) ?_
  intro p e s m below meth c hx hb hr hml hts hown hlocks hP hE ls hl
  have hown : s.vm.findClass RX6 = some m.cls := hown
  have hl : lv_has ls 3 [(0, .int (nI q)), (1, .int (nI a)), (2, .int (nI b))] := hl
  refine lv_iload_n hx hb dX6_place_0 rfl (lv_at hl 1 rfl) ?_
  refine lv_iload_n hx hb dX6_place_1 rfl (lv_at hl 0 rfl) ?_
  refine j_mul hx hb dX6_place_2 ?_
  refine lv_iload_n hx hb dX6_place_3 rfl (lv_at hl 2 rfl) ?_
  refine j_add hx hb dX6_place_4 ?_
  refine lv_bipush (v := nI 23) hx hb dX6_place_5 (by decide) ?_
  refine j_rem hx hb dX6_place_7 ?_ (ha := h)
  exact ro_ret hx hb hr hlocks dX6_place_8 (rfl)
set_option maxHeartbeats 4000000 in
set_option maxRecDepth 100000 in
/-- X6_go -/
theorem c_X6_go (l : Launch) (G : EG) (w : Nat) (a : Nat) (b : Nat) (hw : w < 2147483648) (ha : a < 23) (hb0 : b < 23) : RO l yX6_go wsX6_go (rmR 1 22) G [] [.int (nI w), .int (nI a), .int (nI b)] (.int (nI (carN w a b))) := by
  refine RO.start (by decide) rfl (Nat.le_of_ble_eq_true rfl) ?_
  intro p e s m below meth c hx hb hr hml hts hown hlocks hP hE ls hl
  have hown : s.vm.findClass RX6 = some m.cls := hown
  have hl : lv_has ls 5 [(0, .int (nI w)), (1, .int (nI a)), (2, .int (nI b))] := hl
  refine lv_iconst (v := nI 0) hx hb dX6_go_0 (by decide) ?_
  refine lv_istore_n (lv' := [(3, .int (nI 0)), (0, .int (nI w)), (1, .int (nI a)), (2, .int (nI b))]) hx hb dX6_go_1 rfl hl (by decide) rfl (fun ls hl => ?_)
  refine lv_iconst (v := nI 0) hx hb dX6_go_2 (by decide) ?_
  refine lv_istore (lv' := [(4, .int (nI 0)), (3, .int (nI 0)), (0, .int (nI w)), (1, .int (nI a)), (2, .int (nI b))]) hx hb dX6_go_3 hl (by decide) rfl (fun ls hl => ?_)
  have loop5 : ∀ (fuel : Nat) (v : Nat) (q : Nat), (q ≤ 23) → (v = carL w a b q) → 23 - q < fuel → ∀ ls : Array Slot, lv_has ls 5 [(4, .int (nI q)), (3, .int (nI v)), (0, .int (nI w)), (1, .int (nI a)), (2, .int (nI b))] → W p l e (rmR 1 22) s m ([.int (nI w), .int (nI a), .int (nI b)] : List Value).toArray below meth c s.heap [] 0 0 (MQ below (k2_QcV (.int (nI (carN w a b)))) ([.int (nI w), .int (nI a), .int (nI b)] : List Value).toArray s 0 0 (fun _ => False)) (F0 m 5 ls []) := by
    intro fuel
    induction fuel with
    | zero => intro v q h1 h2 hf; exact absurd hf (Nat.not_lt_zero _)
    | succ fuel ih5 =>
      intro v q h1 h2 hf ls hl
      refine lv_iload hx hb dX6_go_5 (lv_at hl 0 rfl) ?_
      refine lv_bipush (v := nI 23) hx hb dX6_go_7 (by decide) ?_
      refine j_icmp_ge (tgt := 35) hx hb dX6_go_9 (by decide) (fun c9 => ?_) (fun c9 => ?_)
      · skip
        refine lv_iload_n hx hb dX6_go_35 rfl (lv_at hl 1 rfl) ?_
        exact ro_ret hx hb hr hlocks dX6_go_36 (by rw [h2, show q = 23 by omega]; rfl)
      · skip
        refine lv_iload_n hx hb dX6_go_12 rfl (lv_at hl 1 rfl) ?_
        refine lv_iload_n hx hb dX6_go_13 rfl (lv_at hl 2 rfl) ?_
        refine lv_iload hx hb dX6_go_14 (lv_at hl 0 rfl) ?_
        refine j_shr hx hb dX6_go_16 ?_
        refine lv_iconst (v := nI 1) hx hb dX6_go_17 (by decide) ?_
        refine j_and hx hb dX6_go_18 ?_
        refine lv_iload hx hb dX6_go_19 (lv_at hl 0 rfl) ?_
        refine lv_iload_n hx hb dX6_go_21 rfl (lv_at hl 3 rfl) ?_
        refine lv_iload_n hx hb dX6_go_22 rfl (lv_at hl 4 rfl) ?_
        refine ro_S (rest := [.int (nI ((w >>> q) &&& 1)), .int (nI v)]) ⟨hx, hb, hml, hown, hts⟩ (c_X6_place l G q a b (tg_bd (by omega) (by omega) (by omega))) (va_cwS 3 hts gX6_go_X6_place rfl rfl rfl (by decide +kernel) ⟨Nat.le_of_ble_eq_true rfl, Nat.le_of_ble_eq_true rfl⟩) hE (hP.sub [] rfl) rfl hl.1 rfl (Nat.le_of_ble_eq_true rfl) dX6_go_23 ⟨Nat.zero_le _, Nat.zero_le _⟩ ?_
        refine j_shl hx hb dX6_go_26 ?_ (h := Nat.lt_trans (tgtN_lt _ _ _) (by decide))
        refine j_or hx hb dX6_go_27 ?_
        refine j_top (fun x28 ex28 => ?_)
        refine lv_istore_n (lv' := [(3, .int (nI x28)), (4, .int (nI q)), (0, .int (nI w)), (1, .int (nI a)), (2, .int (nI b))]) hx hb dX6_go_28 rfl hl (by decide) rfl (fun ls hl => ?_)
        obtain ⟨x29, ex29⟩ : ∃ y : Nat, y = q + 1 := ⟨_, rfl⟩
        refine lv_iinc (v := nI x29) (lv' := [(4, .int (nI x29)), (3, .int (nI x28)), (0, .int (nI w)), (1, .int (nI a)), (2, .int (nI b))]) hx hb dX6_go_29 hl (k := 1) rfl (by rw [ex29]; exact nI_add _ _) (by decide) rfl (fun ls hl => ?_)
        refine lv_goto (tgt := 5) hx hb dX6_go_32 (by decide) ?_
        exact ih5 x28 x29 (by omega) (by rw [ex28, ex29, h2]; rfl) (by omega) ls (lv_sub hl [0, 1, 2, 3, 4] rfl)
  exact loop5 _ 0 0 (by omega) rfl (Nat.lt_succ_self _) ls (lv_sub hl [0, 1, 2, 3, 4] rfl)
set_option maxHeartbeats 4000000 in
set_option maxRecDepth 100000 in
/-- X6_goBack -/
theorem c_X6_goBack (l : Launch) (G : EG) (w : Nat) (a : Nat) (b : Nat) (hw : w < 2147483648) (ha : a < 23) (hb0 : b < 23) : RO l yX6_goBack wsX6_goBack (rmR 1 22) G [] [.int (nI w), .int (nI a), .int (nI b)] (.int (nI (bakN w a b))) := by
  refine RO.start (by decide) rfl (Nat.le_of_ble_eq_true rfl) ?_
  intro p e s m below meth c hx hb hr hml hts hown hlocks hP hE ls hl
  have hown : s.vm.findClass RX6 = some m.cls := hown
  have hl : lv_has ls 5 [(0, .int (nI w)), (1, .int (nI a)), (2, .int (nI b))] := hl
  refine lv_iconst (v := nI 0) hx hb dX6_goBack_0 (by decide) ?_
  refine lv_istore_n (lv' := [(3, .int (nI 0)), (0, .int (nI w)), (1, .int (nI a)), (2, .int (nI b))]) hx hb dX6_goBack_1 rfl hl (by decide) rfl (fun ls hl => ?_)
  refine lv_iconst (v := nI 0) hx hb dX6_goBack_2 (by decide) ?_
  refine lv_istore (lv' := [(4, .int (nI 0)), (3, .int (nI 0)), (0, .int (nI w)), (1, .int (nI a)), (2, .int (nI b))]) hx hb dX6_goBack_3 hl (by decide) rfl (fun ls hl => ?_)
  have loop5 : ∀ (fuel : Nat) (v : Nat) (q : Nat), (q ≤ 23) → (v = bakL w a b q) → 23 - q < fuel → ∀ ls : Array Slot, lv_has ls 5 [(4, .int (nI q)), (3, .int (nI v)), (0, .int (nI w)), (1, .int (nI a)), (2, .int (nI b))] → W p l e (rmR 1 22) s m ([.int (nI w), .int (nI a), .int (nI b)] : List Value).toArray below meth c s.heap [] 0 0 (MQ below (k2_QcV (.int (nI (bakN w a b)))) ([.int (nI w), .int (nI a), .int (nI b)] : List Value).toArray s 0 0 (fun _ => False)) (F0 m 5 ls []) := by
    intro fuel
    induction fuel with
    | zero => intro v q h1 h2 hf; exact absurd hf (Nat.not_lt_zero _)
    | succ fuel ih5 =>
      intro v q h1 h2 hf ls hl
      refine lv_iload hx hb dX6_goBack_5 (lv_at hl 0 rfl) ?_
      refine lv_bipush (v := nI 23) hx hb dX6_goBack_7 (by decide) ?_
      refine j_icmp_ge (tgt := 35) hx hb dX6_goBack_9 (by decide) (fun c9 => ?_) (fun c9 => ?_)
      · skip
        refine lv_iload_n hx hb dX6_goBack_35 rfl (lv_at hl 1 rfl) ?_
        exact ro_ret hx hb hr hlocks dX6_goBack_36 (by rw [h2, show q = 23 by omega]; rfl)
      · skip
        refine lv_iload_n hx hb dX6_goBack_12 rfl (lv_at hl 1 rfl) ?_
        refine lv_iload_n hx hb dX6_goBack_13 rfl (lv_at hl 2 rfl) ?_
        refine lv_iload hx hb dX6_goBack_14 (lv_at hl 0 rfl) ?_
        refine lv_iload_n hx hb dX6_goBack_16 rfl (lv_at hl 3 rfl) ?_
        refine lv_iload_n hx hb dX6_goBack_17 rfl (lv_at hl 4 rfl) ?_
        refine ro_S (rest := [.int (nI w), .int (nI v)]) ⟨hx, hb, hml, hown, hts⟩ (c_X6_place l G q a b (tg_bd (by omega) (by omega) (by omega))) (va_cwS 3 hts gX6_goBack_X6_place rfl rfl rfl (by decide +kernel) ⟨Nat.le_of_ble_eq_true rfl, Nat.le_of_ble_eq_true rfl⟩) hE (hP.sub [] rfl) rfl hl.1 rfl (Nat.le_of_ble_eq_true rfl) dX6_goBack_18 ⟨Nat.zero_le _, Nat.zero_le _⟩ ?_
        refine j_shr hx hb dX6_goBack_21 ?_ (h := Nat.lt_trans (tgtN_lt _ _ _) (by decide))
        refine lv_iconst (v := nI 1) hx hb dX6_goBack_22 (by decide) ?_
        refine j_and hx hb dX6_goBack_23 ?_
        refine lv_iload hx hb dX6_goBack_24 (lv_at hl 0 rfl) ?_
        refine j_shl hx hb dX6_goBack_26 ?_
        refine j_or hx hb dX6_goBack_27 ?_
        refine j_top (fun x28 ex28 => ?_)
        refine lv_istore_n (lv' := [(3, .int (nI x28)), (4, .int (nI q)), (0, .int (nI w)), (1, .int (nI a)), (2, .int (nI b))]) hx hb dX6_goBack_28 rfl hl (by decide) rfl (fun ls hl => ?_)
        obtain ⟨x29, ex29⟩ : ∃ y : Nat, y = q + 1 := ⟨_, rfl⟩
        refine lv_iinc (v := nI x29) (lv' := [(4, .int (nI x29)), (3, .int (nI x28)), (0, .int (nI w)), (1, .int (nI a)), (2, .int (nI b))]) hx hb dX6_goBack_29 hl (k := 1) rfl (by rw [ex29]; exact nI_add _ _) (by decide) rfl (fun ls hl => ?_)
        refine lv_goto (tgt := 5) hx hb dX6_goBack_32 (by decide) ?_
        exact ih5 x28 x29 (by omega) (by rw [ex28, ex29, h2]; rfl) (by omega) ls (lv_sub hl [0, 1, 2, 3, 4] rfl)
  exact loop5 _ 0 0 (by omega) rfl (Nat.lt_succ_self _) ls (lv_sub hl [0, 1, 2, 3, 4] rfl)
set_option maxHeartbeats 4000000 in
set_option maxRecDepth 100000 in
/-- keepsCode -/
theorem c_X6_keepsCode (l : Launch) (G : EG) (a : Nat) (b : Nat) (ha : a < 23) (hb0 : b < 23) : RO l yX6_keepsCode wsX6_keepsCode (rmR 2 46) G [] [.int (nI a), .int (nI b)] (.int (nI (kepN a b).toNat)) := by
  refine RO.start (by decide) rfl (Nat.le_of_ble_eq_true rfl) ?_
  intro p e s m below meth c hx hb hr hml hts hown hlocks hP hE ls hl
  have hown : s.vm.findClass RX6 = some m.cls := hown
  have hl : lv_has ls 4 [(0, .int (nI a)), (1, .int (nI b))] := hl
  refine lv_iconst (v := nI 1) hx hb dX6_keepsCode_0 (by decide) ?_
  refine lv_istore_n (lv' := [(2, .int (nI 1)), (0, .int (nI a)), (1, .int (nI b))]) hx hb dX6_keepsCode_1 rfl hl (by decide) rfl (fun ls hl => ?_)
  refine lv_iconst (v := nI 0) hx hb dX6_keepsCode_2 (by decide) ?_
  refine lv_istore_n (lv' := [(3, .int (nI 0)), (2, .int (nI 1)), (0, .int (nI a)), (1, .int (nI b))]) hx hb dX6_keepsCode_3 rfl hl (by decide) rfl (fun ls hl => ?_)
  have loop4 : ∀ (fuel : Nat) (f : Nat) (k : Nat), (k ≤ 12) → (f = 0 ∨ f = 1) → (f = 1 → ∀ i, i < k → remN (carN (madeN (1 <<< i)) a b) = 0) → (f = 0 → ∃ i, i < k ∧ ¬ remN (carN (madeN (1 <<< i)) a b) = 0) → 12 - k < fuel → ∀ ls : Array Slot, lv_has ls 4 [(3, .int (nI k)), (2, .int (nI f)), (0, .int (nI a)), (1, .int (nI b))] → W p l e (rmR 2 46) s m ([.int (nI a), .int (nI b)] : List Value).toArray below meth c s.heap [] 0 0 (MQ below (k2_QcV (.int (nI (kepN a b).toNat))) ([.int (nI a), .int (nI b)] : List Value).toArray s 0 0 (fun _ => False)) (F0 m 4 ls []) := by
    intro fuel
    induction fuel with
    | zero => intro f k h1 h2 h3 h4 hf; exact absurd hf (Nat.not_lt_zero _)
    | succ fuel ih4 =>
      intro f k h1 h2 h3 h4 hf ls hl
      refine lv_iload_n hx hb dX6_keepsCode_4 rfl (lv_at hl 0 rfl) ?_
      refine lv_bipush (v := nI 12) hx hb dX6_keepsCode_5 (by decide) ?_
      refine j_icmp_ge (tgt := 43) hx hb dX6_keepsCode_7 (by decide) (fun c7 => ?_) (fun c7 => ?_)
      · skip
        refine lv_iload_n hx hb dX6_keepsCode_43 rfl (lv_at hl 1 rfl) ?_
        rcases h2 with rfl | rfl
        · exact ro_zret hx hb hr hlocks dX6_keepsCode_44 (by obtain ⟨i, g1, g2⟩ := h4 rfl; rw [kep_f (i := i) (by omega) g2]; rfl) rfl
        · exact ro_zret hx hb hr hlocks dX6_keepsCode_44 (by rw [kep_t (fun i hi => h3 rfl i (by omega))]; rfl) rfl
      · skip
        refine lv_iload_n hx hb dX6_keepsCode_10 rfl (lv_at hl 1 rfl) ?_
        refine j_if_eq (tgt := 35) hx hb dX6_keepsCode_11 (by decide) (fun c11 => ?_) (fun c11 => ?_) (h1 := by omega)
        · skip
          refine lv_iconst (v := nI 0) hx hb dX6_keepsCode_35 (by decide) ?_
          refine lv_istore_n (lv' := [(2, .int (nI 0)), (3, .int (nI k)), (0, .int (nI a)), (1, .int (nI b))]) hx hb dX6_keepsCode_36 rfl hl (by decide) rfl (fun ls hl => ?_)
          obtain ⟨x37, ex37⟩ : ∃ y : Nat, y = k + 1 := ⟨_, rfl⟩
          refine lv_iinc (v := nI x37) (lv' := [(3, .int (nI x37)), (2, .int (nI 0)), (0, .int (nI a)), (1, .int (nI b))]) hx hb dX6_keepsCode_37 hl (k := 1) rfl (by rw [ex37]; exact nI_add _ _) (by decide) rfl (fun ls hl => ?_)
          refine lv_goto (tgt := 4) hx hb dX6_keepsCode_40 (by decide) ?_
          exact ih4 0 x37 (by omega) (Or.inl rfl) (fun h => absurd h (by decide)) (fun _ => by obtain ⟨i, g1, g2⟩ := h4 c11; exact ⟨i, by omega, g2⟩) (by omega) ls (lv_sub hl [0, 1, 2, 3] rfl)
        · skip
          refine lv_iconst (v := nI 1) hx hb dX6_keepsCode_14 (by decide) ?_
          refine lv_iload_n hx hb dX6_keepsCode_15 rfl (lv_at hl 0 rfl) ?_
          refine j_shl hx hb dX6_keepsCode_16 ?_
          refine ro_S (rest := []) ⟨hx, hb, hml, hown, hts⟩ (c_X6_madeOf l G (1 <<< k) (shl_4096 (by omega))) (va_cwS 1 hts gX6_keepsCode_X6_madeOf rfl rfl rfl (by decide +kernel) ⟨Nat.le_of_ble_eq_true rfl, Nat.le_of_ble_eq_true rfl⟩) hE (hP.sub [] rfl) rfl hl.1 rfl (Nat.le_of_ble_eq_true rfl) dX6_keepsCode_17 ⟨Nat.zero_le _, Nat.zero_le _⟩ ?_
          refine lv_iload_n hx hb dX6_keepsCode_20 rfl (lv_at hl 2 rfl) ?_
          refine lv_iload_n hx hb dX6_keepsCode_21 rfl (lv_at hl 3 rfl) ?_
          refine ro_S (rest := []) ⟨hx, hb, hml, hown, hts⟩ (c_X6_go l G (madeN (1 <<< k)) a b (Nat.lt_trans (made_lt (shl_4096 (by omega))) (by decide)) (by omega) (by omega)) (va_cwS 3 hts gX6_keepsCode_X6_go rfl rfl rfl (by decide +kernel) ⟨Nat.le_of_ble_eq_true rfl, Nat.le_of_ble_eq_true rfl⟩) hE (hP.sub [] rfl) rfl hl.1 rfl (Nat.le_of_ble_eq_true rfl) dX6_keepsCode_22 ⟨Nat.zero_le _, Nat.zero_le _⟩ ?_
          refine ro_S (rest := []) ⟨hx, hb, hml, hown, hts⟩ (c_X6_restOf l G (carN (madeN (1 <<< k)) a b) (Nat.lt_trans (carL_lt _ _ _ _) (by decide))) (va_cwS 1 hts gX6_keepsCode_X6_restOf rfl rfl rfl (by decide +kernel) ⟨Nat.le_of_ble_eq_true rfl, Nat.le_of_ble_eq_true rfl⟩) hE (hP.sub [] rfl) rfl hl.1 rfl (Nat.le_of_ble_eq_true rfl) dX6_keepsCode_25 ⟨Nat.zero_le _, Nat.zero_le _⟩ ?_
          refine j_if_ne (tgt := 35) hx hb dX6_keepsCode_28 (by decide) (fun c28 => ?_) (fun c28 => ?_) (h1 := Nat.lt_trans (remN_lt (Nat.lt_trans (carL_lt _ _ _ _) (by decide))) (by decide))
          · skip
            refine lv_iconst (v := nI 0) hx hb dX6_keepsCode_35 (by decide) ?_
            refine lv_istore_n (lv' := [(2, .int (nI 0)), (3, .int (nI k)), (0, .int (nI a)), (1, .int (nI b))]) hx hb dX6_keepsCode_36 rfl hl (by decide) rfl (fun ls hl => ?_)
            obtain ⟨x37, ex37⟩ : ∃ y : Nat, y = k + 1 := ⟨_, rfl⟩
            refine lv_iinc (v := nI x37) (lv' := [(3, .int (nI x37)), (2, .int (nI 0)), (0, .int (nI a)), (1, .int (nI b))]) hx hb dX6_keepsCode_37 hl (k := 1) rfl (by rw [ex37]; exact nI_add _ _) (by decide) rfl (fun ls hl => ?_)
            refine lv_goto (tgt := 4) hx hb dX6_keepsCode_40 (by decide) ?_
            exact ih4 0 x37 (by omega) (Or.inl rfl) (fun h => absurd h (by decide)) (fun _ => ⟨k, by omega, c28⟩) (by omega) ls (lv_sub hl [0, 1, 2, 3] rfl)
          · skip
            refine lv_iconst (v := nI 1) hx hb dX6_keepsCode_31 (by decide) ?_
            refine lv_goto (tgt := 36) hx hb dX6_keepsCode_32 (by decide) ?_
            refine lv_istore_n (lv' := [(2, .int (nI 1)), (3, .int (nI k)), (0, .int (nI a)), (1, .int (nI b))]) hx hb dX6_keepsCode_36 rfl hl (by decide) rfl (fun ls hl => ?_)
            obtain ⟨x37, ex37⟩ : ∃ y : Nat, y = k + 1 := ⟨_, rfl⟩
            refine lv_iinc (v := nI x37) (lv' := [(3, .int (nI x37)), (2, .int (nI 1)), (0, .int (nI a)), (1, .int (nI b))]) hx hb dX6_keepsCode_37 hl (k := 1) rfl (by rw [ex37]; exact nI_add _ _) (by decide) rfl (fun ls hl => ?_)
            refine lv_goto (tgt := 4) hx hb dX6_keepsCode_40 (by decide) ?_
            exact ih4 1 x37 (by omega) (Or.inr rfl) (by rw [ex37]; intro _; exact lt_s (h3 (by omega)) c28) (fun h => absurd h (by decide)) (by omega) ls (lv_sub hl [0, 1, 2, 3] rfl)
  exact loop4 _ 1 0 (by omega) (Or.inr rfl) (fun _ _ h => absurd h (Nat.not_lt_zero _)) (fun h => absurd h (by decide)) (Nat.lt_succ_self _) ls (lv_sub hl [0, 1, 2, 3] rfl)
set_option maxHeartbeats 4000000 in
set_option maxRecDepth 100000 in
/-- keeps -/
theorem c_X6_keeps (l : Launch) (G : EG) (o : Nat) (sa : Nat) (ia : Nat) (ka : Nat) (ea : Nat) (ca : Nat) (tr : Nat) (fi : Int32) (x : Int32) (y : Int32) : RO l yX6_keeps wsX6_keeps (rmR 3 69) G [(o, .inr (5, [.ref sa, .ref ia, .ref ka, .ref ea, .int (nI tr), .int fi, .ref ca]))] [.ref o, .int x, .int y] (.int (mKeeps x y)) := by
  refine RO.start (by decide) rfl (Nat.le_of_ble_eq_true rfl) ?_
  intro p e s m below meth c hx hb hr hml hts hown hlocks hP hE ls hl
  have hown : s.vm.findClass RX6 = some m.cls := hown
  have hl : lv_has ls 3 [(0, .ref o), (1, .int x), (2, .int y)] := hl
  refine lv_iload_n hx hb dX6_keeps_0 rfl (lv_at hl 1 rfl) ?_
  refine lv_iload_n hx hb dX6_keeps_1 rfl (lv_at hl 2 rfl) ?_
  refine ro_S (rest := []) ⟨hx, hb, hml, hown, hts⟩ (c_X6_isMove l G x y) (va_cwS 2 hts gX6_keeps_X6_isMove rfl rfl rfl (by decide +kernel) ⟨Nat.le_of_ble_eq_true rfl, Nat.le_of_ble_eq_true rfl⟩) hE (hP.sub [] rfl) rfl hl.1 rfl (Nat.le_of_ble_eq_true rfl) dX6_keeps_2 ⟨Nat.zero_le _, Nat.zero_le _⟩ ?_
  refine j_bool (fun c2 => ?_) (fun c2 => ?_)
  · skip
    obtain ⟨a, d, ha0, ha, hd, rfl, rfl⟩ := mv_ex c2
    refine j_if_ne (tgt := 11) hx hb dX6_keeps_5 (by decide) (fun _ => ?_) (fun q => absurd q (by decide))
    refine lv_iload_n hx hb dX6_keeps_11 rfl (lv_at hl 1 rfl) ?_
    refine lv_iload_n hx hb dX6_keeps_12 rfl (lv_at hl 2 rfl) ?_
    refine ro_S (rest := []) ⟨hx, hb, hml, hown, hts⟩ (c_X6_keepsCode l G a d (by omega) (by omega)) (va_cwS 2 hts gX6_keeps_X6_keepsCode rfl rfl rfl (by decide +kernel) ⟨Nat.le_of_ble_eq_true rfl, Nat.le_of_ble_eq_true rfl⟩) hE (hP.sub [] rfl) rfl hl.1 rfl (Nat.le_of_ble_eq_true rfl) dX6_keeps_13 ⟨Nat.zero_le _, Nat.zero_le _⟩ ?_
    refine j_bool (fun c13 => ?_) (fun c13 => ?_)
    · skip
      refine j_if_eq (tgt := 23) hx hb dX6_keeps_16 (by decide) (fun q => absurd q (by decide)) (fun _ => ?_)
      refine lv_iconst (v := nI 1) hx hb dX6_keeps_19 (by decide) ?_
      refine lv_goto (tgt := 24) hx hb dX6_keeps_20 (by decide) ?_
      exact ro_ret hx hb hr hlocks dX6_keeps_24 (by rw [mKeeps, if_pos c2, cl_nI ha (by decide), cl_nI hd (by decide), if_pos c13])
    · skip
      refine j_if_eq (tgt := 23) hx hb dX6_keeps_16 (by decide) (fun _ => ?_) (fun q => absurd q (by decide))
      refine lv_iconst (v := nI 0) hx hb dX6_keeps_23 (by decide) ?_
      exact ro_ret hx hb hr hlocks dX6_keeps_24 (by rw [mKeeps, if_pos c2, cl_nI ha (by decide), cl_nI hd (by decide), if_neg (by rw [c13]; decide)])
  · skip
    refine j_if_ne (tgt := 11) hx hb dX6_keeps_5 (by decide) (fun q => absurd q (by decide)) (fun _ => ?_)
    refine lv_bipush (v := (-2)) hx hb dX6_keeps_8 (by decide) ?_
    exact ro_ret hx hb hr hlocks dX6_keeps_10 (by rw [mKeeps, if_neg (by rw [c2]; decide)])
set_option maxHeartbeats 4000000 in
set_option maxRecDepth 100000 in
/-- moved -/
theorem c_X6_moved (l : Launch) (G : EG) (o : Nat) (sa : Nat) (ia : Nat) (ka : Nat) (ea : Nat) (ca : Nat) (tr : Nat) (fi : Int32) (x : Int32) (y : Int32) (z : Int32) : RO l yX6_moved wsX6_moved (rmR 2 46) G [(o, .inr (5, [.ref sa, .ref ia, .ref ka, .ref ea, .int (nI tr), .int fi, .ref ca]))] [.ref o, .int x, .int y, .int z] (.int (mMoved x y z)) := by
  refine RO.start (by decide) rfl (Nat.le_of_ble_eq_true rfl) ?_
  intro p e s m below meth c hx hb hr hml hts hown hlocks hP hE ls hl
  have hown : s.vm.findClass RX6 = some m.cls := hown
  have hl : lv_has ls 4 [(0, .ref o), (1, .int x), (2, .int y), (3, .int z)] := hl
  refine lv_iload_n hx hb dX6_moved_0 rfl (lv_at hl 1 rfl) ?_
  refine ro_S (rest := []) ⟨hx, hb, hml, hown, hts⟩ (c_X6_isWord l G x) (va_cwS 1 hts gX6_moved_X6_isWord rfl rfl rfl (by decide +kernel) ⟨Nat.le_of_ble_eq_true rfl, Nat.le_of_ble_eq_true rfl⟩) hE (hP.sub [] rfl) rfl hl.1 rfl (Nat.le_of_ble_eq_true rfl) dX6_moved_1 ⟨Nat.zero_le _, Nat.zero_le _⟩ ?_
  refine j_bool (fun c1 => ?_) (fun c1 => ?_)
  · skip
    obtain ⟨w, hw, rfl⟩ := blw_ex c1 (by decide)
    refine j_if_eq (tgt := 24) hx hb dX6_moved_4 (by decide) (fun q => absurd q (by decide)) (fun _ => ?_)
    refine lv_iload_n hx hb dX6_moved_7 rfl (lv_at hl 2 rfl) ?_
    refine lv_iload_n hx hb dX6_moved_8 rfl (lv_at hl 3 rfl) ?_
    refine ro_S (rest := []) ⟨hx, hb, hml, hown, hts⟩ (c_X6_isMove l G y z) (va_cwS 2 hts gX6_moved_X6_isMove rfl rfl rfl (by decide +kernel) ⟨Nat.le_of_ble_eq_true rfl, Nat.le_of_ble_eq_true rfl⟩) hE (hP.sub [] rfl) rfl hl.1 rfl (Nat.le_of_ble_eq_true rfl) dX6_moved_9 ⟨Nat.zero_le _, Nat.zero_le _⟩ ?_
    refine j_bool (fun c9 => ?_) (fun c9 => ?_)
    · skip
      obtain ⟨a, d, ha0, ha, hd, rfl, rfl⟩ := mv_ex c9
      refine j_if_eq (tgt := 24) hx hb dX6_moved_12 (by decide) (fun q => absurd q (by decide)) (fun _ => ?_)
      refine lv_iload_n hx hb dX6_moved_15 rfl (lv_at hl 1 rfl) ?_
      refine lv_iload_n hx hb dX6_moved_16 rfl (lv_at hl 2 rfl) ?_
      refine lv_iload_n hx hb dX6_moved_17 rfl (lv_at hl 3 rfl) ?_
      refine ro_S (rest := []) ⟨hx, hb, hml, hown, hts⟩ (c_X6_go l G w a d (by omega) (by omega) (by omega)) (va_cwS 3 hts gX6_moved_X6_go rfl rfl rfl (by decide +kernel) ⟨Nat.le_of_ble_eq_true rfl, Nat.le_of_ble_eq_true rfl⟩) hE (hP.sub [] rfl) rfl hl.1 rfl (Nat.le_of_ble_eq_true rfl) dX6_moved_18 ⟨Nat.zero_le _, Nat.zero_le _⟩ ?_
      refine lv_goto (tgt := 26) hx hb dX6_moved_21 (by decide) ?_
      exact ro_ret hx hb hr hlocks dX6_moved_26 (by rw [mMoved, if_pos ⟨c1, c9⟩, cl_nI hw (by decide), cl_nI ha (by decide), cl_nI hd (by decide)])
    · skip
      refine j_if_eq (tgt := 24) hx hb dX6_moved_12 (by decide) (fun _ => ?_) (fun q => absurd q (by decide))
      refine lv_bipush (v := (-2)) hx hb dX6_moved_24 (by decide) ?_
      exact ro_ret hx hb hr hlocks dX6_moved_26 (by rw [mMoved, if_neg (fun h => by rw [c9] at h; exact absurd h.2 (by decide))])
  · skip
    refine j_if_eq (tgt := 24) hx hb dX6_moved_4 (by decide) (fun _ => ?_) (fun q => absurd q (by decide))
    refine lv_bipush (v := (-2)) hx hb dX6_moved_24 (by decide) ?_
    exact ro_ret hx hb hr hlocks dX6_moved_26 (by rw [mMoved, if_neg (fun h => by rw [c1] at h; exact absurd h.1 (by decide))])
