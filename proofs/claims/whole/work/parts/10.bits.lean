set_option maxHeartbeats 4000000 in
set_option maxRecDepth 100000 in
/-- Integer.bitCount, for ints that are not negative -/
theorem c_J6_bitCount_0f7a4 (l : Launch) (G : EG) (x : Nat) (hx0 : x < 2147483648) : RO l yJ6_bitCount_0f7a4 wsJ6_bitCount_0f7a4 (rmR 0 0) G [] [.int (nI x)] (.int (nI (bcN x))) := by
  refine RO.start (by decide) rfl (Nat.le_of_ble_eq_true rfl) ?_
  intro p e s m below meth c hx hb hr hml hts hown hlocks hP hE ls hl
  have hown : s.vm.findClass RJ6 = some m.cls := hown
  have hl : lv_has ls 1 [(0, .int (nI x))] := hl
  refine lv_iload_n hx hb dJ6_bitCount_0f7a4_0 rfl (lv_at hl 0 rfl) ?_
  refine lv_iload_n hx hb dJ6_bitCount_0f7a4_1 rfl (lv_at hl 0 rfl) ?_
  refine lv_iconst (v := nI 1) hx hb dJ6_bitCount_0f7a4_2 (by decide) ?_
  refine j_ushr hx hb dJ6_bitCount_0f7a4_3 ?_
  refine lv_ldcw (v := nI 1431655765) hx hb hown (hts (.constant RJ6 265 (nI 1431655765)) (List.mem_of_getElem? (i := 1) rfl)) dJ6_bitCount_0f7a4_4 ?_
  refine j_and hx hb dJ6_bitCount_0f7a4_7 ?_
  refine j_sub hx hb dJ6_bitCount_0f7a4_8 ?_ (h := Nat.le_trans Nat.and_le_left (Nat.shiftRight_le _ _))
  refine j_top (fun x9 ex9 => ?_)
  refine lv_istore_n (lv' := [(0, .int (nI x9))]) hx hb dJ6_bitCount_0f7a4_9 rfl hl (by decide) rfl (fun ls hl => ?_)
  have b1 : x9 ≤ x := by rw [ex9]; exact Nat.sub_le _ _
  refine lv_iload_n hx hb dJ6_bitCount_0f7a4_10 rfl (lv_at hl 0 rfl) ?_
  refine lv_ldcw (v := nI 858993459) hx hb hown (hts (.constant RJ6 266 (nI 858993459)) (List.mem_of_getElem? (i := 2) rfl)) dJ6_bitCount_0f7a4_11 ?_
  refine j_and hx hb dJ6_bitCount_0f7a4_14 ?_
  refine lv_iload_n hx hb dJ6_bitCount_0f7a4_15 rfl (lv_at hl 0 rfl) ?_
  refine lv_iconst (v := nI 2) hx hb dJ6_bitCount_0f7a4_16 (by decide) ?_
  refine j_ushr hx hb dJ6_bitCount_0f7a4_17 ?_
  refine lv_ldcw (v := nI 858993459) hx hb hown (hts (.constant RJ6 266 (nI 858993459)) (List.mem_of_getElem? (i := 2) rfl)) dJ6_bitCount_0f7a4_18 ?_
  refine j_and hx hb dJ6_bitCount_0f7a4_21 ?_
  refine j_add hx hb dJ6_bitCount_0f7a4_22 ?_
  refine j_top (fun x23 ex23 => ?_)
  refine lv_istore_n (lv' := [(0, .int (nI x23))]) hx hb dJ6_bitCount_0f7a4_23 rfl hl (by decide) rfl (fun ls hl => ?_)
  have b2 : x23 ≤ 1717986918 := by rw [ex23]; exact Nat.add_le_add (b := 858993459) (d := 858993459) Nat.and_le_right Nat.and_le_right
  have b3 : x23 >>> 4 ≤ x23 := Nat.shiftRight_le _ _
  refine lv_iload_n hx hb dJ6_bitCount_0f7a4_24 rfl (lv_at hl 0 rfl) ?_
  refine lv_iload_n hx hb dJ6_bitCount_0f7a4_25 rfl (lv_at hl 0 rfl) ?_
  refine lv_iconst (v := nI 4) hx hb dJ6_bitCount_0f7a4_26 (by decide) ?_
  refine j_ushr hx hb dJ6_bitCount_0f7a4_27 ?_
  refine j_add hx hb dJ6_bitCount_0f7a4_28 ?_
  refine lv_ldcw (v := nI 252645135) hx hb hown (hts (.constant RJ6 267 (nI 252645135)) (List.mem_of_getElem? (i := 3) rfl)) dJ6_bitCount_0f7a4_29 ?_
  refine j_and hx hb dJ6_bitCount_0f7a4_32 ?_
  refine j_top (fun x33 ex33 => ?_)
  refine lv_istore_n (lv' := [(0, .int (nI x33))]) hx hb dJ6_bitCount_0f7a4_33 rfl hl (by decide) rfl (fun ls hl => ?_)
  have b4 : x33 ≤ 252645135 := by rw [ex33]; exact Nat.and_le_right
  have b5 : x33 >>> 8 ≤ x33 := Nat.shiftRight_le _ _
  refine lv_iload_n hx hb dJ6_bitCount_0f7a4_34 rfl (lv_at hl 0 rfl) ?_
  refine lv_iload_n hx hb dJ6_bitCount_0f7a4_35 rfl (lv_at hl 0 rfl) ?_
  refine lv_bipush (v := nI 8) hx hb dJ6_bitCount_0f7a4_36 (by decide) ?_
  refine j_ushr hx hb dJ6_bitCount_0f7a4_38 ?_
  refine j_add hx hb dJ6_bitCount_0f7a4_39 ?_
  refine j_top (fun x40 ex40 => ?_)
  refine lv_istore_n (lv' := [(0, .int (nI x40))]) hx hb dJ6_bitCount_0f7a4_40 rfl hl (by decide) rfl (fun ls hl => ?_)
  refine lv_iload_n hx hb dJ6_bitCount_0f7a4_41 rfl (lv_at hl 0 rfl) ?_
  refine lv_iload_n hx hb dJ6_bitCount_0f7a4_42 rfl (lv_at hl 0 rfl) ?_
  refine lv_bipush (v := nI 16) hx hb dJ6_bitCount_0f7a4_43 (by decide) ?_
  refine j_ushr hx hb dJ6_bitCount_0f7a4_45 ?_
  refine j_add hx hb dJ6_bitCount_0f7a4_46 ?_
  refine j_top (fun x47 ex47 => ?_)
  refine lv_istore_n (lv' := [(0, .int (nI x47))]) hx hb dJ6_bitCount_0f7a4_47 rfl hl (by decide) rfl (fun ls hl => ?_)
  refine lv_iload_n hx hb dJ6_bitCount_0f7a4_48 rfl (lv_at hl 0 rfl) ?_
  refine lv_bipush (v := nI 63) hx hb dJ6_bitCount_0f7a4_49 (by decide) ?_
  refine j_and hx hb dJ6_bitCount_0f7a4_51 ?_
  exact ro_ret hx hb hr hlocks dJ6_bitCount_0f7a4_52 (by rw [ex47, ex40, ex33, ex23, ex9]; rfl)
set_option maxHeartbeats 4000000 in
set_option maxRecDepth 100000 in
/-- Bits.remainder -/
theorem c_X0_remainder (l : Launch) (G : EG) (w : Nat) (hw : w < 16777216) : RO l yX0_remainder wsX0_remainder (rmR 0 0) G [] [.int (nI w)] (.int (nI (remN w))) := by
  refine RO.start (by decide) rfl (Nat.le_of_ble_eq_true rfl) ?_
  intro p e s m below meth c hx hb hr hml hts hown hlocks hP hE ls hl
  have hown : s.vm.findClass RX0 = some m.cls := hown
  have hl : lv_has ls 3 [(0, .int (nI w))] := hl
  refine lv_iload_n hx hb dX0_remainder_0 rfl (lv_at hl 0 rfl) ?_
  refine lv_istore_n (lv' := [(1, .int (nI w)), (0, .int (nI w))]) hx hb dX0_remainder_1 rfl hl (by decide) rfl (fun ls hl => ?_)
  refine lv_bipush (v := nI 22) hx hb dX0_remainder_2 (by decide) ?_
  refine lv_istore_n (lv' := [(2, .int (nI 22)), (1, .int (nI w)), (0, .int (nI w))]) hx hb dX0_remainder_4 rfl hl (by decide) rfl (fun ls hl => ?_)
  have loop5 : ∀ (fuel : Nat) (v : Nat) (q : Nat), (10 ≤ q) → (q ≤ 22) → (v < 16777216) → (remL (q - 10) v = remN w) → q < fuel → ∀ ls : Array Slot, lv_has ls 3 [(2, .int (nI q)), (1, .int (nI v)), (0, .int (nI w))] → W p l e (rmR 0 0) s m ([.int (nI w)] : List Value).toArray below meth c s.heap [] 0 0 (MQ below (k2_QcV (.int (nI (remN w)))) ([.int (nI w)] : List Value).toArray s 0 0 (fun _ => False)) (F0 m 5 ls []) := by
    intro fuel
    induction fuel with
    | zero => intro v q h1 h2 h3 h4 hf; exact absurd hf (Nat.not_lt_zero _)
    | succ fuel ih5 =>
      intro v q h1 h2 h3 h4 hf ls hl
      refine lv_iload_n hx hb dX0_remainder_5 rfl (lv_at hl 0 rfl) ?_
      refine lv_bipush (v := nI 11) hx hb dX0_remainder_6 (by decide) ?_
      refine j_icmp_lt (tgt := 37) hx hb dX0_remainder_8 (by decide) (fun c8 => ?_) (fun c8 => ?_)
      · skip
        refine lv_iload_n hx hb dX0_remainder_37 rfl (lv_at hl 1 rfl) ?_
        exact ro_ret hx hb hr hlocks dX0_remainder_38 (by rw [← h4, show q - 10 = 0 by omega]; rfl)
      · skip
        refine lv_iload_n hx hb dX0_remainder_11 rfl (lv_at hl 1 rfl) ?_
        refine lv_iload_n hx hb dX0_remainder_12 rfl (lv_at hl 0 rfl) ?_
        refine j_ushr hx hb dX0_remainder_13 ?_
        refine lv_iconst (v := nI 1) hx hb dX0_remainder_14 (by decide) ?_
        refine j_and hx hb dX0_remainder_15 ?_
        refine lv_iconst (v := nI 1) hx hb dX0_remainder_16 (by decide) ?_
        refine j_icmp_ne (tgt := 31) hx hb dX0_remainder_17 (by decide) (fun c17 => ?_) (fun c17 => ?_) (h1 := bd_and (by decide)) (h2 := by decide)
        · skip
          obtain ⟨x31, ex31⟩ : ∃ y : Nat, y = q - 1 := ⟨_, rfl⟩
          refine lv_iinc (v := nI x31) (lv' := [(2, .int (nI x31)), (1, .int (nI v)), (0, .int (nI w))]) hx hb dX0_remainder_31 hl (k := 0) rfl (by rw [ex31]; exact sb_m1 (by omega)) (by decide) rfl (fun ls hl => ?_)
          refine lv_goto (tgt := 5) hx hb dX0_remainder_34 (by decide) ?_
          exact ih5 v x31 (by omega) (by omega) h3 (by rw [← h4, show q - 10 = (x31 - 10) + 1 by omega, remL_succ, show x31 - 10 + 11 = q by omega, remStep_f c17]) (by omega) ls (lv_sub hl [0, 1, 2] rfl)
        · skip
          refine lv_iload_n hx hb dX0_remainder_20 rfl (lv_at hl 1 rfl) ?_
          refine lv_sipush (v := nI 3189) hx hb dX0_remainder_21 (by decide) ?_
          refine lv_iload_n hx hb dX0_remainder_24 rfl (lv_at hl 0 rfl) ?_
          refine lv_bipush (v := nI 11) hx hb dX0_remainder_25 (by decide) ?_
          refine j_sub hx hb dX0_remainder_27 ?_
          refine j_shl hx hb dX0_remainder_28 ?_
          refine j_xor hx hb dX0_remainder_29 ?_
          refine j_top (fun x30 ex30 => ?_)
          refine lv_istore_n (lv' := [(1, .int (nI x30)), (2, .int (nI q)), (0, .int (nI w))]) hx hb dX0_remainder_30 rfl hl (by decide) rfl (fun ls hl => ?_)
          obtain ⟨x31, ex31⟩ : ∃ y : Nat, y = q - 1 := ⟨_, rfl⟩
          refine lv_iinc (v := nI x31) (lv' := [(2, .int (nI x31)), (1, .int (nI x30)), (0, .int (nI w))]) hx hb dX0_remainder_31 hl (k := 1) rfl (by rw [ex31]; exact sb_m1 (by omega)) (by decide) rfl (fun ls hl => ?_)
          refine lv_goto (tgt := 5) hx hb dX0_remainder_34 (by decide) ?_
          exact ih5 x30 x31 (by omega) (by omega) (by rw [ex30, ← remStep_t c17]; exact remStep_lt h3 h2) (by rw [← h4, show q - 10 = (x31 - 10) + 1 by omega, remL_succ, show x31 - 10 + 11 = q by omega, remStep_t c17, ex30]) (by omega) ls (lv_sub hl [0, 1, 2] rfl)
  exact loop5 _ w 22 (by omega) (by omega) hw rfl (Nat.lt_succ_self _) ls (lv_sub hl [0, 1, 2] rfl)
set_option maxHeartbeats 4000000 in
set_option maxRecDepth 100000 in
/-- Bits.coded -/
theorem c_X0_coded (l : Launch) (G : EG) (w : Nat) (hw : w < 4096) : RO l yX0_coded wsX0_coded (rmR 1 22) G [] [.int (nI w)] (.int (nI (codedN w))) := by
  refine RO.start (by decide) rfl (Nat.le_of_ble_eq_true rfl) ?_
  intro p e s m below meth c hx hb hr hml hts hown hlocks hP hE ls hl
  have hown : s.vm.findClass RX0 = some m.cls := hown
  have hl : lv_has ls 2 [(0, .int (nI w))] := hl
  refine lv_iload_n hx hb dX0_coded_0 rfl (lv_at hl 0 rfl) ?_
  refine lv_bipush (v := nI 11) hx hb dX0_coded_1 (by decide) ?_
  refine j_shl hx hb dX0_coded_3 ?_
  refine j_top (fun x4 ex4 => ?_)
  refine lv_istore_n (lv' := [(1, .int (nI x4)), (0, .int (nI w))]) hx hb dX0_coded_4 rfl hl (by decide) rfl (fun ls hl => ?_)
  refine lv_iload_n hx hb dX0_coded_5 rfl (lv_at hl 0 rfl) ?_
  refine lv_iload_n hx hb dX0_coded_6 rfl (lv_at hl 0 rfl) ?_
  refine ro_S (rest := [.int (nI x4)]) ⟨hx, hb, hml, hown, hts⟩ (c_X0_remainder l G x4 (by rw [ex4, Nat.shiftLeft_eq]; omega)) (va_cwS 1 hts gX0_coded_X0_remainder rfl rfl rfl (by decide +kernel) ⟨Nat.le_of_ble_eq_true rfl, Nat.le_of_ble_eq_true rfl⟩) hE (hP.sub [] rfl) rfl hl.1 rfl (Nat.le_of_ble_eq_true rfl) dX0_coded_7 ⟨Nat.zero_le _, Nat.zero_le _⟩ ?_
  refine j_or hx hb dX0_coded_10 ?_
  exact ro_ret hx hb hr hlocks dX0_coded_11 (by rw [ex4]; rfl)
set_option maxHeartbeats 4000000 in
set_option maxRecDepth 100000 in
/-- Bits.message -/
theorem c_X0_message (l : Launch) (G : EG) (w : Nat) (hw : w < 2147483648) : RO l yX0_message wsX0_message (rmR 0 0) G [] [.int (nI w)] (.int (nI (w >>> 11))) := by
  refine RO.start (by decide) rfl (Nat.le_of_ble_eq_true rfl) ?_
  intro p e s m below meth c hx hb hr hml hts hown hlocks hP hE ls hl
  have hown : s.vm.findClass RX0 = some m.cls := hown
  have hl : lv_has ls 1 [(0, .int (nI w))] := hl
  refine lv_iload_n hx hb dX0_message_0 rfl (lv_at hl 0 rfl) ?_
  refine lv_bipush (v := nI 11) hx hb dX0_message_1 (by decide) ?_
  refine j_ushr hx hb dX0_message_3 ?_
  exact ro_ret hx hb hr hlocks dX0_message_4 (rfl)
set_option maxHeartbeats 4000000 in
set_option maxRecDepth 100000 in
/-- Bits.widen -/
theorem c_X0_widen (l : Launch) (G : EG) (w : Nat) (hw : w < 16777216) : RO l yX0_widen wsX0_widen (rmR 1 20) G [] [.int (nI w)] (.int (nI (widenN w))) := by
  refine RO.start (by decide) rfl (Nat.le_of_ble_eq_true rfl) ?_
  intro p e s m below meth c hx hb hr hml hts hown hlocks hP hE ls hl
  have hown : s.vm.findClass RX0 = some m.cls := hown
  have hl : lv_has ls 1 [(0, .int (nI w))] := hl
  refine lv_iload_n hx hb dX0_widen_0 rfl (lv_at hl 0 rfl) ?_
  refine lv_iload_n hx hb dX0_widen_1 rfl (lv_at hl 0 rfl) ?_
  refine ro_S (rest := [.int (nI w)]) ⟨hx, hb, hml, hown, hts⟩ (c_J6_bitCount_0f7a4 l G w (by omega)) (va_cwS 1 hts gX0_widen_J6_bitCount_0f7a4 rfl rfl rfl (by decide +kernel) ⟨Nat.le_of_ble_eq_true rfl, Nat.le_of_ble_eq_true rfl⟩) hE (hP.sub [] rfl) rfl hl.1 rfl (Nat.le_of_ble_eq_true rfl) dX0_widen_2 ⟨Nat.zero_le _, Nat.zero_le _⟩ ?_
  refine lv_iconst (v := nI 1) hx hb dX0_widen_5 (by decide) ?_
  refine j_and hx hb dX0_widen_6 ?_
  refine lv_bipush (v := nI 23) hx hb dX0_widen_7 (by decide) ?_
  refine j_shl hx hb dX0_widen_9 ?_
  refine j_or hx hb dX0_widen_10 ?_
  exact ro_ret hx hb hr hlocks dX0_widen_11 (rfl)
set_option maxHeartbeats 4000000 in
set_option maxRecDepth 100000 in
/-- Bits.turn -/
theorem c_X0_turn (l : Launch) (G : EG) (w : Nat) (k : Nat) (hw : w < 16777216) (hk : k ≤ 23) : RO l yX0_turn wsX0_turn (rmR 0 0) G [] [.int (nI w), .int (nI k)] (.int (nI (turnN w k))) := by
  refine RO.start (by decide) rfl (Nat.le_of_ble_eq_true rfl) ?_
  intro p e s m below meth c hx hb hr hml hts hown hlocks hP hE ls hl
  have hown : s.vm.findClass RX0 = some m.cls := hown
  have hl : lv_has ls 2 [(0, .int (nI w)), (1, .int (nI k))] := hl
  refine lv_iload_n hx hb dX0_turn_0 rfl (lv_at hl 0 rfl) ?_
  refine lv_iload_n hx hb dX0_turn_1 rfl (lv_at hl 1 rfl) ?_
  refine j_shl hx hb dX0_turn_2 ?_
  refine lv_iload_n hx hb dX0_turn_3 rfl (lv_at hl 0 rfl) ?_
  refine lv_bipush (v := nI 23) hx hb dX0_turn_4 (by decide) ?_
  refine lv_iload_n hx hb dX0_turn_6 rfl (lv_at hl 1 rfl) ?_
  refine j_sub hx hb dX0_turn_7 ?_
  refine j_ushr hx hb dX0_turn_8 ?_
  refine j_or hx hb dX0_turn_9 ?_
  refine lv_ldc (v := nI 8388607) hx hb hown (hts (.constant RX0 20 (nI 8388607)) (List.mem_of_getElem? (i := 1) rfl)) dX0_turn_10 ?_
  refine j_and hx hb dX0_turn_12 ?_
  exact ro_ret hx hb hr hlocks dX0_turn_13 (rfl)
set_option maxHeartbeats 4000000 in
set_option maxRecDepth 100000 in
/-- Bits.turnBack -/
theorem c_X0_turnBack (l : Launch) (G : EG) (w : Nat) (k : Nat) (hw : w < 16777216) (hk : k ≤ 23) : RO l yX0_turnBack wsX0_turnBack (rmR 1 21) G [] [.int (nI w), .int (nI k)] (.int (nI (turnN w (23 - k)))) := by
  refine RO.start (by decide) rfl (Nat.le_of_ble_eq_true rfl) ?_
  intro p e s m below meth c hx hb hr hml hts hown hlocks hP hE ls hl
  have hown : s.vm.findClass RX0 = some m.cls := hown
  have hl : lv_has ls 2 [(0, .int (nI w)), (1, .int (nI k))] := hl
  refine lv_iload_n hx hb dX0_turnBack_0 rfl (lv_at hl 0 rfl) ?_
  refine lv_bipush (v := nI 23) hx hb dX0_turnBack_1 (by decide) ?_
  refine lv_iload_n hx hb dX0_turnBack_3 rfl (lv_at hl 1 rfl) ?_
  refine j_sub hx hb dX0_turnBack_4 ?_
  refine ro_S (rest := []) ⟨hx, hb, hml, hown, hts⟩ (c_X0_turn l G w (23 - k) (by omega) (by omega)) (va_cwS 2 hts gX0_turnBack_X0_turn rfl rfl rfl (by decide +kernel) ⟨Nat.le_of_ble_eq_true rfl, Nat.le_of_ble_eq_true rfl⟩) hE (hP.sub [] rfl) rfl hl.1 rfl (Nat.le_of_ble_eq_true rfl) dX0_turnBack_5 ⟨Nat.zero_le _, Nat.zero_le _⟩ ?_
  exact ro_ret hx hb hr hlocks dX0_turnBack_8 (rfl)
set_option maxHeartbeats 4000000 in
set_option maxRecDepth 100000 in
/-- Bits.trapErrors -/
theorem c_X0_trapErrors (l : Launch) (G : EG) (w : Nat) (k : Nat) (hw : w < 8388608) (hk : k < 3) : RO l yX0_trapErrors wsX0_trapErrors (rmR 1 22) G [] [.int (nI w), .int (nI k)] (.int (if bcN (errN w k) ≤ 3 then (nI (errN w k)) else (-6))) := by
  refine RO.start (by decide) rfl (Nat.le_of_ble_eq_true rfl) ?_
  intro p e s m below meth c hx hb hr hml hts hown hlocks hP hE ls hl
  have hown : s.vm.findClass RX0 = some m.cls := hown
  have hl : lv_has ls 4 [(0, .int (nI w)), (1, .int (nI k))] := hl
  refine lv_iload_n hx hb dX0_trapErrors_0 rfl (lv_at hl 1 rfl) ?_
  refine j_if_ne (tgt := 8) hx hb dX0_trapErrors_1 (by decide) (fun c1 => ?_) (fun c1 => ?_)
  · skip
    refine lv_iload_n hx hb dX0_trapErrors_8 rfl (lv_at hl 1 rfl) ?_
    refine lv_iconst (v := nI 1) hx hb dX0_trapErrors_9 (by decide) ?_
    refine j_icmp_ne (tgt := 18) hx hb dX0_trapErrors_10 (by decide) (fun c10 => ?_) (fun c10 => ?_)
    · skip
      obtain rfl : k = 2 := by omega
      refine lv_ldc (v := nI 131072) hx hb hown (hts (.constant RX0 26 (nI 131072)) (List.mem_of_getElem? (i := 2) rfl)) dX0_trapErrors_18 ?_
      refine lv_istore_n (lv' := [(2, .int (nI 131072)), (0, .int (nI w)), (1, .int (nI 2))]) hx hb dX0_trapErrors_20 rfl hl (by decide) rfl (fun ls hl => ?_)
      refine lv_iload_n hx hb dX0_trapErrors_21 rfl (lv_at hl 1 rfl) ?_
      refine lv_iload_n hx hb dX0_trapErrors_22 rfl (lv_at hl 0 rfl) ?_
      refine j_xor hx hb dX0_trapErrors_23 ?_
      refine ro_S (rest := []) ⟨hx, hb, hml, hown, hts⟩ (c_X0_remainder l G (w ^^^ 131072) (Nat.lt_trans (bd_xor 23 hw (by decide)) (by decide))) (va_cwS 1 hts gX0_trapErrors_X0_remainder rfl rfl rfl (by decide +kernel) ⟨Nat.le_of_ble_eq_true rfl, Nat.le_of_ble_eq_true rfl⟩) hE (hP.sub [] rfl) rfl hl.1 rfl (Nat.le_of_ble_eq_true rfl) dX0_trapErrors_24 ⟨Nat.zero_le _, Nat.zero_le _⟩ ?_
      refine lv_iload_n hx hb dX0_trapErrors_27 rfl (lv_at hl 0 rfl) ?_
      refine j_or hx hb dX0_trapErrors_28 ?_
      refine j_top (fun x29 ex29 => ?_)
      refine lv_istore_n (lv' := [(3, .int (nI x29)), (2, .int (nI 131072)), (0, .int (nI w)), (1, .int (nI 2))]) hx hb dX0_trapErrors_29 rfl hl (by decide) rfl (fun ls hl => ?_)
      refine lv_iload_n hx hb dX0_trapErrors_30 rfl (lv_at hl 0 rfl) ?_
      refine ro_S (rest := []) ⟨hx, hb, hml, hown, hts⟩ (c_J6_bitCount_0f7a4 l G x29 (by rw [ex29]; exact Nat.lt_trans (bd_or 24 (remN_lt (Nat.lt_trans (bd_xor 23 hw (by decide)) (by decide))) (by decide)) (by decide))) (va_cwS 1 hts gX0_trapErrors_J6_bitCount_0f7a4 rfl rfl rfl (by decide +kernel) ⟨Nat.le_of_ble_eq_true rfl, Nat.le_of_ble_eq_true rfl⟩) hE (hP.sub [] rfl) rfl hl.1 rfl (Nat.le_of_ble_eq_true rfl) dX0_trapErrors_31 ⟨Nat.zero_le _, Nat.zero_le _⟩ ?_
      refine lv_iconst (v := nI 3) hx hb dX0_trapErrors_34 (by decide) ?_
      refine j_icmp_gt (tgt := 42) hx hb dX0_trapErrors_35 (by decide) (fun c35 => ?_) (fun c35 => ?_) (h1 := Nat.lt_of_le_of_lt (bcN_le _) (by decide)) (h2 := by decide)
      · skip
        refine lv_bipush (v := (-6)) hx hb dX0_trapErrors_42 (by decide) ?_
        exact ro_ret hx hb hr hlocks dX0_trapErrors_44 (by rw [ex29] at c35; exact congrArg Value.int (if_neg (Nat.not_le.mpr c35)))
      · skip
        refine lv_iload_n hx hb dX0_trapErrors_38 rfl (lv_at hl 0 rfl) ?_
        refine lv_goto (tgt := 44) hx hb dX0_trapErrors_39 (by decide) ?_
        exact ro_ret hx hb hr hlocks dX0_trapErrors_44 (by rw [ex29] at c35 ⊢; exact congrArg Value.int (if_pos c35))
    · skip
      subst c10
      refine lv_ldc (v := nI 65536) hx hb hown (hts (.constant RX0 25 (nI 65536)) (List.mem_of_getElem? (i := 1) rfl)) dX0_trapErrors_13 ?_
      refine lv_goto (tgt := 20) hx hb dX0_trapErrors_15 (by decide) ?_
      refine lv_istore_n (lv' := [(2, .int (nI 65536)), (0, .int (nI w)), (1, .int (nI 1))]) hx hb dX0_trapErrors_20 rfl hl (by decide) rfl (fun ls hl => ?_)
      refine lv_iload_n hx hb dX0_trapErrors_21 rfl (lv_at hl 1 rfl) ?_
      refine lv_iload_n hx hb dX0_trapErrors_22 rfl (lv_at hl 0 rfl) ?_
      refine j_xor hx hb dX0_trapErrors_23 ?_
      refine ro_S (rest := []) ⟨hx, hb, hml, hown, hts⟩ (c_X0_remainder l G (w ^^^ 65536) (Nat.lt_trans (bd_xor 23 hw (by decide)) (by decide))) (va_cwS 1 hts gX0_trapErrors_X0_remainder rfl rfl rfl (by decide +kernel) ⟨Nat.le_of_ble_eq_true rfl, Nat.le_of_ble_eq_true rfl⟩) hE (hP.sub [] rfl) rfl hl.1 rfl (Nat.le_of_ble_eq_true rfl) dX0_trapErrors_24 ⟨Nat.zero_le _, Nat.zero_le _⟩ ?_
      refine lv_iload_n hx hb dX0_trapErrors_27 rfl (lv_at hl 0 rfl) ?_
      refine j_or hx hb dX0_trapErrors_28 ?_
      refine j_top (fun x29 ex29 => ?_)
      refine lv_istore_n (lv' := [(3, .int (nI x29)), (2, .int (nI 65536)), (0, .int (nI w)), (1, .int (nI 1))]) hx hb dX0_trapErrors_29 rfl hl (by decide) rfl (fun ls hl => ?_)
      refine lv_iload_n hx hb dX0_trapErrors_30 rfl (lv_at hl 0 rfl) ?_
      refine ro_S (rest := []) ⟨hx, hb, hml, hown, hts⟩ (c_J6_bitCount_0f7a4 l G x29 (by rw [ex29]; exact Nat.lt_trans (bd_or 24 (remN_lt (Nat.lt_trans (bd_xor 23 hw (by decide)) (by decide))) (by decide)) (by decide))) (va_cwS 1 hts gX0_trapErrors_J6_bitCount_0f7a4 rfl rfl rfl (by decide +kernel) ⟨Nat.le_of_ble_eq_true rfl, Nat.le_of_ble_eq_true rfl⟩) hE (hP.sub [] rfl) rfl hl.1 rfl (Nat.le_of_ble_eq_true rfl) dX0_trapErrors_31 ⟨Nat.zero_le _, Nat.zero_le _⟩ ?_
      refine lv_iconst (v := nI 3) hx hb dX0_trapErrors_34 (by decide) ?_
      refine j_icmp_gt (tgt := 42) hx hb dX0_trapErrors_35 (by decide) (fun c35 => ?_) (fun c35 => ?_) (h1 := Nat.lt_of_le_of_lt (bcN_le _) (by decide)) (h2 := by decide)
      · skip
        refine lv_bipush (v := (-6)) hx hb dX0_trapErrors_42 (by decide) ?_
        exact ro_ret hx hb hr hlocks dX0_trapErrors_44 (by rw [ex29] at c35; exact congrArg Value.int (if_neg (Nat.not_le.mpr c35)))
      · skip
        refine lv_iload_n hx hb dX0_trapErrors_38 rfl (lv_at hl 0 rfl) ?_
        refine lv_goto (tgt := 44) hx hb dX0_trapErrors_39 (by decide) ?_
        exact ro_ret hx hb hr hlocks dX0_trapErrors_44 (by rw [ex29] at c35 ⊢; exact congrArg Value.int (if_pos c35))
  · skip
    subst c1
    refine lv_iconst (v := nI 0) hx hb dX0_trapErrors_4 (by decide) ?_
    refine lv_goto (tgt := 20) hx hb dX0_trapErrors_5 (by decide) ?_
    refine lv_istore_n (lv' := [(2, .int (nI 0)), (0, .int (nI w)), (1, .int (nI 0))]) hx hb dX0_trapErrors_20 rfl hl (by decide) rfl (fun ls hl => ?_)
    refine lv_iload_n hx hb dX0_trapErrors_21 rfl (lv_at hl 1 rfl) ?_
    refine lv_iload_n hx hb dX0_trapErrors_22 rfl (lv_at hl 0 rfl) ?_
    refine j_xor hx hb dX0_trapErrors_23 ?_
    refine ro_S (rest := []) ⟨hx, hb, hml, hown, hts⟩ (c_X0_remainder l G (w ^^^ 0) (Nat.lt_trans (bd_xor 23 hw (by decide)) (by decide))) (va_cwS 1 hts gX0_trapErrors_X0_remainder rfl rfl rfl (by decide +kernel) ⟨Nat.le_of_ble_eq_true rfl, Nat.le_of_ble_eq_true rfl⟩) hE (hP.sub [] rfl) rfl hl.1 rfl (Nat.le_of_ble_eq_true rfl) dX0_trapErrors_24 ⟨Nat.zero_le _, Nat.zero_le _⟩ ?_
    refine lv_iload_n hx hb dX0_trapErrors_27 rfl (lv_at hl 0 rfl) ?_
    refine j_or hx hb dX0_trapErrors_28 ?_
    refine j_top (fun x29 ex29 => ?_)
    refine lv_istore_n (lv' := [(3, .int (nI x29)), (2, .int (nI 0)), (0, .int (nI w)), (1, .int (nI 0))]) hx hb dX0_trapErrors_29 rfl hl (by decide) rfl (fun ls hl => ?_)
    refine lv_iload_n hx hb dX0_trapErrors_30 rfl (lv_at hl 0 rfl) ?_
    refine ro_S (rest := []) ⟨hx, hb, hml, hown, hts⟩ (c_J6_bitCount_0f7a4 l G x29 (by rw [ex29]; exact Nat.lt_trans (bd_or 24 (remN_lt (Nat.lt_trans (bd_xor 23 hw (by decide)) (by decide))) (by decide)) (by decide))) (va_cwS 1 hts gX0_trapErrors_J6_bitCount_0f7a4 rfl rfl rfl (by decide +kernel) ⟨Nat.le_of_ble_eq_true rfl, Nat.le_of_ble_eq_true rfl⟩) hE (hP.sub [] rfl) rfl hl.1 rfl (Nat.le_of_ble_eq_true rfl) dX0_trapErrors_31 ⟨Nat.zero_le _, Nat.zero_le _⟩ ?_
    refine lv_iconst (v := nI 3) hx hb dX0_trapErrors_34 (by decide) ?_
    refine j_icmp_gt (tgt := 42) hx hb dX0_trapErrors_35 (by decide) (fun c35 => ?_) (fun c35 => ?_) (h1 := Nat.lt_of_le_of_lt (bcN_le _) (by decide)) (h2 := by decide)
    · skip
      refine lv_bipush (v := (-6)) hx hb dX0_trapErrors_42 (by decide) ?_
      exact ro_ret hx hb hr hlocks dX0_trapErrors_44 (by rw [ex29] at c35; exact congrArg Value.int (if_neg (Nat.not_le.mpr c35)))
    · skip
      refine lv_iload_n hx hb dX0_trapErrors_38 rfl (lv_at hl 0 rfl) ?_
      refine lv_goto (tgt := 44) hx hb dX0_trapErrors_39 (by decide) ?_
      exact ro_ret hx hb hr hlocks dX0_trapErrors_44 (by rw [ex29] at c35 ⊢; exact congrArg Value.int (if_pos c35))
set_option maxHeartbeats 4000000 in
set_option maxRecDepth 100000 in
/-- Bits.target -/
theorem c_X0_target (l : Launch) (G : EG) (q : Nat) (a : Nat) (b : Nat) (h : a * q + b < 2147483648) : RO l yX0_target wsX0_target (rmR 0 0) G [] [.int (nI q), .int (nI a), .int (nI b)] (.int (nI (tgtN q a b))) := by
  refine RO.start (by decide) rfl (Nat.le_of_ble_eq_true rfl) ?_
  intro p e s m below meth c hx hb hr hml hts hown hlocks hP hE ls hl
  have hown : s.vm.findClass RX0 = some m.cls := hown
  have hl : lv_has ls 3 [(0, .int (nI q)), (1, .int (nI a)), (2, .int (nI b))] := hl
  refine lv_iload_n hx hb dX0_target_0 rfl (lv_at hl 1 rfl) ?_
  refine lv_iload_n hx hb dX0_target_1 rfl (lv_at hl 0 rfl) ?_
  refine j_mul hx hb dX0_target_2 ?_
  refine lv_iload_n hx hb dX0_target_3 rfl (lv_at hl 2 rfl) ?_
  refine j_add hx hb dX0_target_4 ?_
  refine lv_bipush (v := nI 23) hx hb dX0_target_5 (by decide) ?_
  refine j_rem hx hb dX0_target_7 ?_ (ha := h)
  exact ro_ret hx hb hr hlocks dX0_target_8 (rfl)
set_option maxHeartbeats 4000000 in
set_option maxRecDepth 100000 in
/-- Bits.carry -/
theorem c_X0_carry (l : Launch) (G : EG) (w : Nat) (a : Nat) (b : Nat) (hw : w < 4294967296) (ha : a < 23) (hb0 : b < 23) : RO l yX0_carry wsX0_carry (rmR 1 22) G [] [.int (nI w), .int (nI a), .int (nI b)] (.int (nI (carN w a b))) := by
  refine RO.start (by decide) rfl (Nat.le_of_ble_eq_true rfl) ?_
  intro p e s m below meth c hx hb hr hml hts hown hlocks hP hE ls hl
  have hown : s.vm.findClass RX0 = some m.cls := hown
  have hl : lv_has ls 5 [(0, .int (nI w)), (1, .int (nI a)), (2, .int (nI b))] := hl
  refine lv_iconst (v := nI 0) hx hb dX0_carry_0 (by decide) ?_
  refine lv_istore_n (lv' := [(3, .int (nI 0)), (0, .int (nI w)), (1, .int (nI a)), (2, .int (nI b))]) hx hb dX0_carry_1 rfl hl (by decide) rfl (fun ls hl => ?_)
  refine lv_iconst (v := nI 0) hx hb dX0_carry_2 (by decide) ?_
  refine lv_istore (lv' := [(4, .int (nI 0)), (3, .int (nI 0)), (0, .int (nI w)), (1, .int (nI a)), (2, .int (nI b))]) hx hb dX0_carry_3 hl (by decide) rfl (fun ls hl => ?_)
  have loop5 : ∀ (fuel : Nat) (v : Nat) (q : Nat), (q ≤ 23) → (v = carL w a b q) → 23 - q < fuel → ∀ ls : Array Slot, lv_has ls 5 [(4, .int (nI q)), (3, .int (nI v)), (0, .int (nI w)), (1, .int (nI a)), (2, .int (nI b))] → W p l e (rmR 1 22) s m ([.int (nI w), .int (nI a), .int (nI b)] : List Value).toArray below meth c s.heap [] 0 0 (MQ below (k2_QcV (.int (nI (carN w a b)))) ([.int (nI w), .int (nI a), .int (nI b)] : List Value).toArray s 0 0 (fun _ => False)) (F0 m 5 ls []) := by
    intro fuel
    induction fuel with
    | zero => intro v q h1 h2 hf; exact absurd hf (Nat.not_lt_zero _)
    | succ fuel ih5 =>
      intro v q h1 h2 hf ls hl
      refine lv_iload hx hb dX0_carry_5 (lv_at hl 0 rfl) ?_
      refine lv_bipush (v := nI 23) hx hb dX0_carry_7 (by decide) ?_
      refine j_icmp_ge (tgt := 35) hx hb dX0_carry_9 (by decide) (fun c9 => ?_) (fun c9 => ?_)
      · skip
        refine lv_iload_n hx hb dX0_carry_35 rfl (lv_at hl 1 rfl) ?_
        exact ro_ret hx hb hr hlocks dX0_carry_36 (by rw [h2, show q = 23 by omega]; rfl)
      · skip
        refine lv_iload_n hx hb dX0_carry_12 rfl (lv_at hl 1 rfl) ?_
        refine lv_iload_n hx hb dX0_carry_13 rfl (lv_at hl 2 rfl) ?_
        refine lv_iload hx hb dX0_carry_14 (lv_at hl 0 rfl) ?_
        refine j_ushr hx hb dX0_carry_16 ?_
        refine lv_iconst (v := nI 1) hx hb dX0_carry_17 (by decide) ?_
        refine j_and hx hb dX0_carry_18 ?_
        refine lv_iload hx hb dX0_carry_19 (lv_at hl 0 rfl) ?_
        refine lv_iload_n hx hb dX0_carry_21 rfl (lv_at hl 3 rfl) ?_
        refine lv_iload_n hx hb dX0_carry_22 rfl (lv_at hl 4 rfl) ?_
        refine ro_S (rest := [.int (nI ((w >>> q) &&& 1)), .int (nI v)]) ⟨hx, hb, hml, hown, hts⟩ (c_X0_target l G q a b (tg_bd (by omega) (by omega) (by omega))) (va_cwS 3 hts gX0_carry_X0_target rfl rfl rfl (by decide +kernel) ⟨Nat.le_of_ble_eq_true rfl, Nat.le_of_ble_eq_true rfl⟩) hE (hP.sub [] rfl) rfl hl.1 rfl (Nat.le_of_ble_eq_true rfl) dX0_carry_23 ⟨Nat.zero_le _, Nat.zero_le _⟩ ?_
        refine j_shl hx hb dX0_carry_26 ?_ (h := Nat.lt_trans (tgtN_lt _ _ _) (by decide))
        refine j_or hx hb dX0_carry_27 ?_
        refine j_top (fun x28 ex28 => ?_)
        refine lv_istore_n (lv' := [(3, .int (nI x28)), (4, .int (nI q)), (0, .int (nI w)), (1, .int (nI a)), (2, .int (nI b))]) hx hb dX0_carry_28 rfl hl (by decide) rfl (fun ls hl => ?_)
        obtain ⟨x29, ex29⟩ : ∃ y : Nat, y = q + 1 := ⟨_, rfl⟩
        refine lv_iinc (v := nI x29) (lv' := [(4, .int (nI x29)), (3, .int (nI x28)), (0, .int (nI w)), (1, .int (nI a)), (2, .int (nI b))]) hx hb dX0_carry_29 hl (k := 1) rfl (by rw [ex29]; exact nI_add _ _) (by decide) rfl (fun ls hl => ?_)
        refine lv_goto (tgt := 5) hx hb dX0_carry_32 (by decide) ?_
        exact ih5 x28 x29 (by omega) (by rw [ex28, ex29, h2]; rfl) (by omega) ls (lv_sub hl [0, 1, 2, 3, 4] rfl)
  exact loop5 _ 0 0 (by omega) rfl (Nat.lt_succ_self _) ls (lv_sub hl [0, 1, 2, 3, 4] rfl)
set_option maxHeartbeats 4000000 in
set_option maxRecDepth 100000 in
/-- Bits.carryBack -/
theorem c_X0_carryBack (l : Launch) (G : EG) (w : Nat) (a : Nat) (b : Nat) (hw : w < 4294967296) (ha : a < 23) (hb0 : b < 23) : RO l yX0_carryBack wsX0_carryBack (rmR 1 22) G [] [.int (nI w), .int (nI a), .int (nI b)] (.int (nI (bakN w a b))) := by
  refine RO.start (by decide) rfl (Nat.le_of_ble_eq_true rfl) ?_
  intro p e s m below meth c hx hb hr hml hts hown hlocks hP hE ls hl
  have hown : s.vm.findClass RX0 = some m.cls := hown
  have hl : lv_has ls 5 [(0, .int (nI w)), (1, .int (nI a)), (2, .int (nI b))] := hl
  refine lv_iconst (v := nI 0) hx hb dX0_carryBack_0 (by decide) ?_
  refine lv_istore_n (lv' := [(3, .int (nI 0)), (0, .int (nI w)), (1, .int (nI a)), (2, .int (nI b))]) hx hb dX0_carryBack_1 rfl hl (by decide) rfl (fun ls hl => ?_)
  refine lv_iconst (v := nI 0) hx hb dX0_carryBack_2 (by decide) ?_
  refine lv_istore (lv' := [(4, .int (nI 0)), (3, .int (nI 0)), (0, .int (nI w)), (1, .int (nI a)), (2, .int (nI b))]) hx hb dX0_carryBack_3 hl (by decide) rfl (fun ls hl => ?_)
  have loop5 : ∀ (fuel : Nat) (v : Nat) (q : Nat), (q ≤ 23) → (v = bakL w a b q) → 23 - q < fuel → ∀ ls : Array Slot, lv_has ls 5 [(4, .int (nI q)), (3, .int (nI v)), (0, .int (nI w)), (1, .int (nI a)), (2, .int (nI b))] → W p l e (rmR 1 22) s m ([.int (nI w), .int (nI a), .int (nI b)] : List Value).toArray below meth c s.heap [] 0 0 (MQ below (k2_QcV (.int (nI (bakN w a b)))) ([.int (nI w), .int (nI a), .int (nI b)] : List Value).toArray s 0 0 (fun _ => False)) (F0 m 5 ls []) := by
    intro fuel
    induction fuel with
    | zero => intro v q h1 h2 hf; exact absurd hf (Nat.not_lt_zero _)
    | succ fuel ih5 =>
      intro v q h1 h2 hf ls hl
      refine lv_iload hx hb dX0_carryBack_5 (lv_at hl 0 rfl) ?_
      refine lv_bipush (v := nI 23) hx hb dX0_carryBack_7 (by decide) ?_
      refine j_icmp_ge (tgt := 35) hx hb dX0_carryBack_9 (by decide) (fun c9 => ?_) (fun c9 => ?_)
      · skip
        refine lv_iload_n hx hb dX0_carryBack_35 rfl (lv_at hl 1 rfl) ?_
        exact ro_ret hx hb hr hlocks dX0_carryBack_36 (by rw [h2, show q = 23 by omega]; rfl)
      · skip
        refine lv_iload_n hx hb dX0_carryBack_12 rfl (lv_at hl 1 rfl) ?_
        refine lv_iload_n hx hb dX0_carryBack_13 rfl (lv_at hl 2 rfl) ?_
        refine lv_iload hx hb dX0_carryBack_14 (lv_at hl 0 rfl) ?_
        refine lv_iload_n hx hb dX0_carryBack_16 rfl (lv_at hl 3 rfl) ?_
        refine lv_iload_n hx hb dX0_carryBack_17 rfl (lv_at hl 4 rfl) ?_
        refine ro_S (rest := [.int (nI w), .int (nI v)]) ⟨hx, hb, hml, hown, hts⟩ (c_X0_target l G q a b (tg_bd (by omega) (by omega) (by omega))) (va_cwS 3 hts gX0_carryBack_X0_target rfl rfl rfl (by decide +kernel) ⟨Nat.le_of_ble_eq_true rfl, Nat.le_of_ble_eq_true rfl⟩) hE (hP.sub [] rfl) rfl hl.1 rfl (Nat.le_of_ble_eq_true rfl) dX0_carryBack_18 ⟨Nat.zero_le _, Nat.zero_le _⟩ ?_
        refine j_ushr hx hb dX0_carryBack_21 ?_ (h := Nat.lt_trans (tgtN_lt _ _ _) (by decide))
        refine lv_iconst (v := nI 1) hx hb dX0_carryBack_22 (by decide) ?_
        refine j_and hx hb dX0_carryBack_23 ?_
        refine lv_iload hx hb dX0_carryBack_24 (lv_at hl 0 rfl) ?_
        refine j_shl hx hb dX0_carryBack_26 ?_
        refine j_or hx hb dX0_carryBack_27 ?_
        refine j_top (fun x28 ex28 => ?_)
        refine lv_istore_n (lv' := [(3, .int (nI x28)), (4, .int (nI q)), (0, .int (nI w)), (1, .int (nI a)), (2, .int (nI b))]) hx hb dX0_carryBack_28 rfl hl (by decide) rfl (fun ls hl => ?_)
        obtain ⟨x29, ex29⟩ : ∃ y : Nat, y = q + 1 := ⟨_, rfl⟩
        refine lv_iinc (v := nI x29) (lv' := [(4, .int (nI x29)), (3, .int (nI x28)), (0, .int (nI w)), (1, .int (nI a)), (2, .int (nI b))]) hx hb dX0_carryBack_29 hl (k := 1) rfl (by rw [ex29]; exact nI_add _ _) (by decide) rfl (fun ls hl => ?_)
        refine lv_goto (tgt := 5) hx hb dX0_carryBack_32 (by decide) ?_
        exact ih5 x28 x29 (by omega) (by rw [ex28, ex29, h2]; rfl) (by omega) ls (lv_sub hl [0, 1, 2, 3, 4] rfl)
  exact loop5 _ 0 0 (by omega) rfl (Nat.lt_succ_self _) ls (lv_sub hl [0, 1, 2, 3, 4] rfl)
set_option maxHeartbeats 4000000 in
set_option maxRecDepth 100000 in
/-- Bits.staysInCode -/
theorem c_X0_staysInCode (l : Launch) (G : EG) (a : Nat) (b : Nat) (ha : a < 23) (hb0 : b < 23) : RO l yX0_staysInCode wsX0_staysInCode (rmR 2 46) G [] [.int (nI a), .int (nI b)] (.int (nI (stayN a b).toNat)) := by
  refine RO.start (by decide) rfl (Nat.le_of_ble_eq_true rfl) ?_
  intro p e s m below meth c hx hb hr hml hts hown hlocks hP hE ls hl
  have hown : s.vm.findClass RX0 = some m.cls := hown
  have hl : lv_has ls 3 [(0, .int (nI a)), (1, .int (nI b))] := hl
  refine lv_iconst (v := nI 0) hx hb dX0_staysInCode_0 (by decide) ?_
  refine lv_istore_n (lv' := [(2, .int (nI 0)), (0, .int (nI a)), (1, .int (nI b))]) hx hb dX0_staysInCode_1 rfl hl (by decide) rfl (fun ls hl => ?_)
  have loop2 : ∀ (fuel : Nat) (k : Nat), (k ≤ 12) → (∀ i, i < k → remN (carN (3189 <<< i) a b) = 0) → 12 - k < fuel → ∀ ls : Array Slot, lv_has ls 3 [(2, .int (nI k)), (0, .int (nI a)), (1, .int (nI b))] → W p l e (rmR 2 46) s m ([.int (nI a), .int (nI b)] : List Value).toArray below meth c s.heap [] 0 0 (MQ below (k2_QcV (.int (nI (stayN a b).toNat))) ([.int (nI a), .int (nI b)] : List Value).toArray s 0 0 (fun _ => False)) (F0 m 2 ls []) := by
    intro fuel
    induction fuel with
    | zero => intro k h1 h2 hf; exact absurd hf (Nat.not_lt_zero _)
    | succ fuel ih2 =>
      intro k h1 h2 hf ls hl
      refine lv_iload_n hx hb dX0_staysInCode_2 rfl (lv_at hl 0 rfl) ?_
      refine lv_bipush (v := nI 12) hx hb dX0_staysInCode_3 (by decide) ?_
      refine j_icmp_ge (tgt := 32) hx hb dX0_staysInCode_5 (by decide) (fun c5 => ?_) (fun c5 => ?_)
      · skip
        refine lv_iconst (v := nI 1) hx hb dX0_staysInCode_32 (by decide) ?_
        exact ro_zret hx hb hr hlocks dX0_staysInCode_33 (by rw [stay_t (fun i hi => h2 i (by omega))]; rfl) rfl
      · skip
        refine lv_sipush (v := nI 3189) hx hb dX0_staysInCode_8 (by decide) ?_
        refine lv_iload_n hx hb dX0_staysInCode_11 rfl (lv_at hl 0 rfl) ?_
        refine j_shl hx hb dX0_staysInCode_12 ?_
        refine lv_iload_n hx hb dX0_staysInCode_13 rfl (lv_at hl 1 rfl) ?_
        refine lv_iload_n hx hb dX0_staysInCode_14 rfl (lv_at hl 2 rfl) ?_
        refine ro_S (rest := []) ⟨hx, hb, hml, hown, hts⟩ (c_X0_carry l G (3189 <<< k) a b (Nat.lt_trans (key_lt h1) (by decide)) (by omega) (by omega)) (va_cwS 3 hts gX0_staysInCode_X0_carry rfl rfl rfl (by decide +kernel) ⟨Nat.le_of_ble_eq_true rfl, Nat.le_of_ble_eq_true rfl⟩) hE (hP.sub [] rfl) rfl hl.1 rfl (Nat.le_of_ble_eq_true rfl) dX0_staysInCode_15 ⟨Nat.zero_le _, Nat.zero_le _⟩ ?_
        refine ro_S (rest := []) ⟨hx, hb, hml, hown, hts⟩ (c_X0_remainder l G (carN (3189 <<< k) a b) (Nat.lt_trans (carL_lt _ _ _ _) (by decide))) (va_cwS 1 hts gX0_staysInCode_X0_remainder rfl rfl rfl (by decide +kernel) ⟨Nat.le_of_ble_eq_true rfl, Nat.le_of_ble_eq_true rfl⟩) hE (hP.sub [] rfl) rfl hl.1 rfl (Nat.le_of_ble_eq_true rfl) dX0_staysInCode_18 ⟨Nat.zero_le _, Nat.zero_le _⟩ ?_
        refine j_if_eq (tgt := 26) hx hb dX0_staysInCode_21 (by decide) (fun c21 => ?_) (fun c21 => ?_) (h1 := Nat.lt_trans (remN_lt (Nat.lt_trans (carL_lt _ _ _ _) (by decide))) (by decide))
        · skip
          obtain ⟨x26, ex26⟩ : ∃ y : Nat, y = k + 1 := ⟨_, rfl⟩
          refine lv_iinc (v := nI x26) (lv' := [(2, .int (nI x26)), (0, .int (nI a)), (1, .int (nI b))]) hx hb dX0_staysInCode_26 hl (k := 0) rfl (by rw [ex26]; exact nI_add _ _) (by decide) rfl (fun ls hl => ?_)
          refine lv_goto (tgt := 2) hx hb dX0_staysInCode_29 (by decide) ?_
          exact ih2 x26 (by omega) (by rw [ex26]; exact lt_s h2 c21) (by omega) ls (lv_sub hl [0, 1, 2] rfl)
        · skip
          refine lv_iconst (v := nI 0) hx hb dX0_staysInCode_24 (by decide) ?_
          exact ro_zret hx hb hr hlocks dX0_staysInCode_25 (by rw [stay_f (i := k) (by omega) c21]; rfl) rfl
  exact loop2 _ 0 (by omega) (fun _ h => absurd h (Nat.not_lt_zero _)) (Nat.lt_succ_self _) ls (lv_sub hl [0, 1, 2] rfl)
set_option maxHeartbeats 4000000 in
set_option maxRecDepth 100000 in
/-- isBelow -/
theorem c_X5_isBelow (l : Launch) (G : EG) (x : Int32) (N : Nat) : RO l yX5_isBelow wsX5_isBelow (rmR 0 0) G [] [.int x, .int (nI N)] (.int (nI (blw x N).toNat)) := by
  refine RO.start (by decide) rfl (Nat.le_of_ble_eq_true rfl) ?_
  intro p e s m below meth c hx hb hr hml hts hown hlocks hP hE ls hl
  have hown : s.vm.findClass RX5 = some m.cls := hown
  have hl : lv_has ls 2 [(0, .int x), (1, .int (nI N))] := hl
  refine lv_iload_n hx hb dX5_isBelow_0 rfl (lv_at hl 0 rfl) ?_
  refine lv_if_lt (tgt := 13) hx hb dX5_isBelow_1 (by decide) (fun c1 => ?_) (fun c1 => ?_)
  · skip
    refine lv_iconst (v := nI 0) hx hb dX5_isBelow_13 (by decide) ?_
    exact ro_zret hx hb hr hlocks dX5_isBelow_14 (by rw [blw_f1 c1]; rfl) rfl
  · skip
    refine lv_iload_n hx hb dX5_isBelow_4 rfl (lv_at hl 0 rfl) ?_
    refine lv_iload_n hx hb dX5_isBelow_5 rfl (lv_at hl 1 rfl) ?_
    refine lv_icmp_ge (tgt := 13) hx hb dX5_isBelow_6 (by decide) (fun c6 => ?_) (fun c6 => ?_)
    · skip
      refine lv_iconst (v := nI 0) hx hb dX5_isBelow_13 (by decide) ?_
      exact ro_zret hx hb hr hlocks dX5_isBelow_14 (by rw [blw_f2 c6]; rfl) rfl
    · skip
      refine lv_iconst (v := nI 1) hx hb dX5_isBelow_9 (by decide) ?_
      refine lv_goto (tgt := 14) hx hb dX5_isBelow_10 (by decide) ?_
      exact ro_zret hx hb hr hlocks dX5_isBelow_14 (by rw [blw_t c1 c6]; rfl) rfl
set_option maxHeartbeats 4000000 in
set_option maxRecDepth 100000 in
/-- isMove -/
theorem c_X5_isMove (l : Launch) (G : EG) (a : Int32) (b : Int32) : RO l yX5_isMove wsX5_isMove (rmR 1 21) G [] [.int a, .int b] (.int (nI (mvOk a b).toNat)) := by
  refine RO.start (by decide) rfl (Nat.le_of_ble_eq_true rfl) ?_
  intro p e s m below meth c hx hb hr hml hts hown hlocks hP hE ls hl
  have hown : s.vm.findClass RX5 = some m.cls := hown
  have hl : lv_has ls 2 [(0, .int a), (1, .int b)] := hl
  refine lv_iload_n hx hb dX5_isMove_0 rfl (lv_at hl 0 rfl) ?_
  refine lv_if_eq (tgt := 26) hx hb dX5_isMove_1 (by decide) (fun c1 => ?_) (fun c1 => ?_)
  · skip
    refine lv_iconst (v := nI 0) hx hb dX5_isMove_26 (by decide) ?_
    exact ro_zret hx hb hr hlocks dX5_isMove_27 (by rw [show mvOk a b = false from decide_eq_false (fun h => h.1 c1)]; rfl) rfl
  · skip
    refine lv_iload_n hx hb dX5_isMove_4 rfl (lv_at hl 0 rfl) ?_
    refine lv_bipush (v := nI 23) hx hb dX5_isMove_5 (by decide) ?_
    refine ro_S (rest := []) ⟨hx, hb, hml, hown, hts⟩ (c_X5_isBelow l G a 23) (va_cwS 2 hts gX5_isMove_X5_isBelow rfl rfl rfl (by decide +kernel) ⟨Nat.le_of_ble_eq_true rfl, Nat.le_of_ble_eq_true rfl⟩) hE (hP.sub [] rfl) rfl hl.1 rfl (Nat.le_of_ble_eq_true rfl) dX5_isMove_7 ⟨Nat.zero_le _, Nat.zero_le _⟩ ?_
    refine j_bool (fun c7 => ?_) (fun c7 => ?_)
    · skip
      refine j_if_eq (tgt := 26) hx hb dX5_isMove_10 (by decide) (fun q => absurd q (by decide)) (fun _ => ?_)
      refine lv_iload_n hx hb dX5_isMove_13 rfl (lv_at hl 1 rfl) ?_
      refine lv_bipush (v := nI 23) hx hb dX5_isMove_14 (by decide) ?_
      refine ro_S (rest := []) ⟨hx, hb, hml, hown, hts⟩ (c_X5_isBelow l G b 23) (va_cwS 2 hts gX5_isMove_X5_isBelow rfl rfl rfl (by decide +kernel) ⟨Nat.le_of_ble_eq_true rfl, Nat.le_of_ble_eq_true rfl⟩) hE (hP.sub [] rfl) rfl hl.1 rfl (Nat.le_of_ble_eq_true rfl) dX5_isMove_16 ⟨Nat.zero_le _, Nat.zero_le _⟩ ?_
      refine j_bool (fun c16 => ?_) (fun c16 => ?_)
      · skip
        refine j_if_eq (tgt := 26) hx hb dX5_isMove_19 (by decide) (fun q => absurd q (by decide)) (fun _ => ?_)
        refine lv_iconst (v := nI 1) hx hb dX5_isMove_22 (by decide) ?_
        refine lv_goto (tgt := 27) hx hb dX5_isMove_23 (by decide) ?_
        exact ro_zret hx hb hr hlocks dX5_isMove_27 (by rw [show mvOk a b = true from decide_eq_true ⟨c1, c7, c16⟩]; rfl) rfl
      · skip
        refine j_if_eq (tgt := 26) hx hb dX5_isMove_19 (by decide) (fun _ => ?_) (fun q => absurd q (by decide))
        refine lv_iconst (v := nI 0) hx hb dX5_isMove_26 (by decide) ?_
        exact ro_zret hx hb hr hlocks dX5_isMove_27 (by rw [show mvOk a b = false from decide_eq_false (fun h => by rw [c16] at h; exact absurd h.2.2 (by decide))]; rfl) rfl
    · skip
      refine j_if_eq (tgt := 26) hx hb dX5_isMove_10 (by decide) (fun _ => ?_) (fun q => absurd q (by decide))
      refine lv_iconst (v := nI 0) hx hb dX5_isMove_26 (by decide) ?_
      exact ro_zret hx hb hr hlocks dX5_isMove_27 (by rw [show mvOk a b = false from decide_eq_false (fun h => by rw [c7] at h; exact absurd h.2.1 (by decide))]; rfl) rfl
