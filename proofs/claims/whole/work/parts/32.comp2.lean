set_option maxHeartbeats 4000000 in
set_option maxRecDepth 100000 in
/-- made -/
theorem c_X5_made (l : Launch) (G : EG) (o : Nat) (me : Nat) (h0 : Nat) (im : Nat) (kp : Nat) (ta : Nat) (x : Int32) : RO l yX5_made wsX5_made (rmR 2 43) G [(o, .inr (4, [.ref me, .ref h0, .ref im, .int (nI kp), .ref ta]))] [.ref o, .int x] (.int (cMade x)) := by
  refine RO.start (by decide) rfl (Nat.le_of_ble_eq_true rfl) ?_
  intro p e s m below meth c hx hb hr hml hts hown hlocks hP hE ls hl
  have hown : s.vm.findClass RX5 = some m.cls := hown
  have hl : lv_has ls 2 [(0, .ref o), (1, .int x)] := hl
  refine lv_iload_n hx hb dX5_made_0 rfl (lv_at hl 1 rfl) ?_
  refine lv_sipush (v := nI 4096) hx hb dX5_made_1 (by decide) ?_
  refine ro_S (rest := []) ⟨hx, hb, hml, hown, hts⟩ (c_X5_isBelow l G x 4096) (va_cwS 2 hts gX5_made_X5_isBelow rfl rfl rfl (by decide +kernel) ⟨Nat.le_of_ble_eq_true rfl, Nat.le_of_ble_eq_true rfl⟩) hE (hP.sub [] rfl) rfl hl.1 rfl (Nat.le_of_ble_eq_true rfl) dX5_made_4 ⟨Nat.zero_le _, Nat.zero_le _⟩ ?_
  refine j_bool (fun c4 => ?_) (fun c4 => ?_)
  · skip
    obtain ⟨w, hw, rfl⟩ := blw_ex c4 (by decide)
    refine j_if_eq (tgt := 17) hx hb dX5_made_7 (by decide) (fun q => absurd q (by decide)) (fun _ => ?_)
    refine lv_iload_n hx hb dX5_made_10 rfl (lv_at hl 1 rfl) ?_
    refine ro_SN (rest := []) (host := "TripleTrap") ⟨hx, hb, hml, hown, hts⟩ (c_X0_coded l G w (by omega)) ⟨va_cnB 1 hts gX5_made_X0_coded_n39 rfl rfl rfl (hE.nest (w := .methodLinkNest RX5 39 yX0_coded "TripleTrap") 12 rfl) (hts (.initialized RX0) (List.mem_of_getElem? (i := 6) rfl)) (by decide +kernel) ⟨Nat.le_of_ble_eq_true rfl, Nat.le_of_ble_eq_true rfl⟩, hts (.static yX0_coded) (List.mem_of_getElem? (i := 5) rfl), trivial⟩ hE (hP.sub [] rfl) rfl hl.1 rfl (Nat.le_of_ble_eq_true rfl) dX5_made_11 ⟨Nat.zero_le _, Nat.zero_le _⟩ ?_
    refine lv_goto (tgt := 19) hx hb dX5_made_14 (by decide) ?_
    exact ro_ret hx hb hr hlocks dX5_made_19 (by rw [cMade, if_pos c4, cl_nI hw (by decide)])
  · skip
    refine j_if_eq (tgt := 17) hx hb dX5_made_7 (by decide) (fun _ => ?_) (fun q => absurd q (by decide))
    refine lv_bipush (v := (-2)) hx hb dX5_made_17 (by decide) ?_
    exact ro_ret hx hb hr hlocks dX5_made_19 (by rw [cMade, if_neg (by rw [c4]; decide)])
set_option maxHeartbeats 4000000 in
set_option maxRecDepth 100000 in
/-- rest -/
theorem c_X5_rest (l : Launch) (G : EG) (o : Nat) (me : Nat) (h0 : Nat) (im : Nat) (kp : Nat) (ta : Nat) (x : Int32) : RO l yX5_rest wsX5_rest (rmR 1 22) G [(o, .inr (4, [.ref me, .ref h0, .ref im, .int (nI kp), .ref ta]))] [.ref o, .int x] (.int (mRest x)) := by
  refine RO.start (by decide) rfl (Nat.le_of_ble_eq_true rfl) ?_
  intro p e s m below meth c hx hb hr hml hts hown hlocks hP hE ls hl
  have hown : s.vm.findClass RX5 = some m.cls := hown
  have hl : lv_has ls 2 [(0, .ref o), (1, .int x)] := hl
  refine lv_iload_n hx hb dX5_rest_0 rfl (lv_at hl 1 rfl) ?_
  refine lv_ldc (v := nI 8388608) hx hb hown (hts (.constant RX5 45 (nI 8388608)) (List.mem_of_getElem? (i := 1) rfl)) dX5_rest_1 ?_
  refine ro_S (rest := []) ⟨hx, hb, hml, hown, hts⟩ (c_X5_isBelow l G x 8388608) (va_cwS 2 hts gX5_rest_X5_isBelow rfl rfl rfl (by decide +kernel) ⟨Nat.le_of_ble_eq_true rfl, Nat.le_of_ble_eq_true rfl⟩) hE (hP.sub [] rfl) rfl hl.1 rfl (Nat.le_of_ble_eq_true rfl) dX5_rest_3 ⟨Nat.zero_le _, Nat.zero_le _⟩ ?_
  refine j_bool (fun c3 => ?_) (fun c3 => ?_)
  · skip
    obtain ⟨w, hw, rfl⟩ := blw_ex c3 (by decide)
    refine j_if_eq (tgt := 16) hx hb dX5_rest_6 (by decide) (fun q => absurd q (by decide)) (fun _ => ?_)
    refine lv_iload_n hx hb dX5_rest_9 rfl (lv_at hl 1 rfl) ?_
    refine ro_SN (rest := []) (host := "TripleTrap") ⟨hx, hb, hml, hown, hts⟩ (c_X0_remainder l G w (by omega)) ⟨va_cnB 1 hts gX5_rest_X0_remainder_n46 rfl rfl rfl (hE.nest (w := .methodLinkNest RX5 46 yX0_remainder "TripleTrap") 13 rfl) (hts (.initialized RX0) (List.mem_of_getElem? (i := 7) rfl)) (by decide +kernel) ⟨Nat.le_of_ble_eq_true rfl, Nat.le_of_ble_eq_true rfl⟩, hts (.static yX0_remainder) (List.mem_of_getElem? (i := 6) rfl), trivial⟩ hE (hP.sub [] rfl) rfl hl.1 rfl (Nat.le_of_ble_eq_true rfl) dX5_rest_10 ⟨Nat.zero_le _, Nat.zero_le _⟩ ?_
    refine lv_goto (tgt := 18) hx hb dX5_rest_13 (by decide) ?_
    exact ro_ret hx hb hr hlocks dX5_rest_18 (by rw [mRest, if_pos c3, cl_nI hw (by decide)])
  · skip
    refine j_if_eq (tgt := 16) hx hb dX5_rest_6 (by decide) (fun _ => ?_) (fun q => absurd q (by decide))
    refine lv_bipush (v := (-2)) hx hb dX5_rest_16 (by decide) ?_
    exact ro_ret hx hb hr hlocks dX5_rest_18 (by rw [mRest, if_neg (by rw [c3]; decide)])
set_option maxHeartbeats 4000000 in
set_option maxRecDepth 100000 in
/-- of -/
theorem c_X5_of (l : Launch) (G : EG) (o : Nat) (me : Nat) (h0 : Nat) (im : Nat) (kp : Nat) (ta : Nat) (et : Nat) (E : Nat → Nat) (hEb : ∀ i, i < 2048 → E i < 8388608) (x : Int32) (y : Int32) : RO l yX5_of wsX5_of (rmR 3 65) G [(o, .inr (4, [.ref me, .ref h0, .ref im, .int (nI kp), .ref ta])), (me, .inr (1, [.ref et])), (et, aI G 2048 E)] [.ref o, .int x, .int y] (.int (cOf E x y)) := by
  refine RO.start (by decide) rfl (Nat.le_of_ble_eq_true rfl) ?_
  intro p e s m below meth c hx hb hr hml hts hown hlocks hP hE ls hl
  have hown : s.vm.findClass RX5 = some m.cls := hown
  have hl : lv_has ls 3 [(0, .ref o), (1, .int x), (2, .int y)] := hl
  refine lv_iload_n hx hb dX5_of_0 rfl (lv_at hl 1 rfl) ?_
  refine lv_ldc (v := nI 8388608) hx hb hown (hts (.constant RX5 45 (nI 8388608)) (List.mem_of_getElem? (i := 1) rfl)) dX5_of_1 ?_
  refine ro_S (rest := []) ⟨hx, hb, hml, hown, hts⟩ (c_X5_isBelow l G x 8388608) (va_cwS 2 hts gX5_of_X5_isBelow rfl rfl rfl (by decide +kernel) ⟨Nat.le_of_ble_eq_true rfl, Nat.le_of_ble_eq_true rfl⟩) hE (hP.sub [] rfl) rfl hl.1 rfl (Nat.le_of_ble_eq_true rfl) dX5_of_3 ⟨Nat.zero_le _, Nat.zero_le _⟩ ?_
  refine j_bool (fun c3 => ?_) (fun c3 => ?_)
  · skip
    obtain ⟨w, hw, rfl⟩ := blw_ex c3 (by decide)
    refine j_if_eq (tgt := 17) hx hb dX5_of_6 (by decide) (fun q => absurd q (by decide)) (fun _ => ?_)
    refine lv_iload_n hx hb dX5_of_9 rfl (lv_at hl 2 rfl) ?_
    refine lv_iconst (v := nI 4) hx hb dX5_of_10 (by decide) ?_
    refine ro_S (rest := []) ⟨hx, hb, hml, hown, hts⟩ (c_X5_isBelow l G y 4) (va_cwS 2 hts gX5_of_X5_isBelow rfl rfl rfl (by decide +kernel) ⟨Nat.le_of_ble_eq_true rfl, Nat.le_of_ble_eq_true rfl⟩) hE (hP.sub [] rfl) rfl hl.1 rfl (Nat.le_of_ble_eq_true rfl) dX5_of_11 ⟨Nat.zero_le _, Nat.zero_le _⟩ ?_
    refine j_bool (fun c11 => ?_) (fun c11 => ?_)
    · skip
      obtain ⟨j, hj, rfl⟩ := blw_ex c11 (by decide)
      refine j_if_ne (tgt := 20) hx hb dX5_of_14 (by decide) (fun _ => ?_) (fun q => absurd q (by decide))
      refine lv_iload_n hx hb dX5_of_20 rfl (lv_at hl 2 rfl) ?_
      by_cases c21_0 : j = 0
      · subst c21_0
        refine lv_tableIn (off := 27) (tgt := 48) hx hb dX5_of_21 (by decide) (by decide) rfl (by decide) ?_
        refine lv_iload_n hx hb dX5_of_48 rfl (lv_at hl 1 rfl) ?_
        refine ro_S (rest := []) ⟨hx, hb, hml, hown, hts⟩ (c_J6_bitCount_0f7a4 l G w (by omega)) (va_cwS 1 hts gX5_of_J6_bitCount_0f7a4 rfl rfl rfl (by decide +kernel) ⟨Nat.le_of_ble_eq_true rfl, Nat.le_of_ble_eq_true rfl⟩) hE (hP.sub [] rfl) rfl hl.1 rfl (Nat.le_of_ble_eq_true rfl) dX5_of_49 ⟨Nat.zero_le _, Nat.zero_le _⟩ ?_
        exact ro_ret hx hb hr hlocks dX5_of_52 (by rw [cOf, if_pos ⟨c3, c11⟩, cl_nI hw (by decide), cl_nI hj (by decide), if_pos rfl])
      by_cases c21_1 : j = 1
      · subst c21_1
        refine lv_tableIn (off := 32) (tgt := 53) hx hb dX5_of_21 (by decide) (by decide) rfl (by decide) ?_
        refine lv_aload_n hx hb dX5_of_53 rfl (lv_at hl 0 rfl) ?_
        refine va_get (D := G.1) (ci := 4) (v := .ref me) (C := RX5) (T := TX5) (N := 5) hx hb hts (fun w h => List.mem_cons_of_mem _ (List.mem_append_left _ (List.mem_append_right _ h))) hown hE.1 hP 0 rfl rfl 0 (by decide) (hts (.fieldLink RX5 12 "TripleTrap" "mender" "LTripleTrap$Mender;") (List.mem_of_getElem? (i := 2) rfl)) (fun _ h9 => h9) rfl dX5_of_54 ?_
        refine lv_iload_n hx hb dX5_of_57 rfl (lv_at hl 1 rfl) ?_
        refine ro_VN 1 0 (rest := []) (host := "TripleTrap") ⟨hx, hb, hml, hown, hts⟩ (c_X2_nearest l G me et E w (by omega)) ⟨va_cnB 1 hts gX5_of_X2_nearest_n54 rfl rfl rfl (hE.nest (w := .methodLinkNest RX5 54 yX2_nearest "TripleTrap") 14 rfl) (hts (.initialized RX2) (List.mem_of_getElem? (i := 15) rfl)) (by decide +kernel) ⟨Nat.le_of_ble_eq_true rfl, Nat.le_of_ble_eq_true rfl⟩, hts (.instanceMethod yX2_nearest) (List.mem_of_getElem? (i := 14) rfl), hts (.selects RX2 yX2_nearest yX2_nearest) (List.mem_of_getElem? (i := 16) rfl)⟩ hE (hP.sub [1, 2] rfl) rfl rfl rfl hl.1 rfl (Nat.le_of_ble_eq_true rfl) dX5_of_58 ⟨Nat.zero_le _, Nat.zero_le _⟩ ?_
        exact ro_ret hx hb hr hlocks dX5_of_61 (by rw [cOf, if_pos ⟨c3, c11⟩, cl_nI hw (by decide), cl_nI hj (by decide), if_neg (by decide), if_pos rfl])
      by_cases c21_2 : j = 2
      · subst c21_2
        refine lv_tableIn (off := 41) (tgt := 62) hx hb dX5_of_21 (by decide) (by decide) rfl (by decide) ?_
        refine lv_aload_n hx hb dX5_of_62 rfl (lv_at hl 0 rfl) ?_
        refine va_get (D := G.1) (ci := 4) (v := .ref me) (C := RX5) (T := TX5) (N := 5) hx hb hts (fun w h => List.mem_cons_of_mem _ (List.mem_append_left _ (List.mem_append_right _ h))) hown hE.1 hP 0 rfl rfl 0 (by decide) (hts (.fieldLink RX5 12 "TripleTrap" "mender" "LTripleTrap$Mender;") (List.mem_of_getElem? (i := 2) rfl)) (fun _ h9 => h9) rfl dX5_of_63 ?_
        refine lv_iload_n hx hb dX5_of_66 rfl (lv_at hl 1 rfl) ?_
        refine ro_VN 1 0 (rest := []) (host := "TripleTrap") ⟨hx, hb, hml, hown, hts⟩ (c_X2_distance l G me et E hEb w (by omega)) ⟨va_cnB 1 hts gX5_of_X2_distance_n57 rfl rfl rfl (hE.nest (w := .methodLinkNest RX5 57 yX2_distance "TripleTrap") 15 rfl) (hts (.initialized RX2) (List.mem_of_getElem? (i := 15) rfl)) (by decide +kernel) ⟨Nat.le_of_ble_eq_true rfl, Nat.le_of_ble_eq_true rfl⟩, hts (.instanceMethod yX2_distance) (List.mem_of_getElem? (i := 26) rfl), hts (.selects RX2 yX2_distance yX2_distance) (List.mem_of_getElem? (i := 27) rfl)⟩ hE (hP.sub [1, 2] rfl) rfl rfl rfl hl.1 rfl (Nat.le_of_ble_eq_true rfl) dX5_of_67 ⟨Nat.zero_le _, Nat.zero_le _⟩ ?_
        exact ro_ret hx hb hr hlocks dX5_of_70 (by rw [cOf, if_pos ⟨c3, c11⟩, cl_nI hw (by decide), cl_nI hj (by decide), if_neg (by decide), if_neg (by decide), if_pos rfl])
      refine lv_tableOut (tgt := 71) hx hb dX5_of_21 (by rw [nI_toInt (by omega)]; omega) (by decide) ?_
      refine lv_aload_n hx hb dX5_of_71 rfl (lv_at hl 0 rfl) ?_
      refine va_get (D := G.1) (ci := 4) (v := .ref me) (C := RX5) (T := TX5) (N := 5) hx hb hts (fun w h => List.mem_cons_of_mem _ (List.mem_append_left _ (List.mem_append_right _ h))) hown hE.1 hP 0 rfl rfl 0 (by decide) (hts (.fieldLink RX5 12 "TripleTrap" "mender" "LTripleTrap$Mender;") (List.mem_of_getElem? (i := 2) rfl)) (fun _ h9 => h9) rfl dX5_of_72 ?_
      refine lv_iload_n hx hb dX5_of_75 rfl (lv_at hl 1 rfl) ?_
      refine ro_VN 1 0 (rest := []) (host := "TripleTrap") ⟨hx, hb, hml, hown, hts⟩ (c_X2_nearest l G me et E w (by omega)) ⟨va_cnB 1 hts gX5_of_X2_nearest_n54 rfl rfl rfl (hE.nest (w := .methodLinkNest RX5 54 yX2_nearest "TripleTrap") 14 rfl) (hts (.initialized RX2) (List.mem_of_getElem? (i := 15) rfl)) (by decide +kernel) ⟨Nat.le_of_ble_eq_true rfl, Nat.le_of_ble_eq_true rfl⟩, hts (.instanceMethod yX2_nearest) (List.mem_of_getElem? (i := 14) rfl), hts (.selects RX2 yX2_nearest yX2_nearest) (List.mem_of_getElem? (i := 16) rfl)⟩ hE (hP.sub [1, 2] rfl) rfl rfl rfl hl.1 rfl (Nat.le_of_ble_eq_true rfl) dX5_of_76 ⟨Nat.zero_le _, Nat.zero_le _⟩ ?_
      refine ro_SN (rest := []) (host := "TripleTrap") ⟨hx, hb, hml, hown, hts⟩ (c_X0_message l G (nearE E w) (Nat.lt_trans (near_lt hEb hw) (by decide))) ⟨va_cnB 1 hts gX5_of_X0_message_n60 rfl rfl rfl (hE.nest (w := .methodLinkNest RX5 60 yX0_message "TripleTrap") 16 rfl) (hts (.initialized RX0) (List.mem_of_getElem? (i := 24) rfl)) (by decide +kernel) ⟨Nat.le_of_ble_eq_true rfl, Nat.le_of_ble_eq_true rfl⟩, hts (.static yX0_message) (List.mem_of_getElem? (i := 30) rfl), trivial⟩ hE (hP.sub [] rfl) rfl hl.1 rfl (Nat.le_of_ble_eq_true rfl) dX5_of_79 ⟨Nat.zero_le _, Nat.zero_le _⟩ ?_
      exact ro_ret hx hb hr hlocks dX5_of_82 (by rw [cOf, if_pos ⟨c3, c11⟩, cl_nI hw (by decide), cl_nI hj (by decide), if_neg c21_0, if_neg c21_1, if_neg c21_2])
    · skip
      refine j_if_ne (tgt := 20) hx hb dX5_of_14 (by decide) (fun q => absurd q (by decide)) (fun _ => ?_)
      refine lv_bipush (v := (-2)) hx hb dX5_of_17 (by decide) ?_
      exact ro_ret hx hb hr hlocks dX5_of_19 (by rw [cOf, if_neg (fun h => by rw [c11] at h; exact absurd h.2 (by decide))])
  · skip
    refine j_if_eq (tgt := 17) hx hb dX5_of_6 (by decide) (fun _ => ?_) (fun q => absurd q (by decide))
    refine lv_bipush (v := (-2)) hx hb dX5_of_17 (by decide) ?_
    exact ro_ret hx hb hr hlocks dX5_of_19 (by rw [cOf, if_neg (fun h => by rw [c3] at h; exact absurd h.1 (by decide))])
set_option maxHeartbeats 4000000 in
set_option maxRecDepth 100000 in
/-- codeWordsAt -/
theorem c_X5_codeWordsAt (l : Launch) (G : EG) (at0 : Nat) (f : Nat) (d : Nat) (hf : f < 4) (hd : d < 24) : RA l yX5_codeWordsAt wsX5_codeWordsAt (rmR 1 21) G at0 [] [.int (nI f), .int (nI d)] (.int (nI (arT (f * 24 + d)))) := by
  refine RA.start (by decide) rfl (Nat.le_of_ble_eq_true rfl) ?_
  intro p e s m below meth c hx hb hr hml hts hown hlocks hP hE hAr ls hl
  have hown : s.vm.findClass RX5 = some m.cls := hown
  have hl : lv_has ls 2 [(0, .int (nI f)), (1, .int (nI d))] := hl
  refine lv_iload_n hx hb dX5_codeWordsAt_0 rfl (lv_at hl 0 rfl) ?_
  refine lv_iconst (v := nI 4) hx hb dX5_codeWordsAt_1 (by decide) ?_
  refine ro_S (rest := []) ⟨hx, hb, hml, hown, hts⟩ (c_X5_isBelow l G (nI f) 4) (va_cwS 2 hts gX5_codeWordsAt_X5_isBelow rfl rfl rfl (by decide +kernel) ⟨Nat.le_of_ble_eq_true rfl, Nat.le_of_ble_eq_true rfl⟩) hE (hP.sub [] rfl) rfl hl.1 rfl (Nat.le_of_ble_eq_true rfl) dX5_codeWordsAt_2 ⟨Nat.zero_le _, Nat.zero_le _⟩ ?_
  refine j_bool (fun c2 => ?_) (fun c2 => ?_)
  · skip
    refine j_if_eq (tgt := 17) hx hb dX5_codeWordsAt_5 (by decide) (fun q => absurd q (by decide)) (fun _ => ?_)
    refine lv_iload_n hx hb dX5_codeWordsAt_8 rfl (lv_at hl 1 rfl) ?_
    refine lv_bipush (v := nI 24) hx hb dX5_codeWordsAt_9 (by decide) ?_
    refine ro_S (rest := []) ⟨hx, hb, hml, hown, hts⟩ (c_X5_isBelow l G (nI d) 24) (va_cwS 2 hts gX5_codeWordsAt_X5_isBelow rfl rfl rfl (by decide +kernel) ⟨Nat.le_of_ble_eq_true rfl, Nat.le_of_ble_eq_true rfl⟩) hE (hP.sub [] rfl) rfl hl.1 rfl (Nat.le_of_ble_eq_true rfl) dX5_codeWordsAt_11 ⟨Nat.zero_le _, Nat.zero_le _⟩ ?_
    refine j_bool (fun c11 => ?_) (fun c11 => ?_)
    · skip
      refine j_if_ne (tgt := 19) hx hb dX5_codeWordsAt_14 (by decide) (fun _ => ?_) (fun q => absurd q (by decide))
      refine va_gets hx hb hAr.1 va_S.rf hown (hts (.fieldLink RX5 152 "TripleTrap" "AROUND" "[I") (List.mem_of_getElem? (i := 1) rfl)) (fun _ h9 => h9) dX5_codeWordsAt_19 ?_
      refine lv_iload_n hx hb dX5_codeWordsAt_22 rfl (lv_at hl 0 rfl) ?_
      refine lv_bipush (v := nI 24) hx hb dX5_codeWordsAt_23 (by decide) ?_
      refine j_mul hx hb dX5_codeWordsAt_25 ?_
      refine lv_iload_n hx hb dX5_codeWordsAt_26 rfl (lv_at hl 1 rfl) ?_
      refine j_add hx hb dX5_codeWordsAt_27 ?_
      refine va_ti hx hb hAr.2 va_S.rf (vp_in_nI (by omega) (by decide)) (v := .int (nI (arT ((f * 24) + d)))) (by rw [nI_clamp (by omega)]) dX5_codeWordsAt_28 ?_
      exact ro_ret hx hb hr hlocks dX5_codeWordsAt_29 (rfl)
    · skip
      rw [blw_j hd (by decide)] at c11; exact absurd c11 (by decide)
  · skip
    rw [blw_j hf (by decide)] at c2; exact absurd c2 (by decide)
set_option maxHeartbeats 4000000 in
set_option maxRecDepth 100000 in
/-- around -/
theorem c_X5_around (l : Launch) (G : EG) (at0 : Nat) (o : Nat) (me : Nat) (h0 : Nat) (im : Nat) (kp : Nat) (ta : Nat) (et : Nat) (E : Nat → Nat) (hEb : ∀ i, i < 2048 → E i < 8388608) (hE4 : ∀ i, i < 2048 → bcN (E i) < 4) (x : Int32) (y : Int32) : RA l yX5_around wsX5_around (rmR 3 65) G at0 [(o, .inr (4, [.ref me, .ref h0, .ref im, .int (nI kp), .ref ta])), (me, .inr (1, [.ref et])), (et, aI G 2048 E)] [.ref o, .int x, .int y] (.int (cAround E x y)) := by
  refine RA.start (by decide) rfl (Nat.le_of_ble_eq_true rfl) ?_
  intro p e s m below meth c hx hb hr hml hts hown hlocks hP hE hAr ls hl
  have hown : s.vm.findClass RX5 = some m.cls := hown
  have hl : lv_has ls 3 [(0, .ref o), (1, .int x), (2, .int y)] := hl
  refine lv_iload_n hx hb dX5_around_0 rfl (lv_at hl 1 rfl) ?_
  refine lv_ldc (v := nI 8388608) hx hb hown (hts (.constant RX5 45 (nI 8388608)) (List.mem_of_getElem? (i := 1) rfl)) dX5_around_1 ?_
  refine ro_S (rest := []) ⟨hx, hb, hml, hown, hts⟩ (c_X5_isBelow l G x 8388608) (va_cwS 2 hts gX5_around_X5_isBelow rfl rfl rfl (by decide +kernel) ⟨Nat.le_of_ble_eq_true rfl, Nat.le_of_ble_eq_true rfl⟩) hE (hP.sub [] rfl) rfl hl.1 rfl (Nat.le_of_ble_eq_true rfl) dX5_around_3 ⟨Nat.zero_le _, Nat.zero_le _⟩ ?_
  refine j_bool (fun c3 => ?_) (fun c3 => ?_)
  · skip
    obtain ⟨w, hw, rfl⟩ := blw_ex c3 (by decide)
    refine j_if_eq (tgt := 18) hx hb dX5_around_6 (by decide) (fun q => absurd q (by decide)) (fun _ => ?_)
    refine lv_iload_n hx hb dX5_around_9 rfl (lv_at hl 2 rfl) ?_
    refine lv_bipush (v := nI 24) hx hb dX5_around_10 (by decide) ?_
    refine ro_S (rest := []) ⟨hx, hb, hml, hown, hts⟩ (c_X5_isBelow l G y 24) (va_cwS 2 hts gX5_around_X5_isBelow rfl rfl rfl (by decide +kernel) ⟨Nat.le_of_ble_eq_true rfl, Nat.le_of_ble_eq_true rfl⟩) hE (hP.sub [] rfl) rfl hl.1 rfl (Nat.le_of_ble_eq_true rfl) dX5_around_12 ⟨Nat.zero_le _, Nat.zero_le _⟩ ?_
    refine j_bool (fun c12 => ?_) (fun c12 => ?_)
    · skip
      obtain ⟨j, hj, rfl⟩ := blw_ex c12 (by decide)
      refine j_if_ne (tgt := 21) hx hb dX5_around_15 (by decide) (fun _ => ?_) (fun q => absurd q (by decide))
      refine lv_aload_n hx hb dX5_around_21 rfl (lv_at hl 0 rfl) ?_
      refine va_get (D := G.1) (ci := 4) (v := .ref me) (C := RX5) (T := TX5) (N := 5) hx hb hts (fun w h => List.mem_cons_of_mem _ (List.mem_append_left _ (List.mem_append_right _ h))) hown hE.1 hP 0 rfl rfl 0 (by decide) (hts (.fieldLink RX5 12 "TripleTrap" "mender" "LTripleTrap$Mender;") (List.mem_of_getElem? (i := 2) rfl)) (fun _ h9 => h9) rfl dX5_around_22 ?_
      refine lv_iload_n hx hb dX5_around_25 rfl (lv_at hl 1 rfl) ?_
      refine ro_VN 1 0 (rest := []) (host := "TripleTrap") ⟨hx, hb, hml, hown, hts⟩ (c_X2_distance l G me et E hEb w (by omega)) ⟨va_cnB 1 hts gX5_around_X2_distance_n57 rfl rfl rfl (hE.nest (w := .methodLinkNest RX5 57 yX2_distance "TripleTrap") 15 rfl) (hts (.initialized RX2) (List.mem_of_getElem? (i := 8) rfl)) (by decide +kernel) ⟨Nat.le_of_ble_eq_true rfl, Nat.le_of_ble_eq_true rfl⟩, hts (.instanceMethod yX2_distance) (List.mem_of_getElem? (i := 7) rfl), hts (.selects RX2 yX2_distance yX2_distance) (List.mem_of_getElem? (i := 9) rfl)⟩ hE (hP.sub [1, 2] rfl) rfl rfl rfl hl.1 rfl (Nat.le_of_ble_eq_true rfl) dX5_around_26 ⟨Nat.zero_le _, Nat.zero_le _⟩ ?_
      refine lv_iload_n hx hb dX5_around_29 rfl (lv_at hl 2 rfl) ?_
      refine ra_S (rest := []) ⟨hx, hb, hml, hown, hts⟩ (c_X5_codeWordsAt l G at0 (bcN (E (remN w))) j (hE4 _ (remN_lt11 hw)) (by omega)) (va_cwS 2 hts gX5_around_X5_codeWordsAt rfl rfl rfl (by decide +kernel) ⟨Nat.le_of_ble_eq_true rfl, Nat.le_of_ble_eq_true rfl⟩) hE (hP.sub [] rfl) hAr rfl hl.1 rfl (Nat.le_of_ble_eq_true rfl) dX5_around_30 ⟨Nat.zero_le _, Nat.zero_le _⟩ ?_
      exact ro_ret hx hb hr hlocks dX5_around_33 (by rw [cAround, if_pos ⟨c3, c12⟩, cl_nI hw (by decide), cl_nI hj (by decide)])
    · skip
      refine j_if_ne (tgt := 21) hx hb dX5_around_15 (by decide) (fun q => absurd q (by decide)) (fun _ => ?_)
      refine lv_bipush (v := (-2)) hx hb dX5_around_18 (by decide) ?_
      exact ro_ret hx hb hr hlocks dX5_around_20 (by rw [cAround, if_neg (fun h => by rw [c12] at h; exact absurd h.2 (by decide))])
  · skip
    refine j_if_eq (tgt := 18) hx hb dX5_around_6 (by decide) (fun _ => ?_) (fun q => absurd q (by decide))
    refine lv_bipush (v := (-2)) hx hb dX5_around_18 (by decide) ?_
    exact ro_ret hx hb hr hlocks dX5_around_20 (by rw [cAround, if_neg (fun h => by rw [c3] at h; exact absurd h.1 (by decide))])
set_option maxHeartbeats 4000000 in
set_option maxRecDepth 100000 in
/-- turned -/
theorem c_X5_turned (l : Launch) (G : EG) (o : Nat) (me : Nat) (h0 : Nat) (im : Nat) (kp : Nat) (ta : Nat) (x : Int32) (y : Int32) : RO l yX5_turned wsX5_turned (rmR 1 21) G [(o, .inr (4, [.ref me, .ref h0, .ref im, .int (nI kp), .ref ta]))] [.ref o, .int x, .int y] (.int (cTurned x y)) := by
  refine RO.start (by decide) rfl (Nat.le_of_ble_eq_true rfl) ?_
  intro p e s m below meth c hx hb hr hml hts hown hlocks hP hE ls hl
  have hown : s.vm.findClass RX5 = some m.cls := hown
  have hl : lv_has ls 3 [(0, .ref o), (1, .int x), (2, .int y)] := hl
  refine lv_iload_n hx hb dX5_turned_0 rfl (lv_at hl 1 rfl) ?_
  refine lv_ldc (v := nI 8388608) hx hb hown (hts (.constant RX5 45 (nI 8388608)) (List.mem_of_getElem? (i := 1) rfl)) dX5_turned_1 ?_
  refine ro_S (rest := []) ⟨hx, hb, hml, hown, hts⟩ (c_X5_isBelow l G x 8388608) (va_cwS 2 hts gX5_turned_X5_isBelow rfl rfl rfl (by decide +kernel) ⟨Nat.le_of_ble_eq_true rfl, Nat.le_of_ble_eq_true rfl⟩) hE (hP.sub [] rfl) rfl hl.1 rfl (Nat.le_of_ble_eq_true rfl) dX5_turned_3 ⟨Nat.zero_le _, Nat.zero_le _⟩ ?_
  refine j_bool (fun c3 => ?_) (fun c3 => ?_)
  · skip
    obtain ⟨w, hw, rfl⟩ := blw_ex c3 (by decide)
    refine j_if_eq (tgt := 26) hx hb dX5_turned_6 (by decide) (fun q => absurd q (by decide)) (fun _ => ?_)
    refine lv_iload_n hx hb dX5_turned_9 rfl (lv_at hl 2 rfl) ?_
    refine lv_bipush (v := nI 23) hx hb dX5_turned_10 (by decide) ?_
    refine ro_S (rest := []) ⟨hx, hb, hml, hown, hts⟩ (c_X5_isBelow l G y 23) (va_cwS 2 hts gX5_turned_X5_isBelow rfl rfl rfl (by decide +kernel) ⟨Nat.le_of_ble_eq_true rfl, Nat.le_of_ble_eq_true rfl⟩) hE (hP.sub [] rfl) rfl hl.1 rfl (Nat.le_of_ble_eq_true rfl) dX5_turned_12 ⟨Nat.zero_le _, Nat.zero_le _⟩ ?_
    refine j_bool (fun c12 => ?_) (fun c12 => ?_)
    · skip
      obtain ⟨j, hj, rfl⟩ := blw_ex c12 (by decide)
      refine j_if_eq (tgt := 26) hx hb dX5_turned_15 (by decide) (fun q => absurd q (by decide)) (fun _ => ?_)
      refine lv_iload_n hx hb dX5_turned_18 rfl (lv_at hl 1 rfl) ?_
      refine lv_iload_n hx hb dX5_turned_19 rfl (lv_at hl 2 rfl) ?_
      refine ro_SN (rest := []) (host := "TripleTrap") ⟨hx, hb, hml, hown, hts⟩ (c_X0_turn l G w j (by omega) (by omega)) ⟨va_cnB 2 hts gX5_turned_X0_turn_n67 rfl rfl rfl (hE.nest (w := .methodLinkNest RX5 67 yX0_turn "TripleTrap") 17 rfl) (hts (.initialized RX0) (List.mem_of_getElem? (i := 7) rfl)) (by decide +kernel) ⟨Nat.le_of_ble_eq_true rfl, Nat.le_of_ble_eq_true rfl⟩, hts (.static yX0_turn) (List.mem_of_getElem? (i := 6) rfl), trivial⟩ hE (hP.sub [] rfl) rfl hl.1 rfl (Nat.le_of_ble_eq_true rfl) dX5_turned_20 ⟨Nat.zero_le _, Nat.zero_le _⟩ ?_
      refine lv_goto (tgt := 28) hx hb dX5_turned_23 (by decide) ?_
      exact ro_ret hx hb hr hlocks dX5_turned_28 (by rw [cTurned, if_pos ⟨c3, c12⟩, cl_nI hw (by decide), cl_nI hj (by decide)])
    · skip
      refine j_if_eq (tgt := 26) hx hb dX5_turned_15 (by decide) (fun _ => ?_) (fun q => absurd q (by decide))
      refine lv_bipush (v := (-2)) hx hb dX5_turned_26 (by decide) ?_
      exact ro_ret hx hb hr hlocks dX5_turned_28 (by rw [cTurned, if_neg (fun h => by rw [c12] at h; exact absurd h.2 (by decide))])
  · skip
    refine j_if_eq (tgt := 26) hx hb dX5_turned_6 (by decide) (fun _ => ?_) (fun q => absurd q (by decide))
    refine lv_bipush (v := (-2)) hx hb dX5_turned_26 (by decide) ?_
    exact ro_ret hx hb hr hlocks dX5_turned_28 (by rw [cTurned, if_neg (fun h => by rw [c3] at h; exact absurd h.1 (by decide))])
set_option maxHeartbeats 4000000 in
set_option maxRecDepth 100000 in
/-- trapped -/
theorem c_X5_trapped (l : Launch) (G : EG) (o : Nat) (me : Nat) (h0 : Nat) (im : Nat) (kp : Nat) (ta : Nat) (x : Int32) (y : Int32) : RO l yX5_trapped wsX5_trapped (rmR 2 45) G [(o, .inr (4, [.ref me, .ref h0, .ref im, .int (nI kp), .ref ta]))] [.ref o, .int x, .int y] (.int (cTrapped x y)) := by
  refine RO.start (by decide) rfl (Nat.le_of_ble_eq_true rfl) ?_
  intro p e s m below meth c hx hb hr hml hts hown hlocks hP hE ls hl
  have hown : s.vm.findClass RX5 = some m.cls := hown
  have hl : lv_has ls 7 [(0, .ref o), (1, .int x), (2, .int y)] := hl
  refine lv_iload_n hx hb dX5_trapped_0 rfl (lv_at hl 1 rfl) ?_
  refine lv_ldc (v := nI 8388608) hx hb hown (hts (.constant RX5 45 (nI 8388608)) (List.mem_of_getElem? (i := 1) rfl)) dX5_trapped_1 ?_
  refine ro_S (rest := []) ⟨hx, hb, hml, hown, hts⟩ (c_X5_isBelow l G x 8388608) (va_cwS 2 hts gX5_trapped_X5_isBelow rfl rfl rfl (by decide +kernel) ⟨Nat.le_of_ble_eq_true rfl, Nat.le_of_ble_eq_true rfl⟩) hE (hP.sub [] rfl) rfl hl.1 rfl (Nat.le_of_ble_eq_true rfl) dX5_trapped_3 ⟨Nat.zero_le _, Nat.zero_le _⟩ ?_
  refine j_bool (fun c3 => ?_) (fun c3 => ?_)
  · skip
    obtain ⟨w, hw, rfl⟩ := blw_ex c3 (by decide)
    refine j_if_eq (tgt := 17) hx hb dX5_trapped_6 (by decide) (fun q => absurd q (by decide)) (fun _ => ?_)
    refine lv_iload_n hx hb dX5_trapped_9 rfl (lv_at hl 2 rfl) ?_
    refine lv_iconst (v := nI 3) hx hb dX5_trapped_10 (by decide) ?_
    refine ro_S (rest := []) ⟨hx, hb, hml, hown, hts⟩ (c_X5_isBelow l G y 3) (va_cwS 2 hts gX5_trapped_X5_isBelow rfl rfl rfl (by decide +kernel) ⟨Nat.le_of_ble_eq_true rfl, Nat.le_of_ble_eq_true rfl⟩) hE (hP.sub [] rfl) rfl hl.1 rfl (Nat.le_of_ble_eq_true rfl) dX5_trapped_11 ⟨Nat.zero_le _, Nat.zero_le _⟩ ?_
    refine j_bool (fun c11 => ?_) (fun c11 => ?_)
    · skip
      obtain ⟨j, hj, rfl⟩ := blw_ex c11 (by decide)
      refine j_if_ne (tgt := 20) hx hb dX5_trapped_14 (by decide) (fun _ => ?_) (fun q => absurd q (by decide))
      refine lv_iconst (v := nI 0) hx hb dX5_trapped_20 (by decide) ?_
      refine lv_istore_n (lv' := [(3, .int (nI 0)), (0, .ref o), (1, .int (nI w)), (2, .int (nI j))]) hx hb dX5_trapped_21 rfl hl (by decide) rfl (fun ls hl => ?_)
      have loop22 : ∀ (fuel : Nat) (t : Nat), (t ≤ 23) → (ctpT w j (23 - t) = ctpT w j 23) → 23 - t < fuel → ∀ ls : Array Slot, lv_has ls 7 [(3, .int (nI t)), (0, .ref o), (1, .int (nI w)), (2, .int (nI j))] → W p l e (rmR 2 45) s m ([.ref o, .int (nI w), .int (nI j)] : List Value).toArray below meth c s.heap [] 0 0 (MQ below (k2_QcV (.int (cTrapped (nI w) (nI j)))) ([.ref o, .int (nI w), .int (nI j)] : List Value).toArray s 0 0 (fun _ => False)) (F0 m 22 ls []) := by
        intro fuel
        induction fuel with
        | zero => intro t h1 h2 hf; exact absurd hf (Nat.not_lt_zero _)
        | succ fuel ih22 =>
          intro t h1 h2 hf ls hl
          refine lv_iload_n hx hb dX5_trapped_22 rfl (lv_at hl 0 rfl) ?_
          refine lv_bipush (v := nI 23) hx hb dX5_trapped_23 (by decide) ?_
          refine j_icmp_ge (tgt := 97) hx hb dX5_trapped_25 (by decide) (fun c25 => ?_) (fun c25 => ?_)
          · skip
            refine lv_bipush (v := (-6)) hx hb dX5_trapped_97 (by decide) ?_
            exact ro_ret hx hb hr hlocks dX5_trapped_99 (by rw [cTrapped, if_pos ⟨c3, c11⟩, cl_nI hw (by decide), cl_nI hj (by decide), ← h2, show 23 - t = 0 by omega, ctpT])
          · skip
            refine lv_iload_n hx hb dX5_trapped_28 rfl (lv_at hl 2 rfl) ?_
            refine lv_iload_n hx hb dX5_trapped_29 rfl (lv_at hl 0 rfl) ?_
            refine ro_SN (rest := []) (host := "TripleTrap") ⟨hx, hb, hml, hown, hts⟩ (c_X0_turn l G w t (by omega) (by omega)) ⟨va_cnB 2 hts gX5_trapped_X0_turn_n67 rfl rfl rfl (hE.nest (w := .methodLinkNest RX5 67 yX0_turn "TripleTrap") 17 rfl) (hts (.initialized RX0) (List.mem_of_getElem? (i := 7) rfl)) (by decide +kernel) ⟨Nat.le_of_ble_eq_true rfl, Nat.le_of_ble_eq_true rfl⟩, hts (.static yX0_turn) (List.mem_of_getElem? (i := 6) rfl), trivial⟩ hE (hP.sub [] rfl) rfl hl.1 rfl (Nat.le_of_ble_eq_true rfl) dX5_trapped_30 ⟨Nat.zero_le _, Nat.zero_le _⟩ ?_
            refine j_top (fun x33 ex33 => ?_)
            refine lv_istore (lv' := [(4, .int (nI x33)), (3, .int (nI t)), (0, .ref o), (1, .int (nI w)), (2, .int (nI j))]) hx hb dX5_trapped_33 hl (by decide) rfl (fun ls hl => ?_)
            refine lv_iconst (v := nI 0) hx hb dX5_trapped_35 (by decide) ?_
            refine lv_istore (lv' := [(5, .int (nI 0)), (4, .int (nI x33)), (3, .int (nI t)), (0, .ref o), (1, .int (nI w)), (2, .int (nI j))]) hx hb dX5_trapped_36 hl (by decide) rfl (fun ls hl => ?_)
            have loop38 : ∀ (fuel : Nat) (way : Nat), (way ≤ 3) → (ctpW w j t (ctpT w j (22 - t)) (3 - way) = ctpT w j 23) → 3 - way < fuel → ∀ ls : Array Slot, lv_has ls 7 [(5, .int (nI way)), (4, .int (nI x33)), (3, .int (nI t)), (0, .ref o), (1, .int (nI w)), (2, .int (nI j))] → W p l e (rmR 2 45) s m ([.ref o, .int (nI w), .int (nI j)] : List Value).toArray below meth c s.heap [] 0 0 (MQ below (k2_QcV (.int (cTrapped (nI w) (nI j)))) ([.ref o, .int (nI w), .int (nI j)] : List Value).toArray s 0 0 (fun _ => False)) (F0 m 38 ls []) := by
              intro fuel
              induction fuel with
              | zero => intro way g1 g2 hf; exact absurd hf (Nat.not_lt_zero _)
              | succ fuel ih38 =>
                intro way g1 g2 hf ls hl
                refine lv_iload hx hb dX5_trapped_38 (lv_at hl 0 rfl) ?_
                refine lv_iconst (v := nI 3) hx hb dX5_trapped_40 (by decide) ?_
                refine j_icmp_ge (tgt := 91) hx hb dX5_trapped_41 (by decide) (fun c41 => ?_) (fun c41 => ?_)
                · skip
                  obtain ⟨x91, ex91⟩ : ∃ y : Nat, y = t + 1 := ⟨_, rfl⟩
                  refine lv_iinc (v := nI x91) (lv' := [(3, .int (nI x91)), (5, .int (nI way)), (4, .int (nI x33)), (0, .ref o), (1, .int (nI w)), (2, .int (nI j))]) hx hb dX5_trapped_91 hl (k := 2) rfl (by rw [ex91]; exact nI_add _ _) (by decide) rfl (fun ls hl => ?_)
                  refine lv_goto (tgt := 22) hx hb dX5_trapped_94 (by decide) ?_
                  exact ih22 x91 (by omega) (by rw [← g2, show 3 - way = 0 by omega, ctpW, show 23 - x91 = 22 - t by omega]) (by omega) ls (lv_sub hl [0, 3, 4, 5] rfl)
                · skip
                  refine lv_iload hx hb dX5_trapped_44 (lv_at hl 1 rfl) ?_
                  refine lv_iload hx hb dX5_trapped_46 (lv_at hl 0 rfl) ?_
                  refine ro_SN (rest := []) (host := "TripleTrap") ⟨hx, hb, hml, hown, hts⟩ (c_X0_trapErrors l G x33 way (by rw [ex33]; exact turnN_lt _ _) (by omega)) ⟨va_cnB 2 hts gX5_trapped_X0_trapErrors_n70 rfl rfl rfl (hE.nest (w := .methodLinkNest RX5 70 yX0_trapErrors "TripleTrap") 18 rfl) (hts (.initialized RX0) (List.mem_of_getElem? (i := 7) rfl)) (by decide +kernel) ⟨Nat.le_of_ble_eq_true rfl, Nat.le_of_ble_eq_true rfl⟩, hts (.static yX0_trapErrors) (List.mem_of_getElem? (i := 10) rfl), trivial⟩ hE (hP.sub [] rfl) rfl hl.1 rfl (Nat.le_of_ble_eq_true rfl) dX5_trapped_48 ⟨Nat.zero_le _, Nat.zero_le _⟩ ?_
                  refine j_opt (fun c48 => ?_) (fun c48 => ?_)
                  · skip
                    refine j_top (fun x51 ex51 => ?_)
                    refine lv_istore (lv' := [(6, .int (nI x51)), (5, .int (nI way)), (4, .int (nI x33)), (3, .int (nI t)), (0, .ref o), (1, .int (nI w)), (2, .int (nI j))]) hx hb dX5_trapped_51 hl (by decide) rfl (fun ls hl => ?_)
                    refine lv_iload hx hb dX5_trapped_53 (lv_at hl 0 rfl) ?_
                    refine lv_bipush (v := (-6)) hx hb dX5_trapped_55 (by decide) ?_
                    refine lv_icmp_eq (tgt := 85) hx hb dX5_trapped_57 (by decide) (fun q => absurd q (nI_ne6 (by rw [ex51]; exact Nat.lt_trans (errN_lt (by rw [ex33]; exact turnN_lt _ _)) (by decide)))) (fun _ => ?_)
                    refine lv_iload_n hx hb dX5_trapped_60 rfl (lv_at hl 6 rfl) ?_
                    refine j_if_ne (tgt := 68) hx hb dX5_trapped_61 (by decide) (fun c61 => ?_) (fun c61 => ?_)
                    · skip
                      refine lv_iload_n hx hb dX5_trapped_68 rfl (lv_at hl 6 rfl) ?_
                      refine lv_iconst (v := nI 1) hx hb dX5_trapped_69 (by decide) ?_
                      refine j_icmp_ne (tgt := 78) hx hb dX5_trapped_70 (by decide) (fun c70 => ?_) (fun c70 => ?_)
                      · skip
                        refine lv_iload hx hb dX5_trapped_78 (lv_at hl 0 rfl) ?_
                        refine lv_iload_n hx hb dX5_trapped_80 rfl (lv_at hl 3 rfl) ?_
                        refine ro_SN (rest := []) (host := "TripleTrap") ⟨hx, hb, hml, hown, hts⟩ (c_X0_turnBack l G x51 t (by rw [ex51]; exact Nat.lt_trans (errN_lt (by rw [ex33]; exact turnN_lt _ _)) (by decide)) (by omega)) ⟨va_cnB 2 hts gX5_trapped_X0_turnBack_n73 rfl rfl rfl (hE.nest (w := .methodLinkNest RX5 73 yX0_turnBack "TripleTrap") 19 rfl) (hts (.initialized RX0) (List.mem_of_getElem? (i := 7) rfl)) (by decide +kernel) ⟨Nat.le_of_ble_eq_true rfl, Nat.le_of_ble_eq_true rfl⟩, hts (.static yX0_turnBack) (List.mem_of_getElem? (i := 24) rfl), trivial⟩ hE (hP.sub [] rfl) rfl hl.1 rfl (Nat.le_of_ble_eq_true rfl) dX5_trapped_81 ⟨Nat.zero_le _, Nat.zero_le _⟩ ?_
                        exact ro_ret hx hb hr hlocks dX5_trapped_84 (by rw [cTrapped, if_pos ⟨c3, c11⟩, cl_nI hw (by decide), cl_nI hj (by decide), ← g2, show 3 - way = (2 - way) + 1 by omega, ctpW, show 2 - (2 - way) = way by omega, if_pos (by rw [← ex33]; exact c48), ctpV, if_neg c61, if_neg c70, ex51, ex33])
                      · skip
                        refine lv_iload hx hb dX5_trapped_73 (lv_at hl 1 rfl) ?_
                        refine lv_goto (tgt := 84) hx hb dX5_trapped_75 (by decide) ?_
                        exact ro_ret hx hb hr hlocks dX5_trapped_84 (by rw [cTrapped, if_pos ⟨c3, c11⟩, cl_nI hw (by decide), cl_nI hj (by decide), ← g2, show 3 - way = (2 - way) + 1 by omega, ctpW, show 2 - (2 - way) = way by omega, if_pos (by rw [← ex33]; exact c48), ctpV, if_neg c61, if_pos c70])
                    · skip
                      refine lv_iload_n hx hb dX5_trapped_64 rfl (lv_at hl 3 rfl) ?_
                      refine lv_goto (tgt := 84) hx hb dX5_trapped_65 (by decide) ?_
                      exact ro_ret hx hb hr hlocks dX5_trapped_84 (by rw [cTrapped, if_pos ⟨c3, c11⟩, cl_nI hw (by decide), cl_nI hj (by decide), ← g2, show 3 - way = (2 - way) + 1 by omega, ctpW, show 2 - (2 - way) = way by omega, if_pos (by rw [← ex33]; exact c48), ctpV, if_pos c61])
                  · skip
                    refine lv_istore (lv' := [(6, .int (-6)), (5, .int (nI way)), (4, .int (nI x33)), (3, .int (nI t)), (0, .ref o), (1, .int (nI w)), (2, .int (nI j))]) hx hb dX5_trapped_51 hl (by decide) rfl (fun ls hl => ?_)
                    refine lv_iload hx hb dX5_trapped_53 (lv_at hl 0 rfl) ?_
                    refine lv_bipush (v := (-6)) hx hb dX5_trapped_55 (by decide) ?_
                    refine lv_icmp_eq (tgt := 85) hx hb dX5_trapped_57 (by decide) (fun _ => ?_) (fun q => absurd rfl q)
                    obtain ⟨x85, ex85⟩ : ∃ y : Nat, y = way + 1 := ⟨_, rfl⟩
                    refine lv_iinc (v := nI x85) (lv' := [(5, .int (nI x85)), (6, .int (-6)), (4, .int (nI x33)), (3, .int (nI t)), (0, .ref o), (1, .int (nI w)), (2, .int (nI j))]) hx hb dX5_trapped_85 hl (k := 1) rfl (by rw [ex85]; exact nI_add _ _) (by decide) rfl (fun ls hl => ?_)
                    refine lv_goto (tgt := 38) hx hb dX5_trapped_88 (by decide) ?_
                    exact ih38 x85 (by omega) (by rw [← g2, show 3 - way = (3 - x85) + 1 by omega, ctpW, show 2 - (3 - x85) = way by omega, if_neg (by rw [← ex33]; exact c48)]) (by omega) ls (lv_sub hl [0, 2, 3, 4, 5, 6] rfl)
            exact loop38 _ 0 (by omega) (by rw [← h2, show 23 - t = (22 - t) + 1 by omega, ctpT, show 22 - (22 - t) = t by omega]) (Nat.lt_succ_self _) ls (lv_sub hl [0, 1, 2, 3, 4, 5] rfl)
      exact loop22 _ 0 (by omega) rfl (Nat.lt_succ_self _) ls (lv_sub hl [0, 1, 2, 3] rfl)
    · skip
      refine j_if_ne (tgt := 20) hx hb dX5_trapped_14 (by decide) (fun q => absurd q (by decide)) (fun _ => ?_)
      refine lv_bipush (v := (-2)) hx hb dX5_trapped_17 (by decide) ?_
      exact ro_ret hx hb hr hlocks dX5_trapped_19 (by rw [cTrapped, if_neg (fun h => by rw [c11] at h; exact absurd h.2 (by decide))])
  · skip
    refine j_if_eq (tgt := 17) hx hb dX5_trapped_6 (by decide) (fun _ => ?_) (fun q => absurd q (by decide))
    refine lv_bipush (v := (-2)) hx hb dX5_trapped_17 (by decide) ?_
    exact ro_ret hx hb hr hlocks dX5_trapped_19 (by rw [cTrapped, if_neg (fun h => by rw [c3] at h; exact absurd h.1 (by decide))])
set_option maxHeartbeats 4000000 in
set_option maxRecDepth 100000 in
/-- wide -/
theorem c_X5_wide (l : Launch) (G : EG) (o : Nat) (me : Nat) (h0 : Nat) (im : Nat) (kp : Nat) (ta : Nat) (x : Int32) : RO l yX5_wide wsX5_wide (rmR 2 43) G [(o, .inr (4, [.ref me, .ref h0, .ref im, .int (nI kp), .ref ta]))] [.ref o, .int x] (.int (cWide x)) := by
  refine RO.start (by decide) rfl (Nat.le_of_ble_eq_true rfl) ?_
  intro p e s m below meth c hx hb hr hml hts hown hlocks hP hE ls hl
  have hown : s.vm.findClass RX5 = some m.cls := hown
  have hl : lv_has ls 2 [(0, .ref o), (1, .int x)] := hl
  refine lv_iload_n hx hb dX5_wide_0 rfl (lv_at hl 1 rfl) ?_
  refine lv_sipush (v := nI 4096) hx hb dX5_wide_1 (by decide) ?_
  refine ro_S (rest := []) ⟨hx, hb, hml, hown, hts⟩ (c_X5_isBelow l G x 4096) (va_cwS 2 hts gX5_wide_X5_isBelow rfl rfl rfl (by decide +kernel) ⟨Nat.le_of_ble_eq_true rfl, Nat.le_of_ble_eq_true rfl⟩) hE (hP.sub [] rfl) rfl hl.1 rfl (Nat.le_of_ble_eq_true rfl) dX5_wide_4 ⟨Nat.zero_le _, Nat.zero_le _⟩ ?_
  refine j_bool (fun c4 => ?_) (fun c4 => ?_)
  · skip
    obtain ⟨w, hw, rfl⟩ := blw_ex c4 (by decide)
    refine j_if_eq (tgt := 20) hx hb dX5_wide_7 (by decide) (fun q => absurd q (by decide)) (fun _ => ?_)
    refine lv_iload_n hx hb dX5_wide_10 rfl (lv_at hl 1 rfl) ?_
    refine ro_SN (rest := []) (host := "TripleTrap") ⟨hx, hb, hml, hown, hts⟩ (c_X0_coded l G w (by omega)) ⟨va_cnB 1 hts gX5_wide_X0_coded_n39 rfl rfl rfl (hE.nest (w := .methodLinkNest RX5 39 yX0_coded "TripleTrap") 12 rfl) (hts (.initialized RX0) (List.mem_of_getElem? (i := 6) rfl)) (by decide +kernel) ⟨Nat.le_of_ble_eq_true rfl, Nat.le_of_ble_eq_true rfl⟩, hts (.static yX0_coded) (List.mem_of_getElem? (i := 5) rfl), trivial⟩ hE (hP.sub [] rfl) rfl hl.1 rfl (Nat.le_of_ble_eq_true rfl) dX5_wide_11 ⟨Nat.zero_le _, Nat.zero_le _⟩ ?_
    refine ro_SN (rest := []) (host := "TripleTrap") ⟨hx, hb, hml, hown, hts⟩ (c_X0_widen l G (codedN w) (Nat.lt_trans (coded_lt hw) (by decide))) ⟨va_cnB 1 hts gX5_wide_X0_widen_n76 rfl rfl rfl (hE.nest (w := .methodLinkNest RX5 76 yX0_widen "TripleTrap") 20 rfl) (hts (.initialized RX0) (List.mem_of_getElem? (i := 6) rfl)) (by decide +kernel) ⟨Nat.le_of_ble_eq_true rfl, Nat.le_of_ble_eq_true rfl⟩, hts (.static yX0_widen) (List.mem_of_getElem? (i := 11) rfl), trivial⟩ hE (hP.sub [] rfl) rfl hl.1 rfl (Nat.le_of_ble_eq_true rfl) dX5_wide_14 ⟨Nat.zero_le _, Nat.zero_le _⟩ ?_
    refine lv_goto (tgt := 22) hx hb dX5_wide_17 (by decide) ?_
    exact ro_ret hx hb hr hlocks dX5_wide_22 (by rw [cWide, if_pos c4, cl_nI hw (by decide)])
  · skip
    refine j_if_eq (tgt := 20) hx hb dX5_wide_7 (by decide) (fun _ => ?_) (fun q => absurd q (by decide))
    refine lv_bipush (v := (-2)) hx hb dX5_wide_20 (by decide) ?_
    exact ro_ret hx hb hr hlocks dX5_wide_22 (by rw [cWide, if_neg (by rw [c4]; decide)])
set_option maxHeartbeats 4000000 in
set_option maxRecDepth 100000 in
/-- read -/
theorem c_X5_read (l : Launch) (G : EG) (o : Nat) (me : Nat) (h0 : Nat) (im : Nat) (kp : Nat) (ta : Nat) (et : Nat) (E : Nat → Nat) (hEb : ∀ i, i < 2048 → E i < 8388608) (x : Int32) (y : Int32) : RO l yX5_read wsX5_read (rmR 3 65) G [(o, .inr (4, [.ref me, .ref h0, .ref im, .int (nI kp), .ref ta])), (me, .inr (1, [.ref et])), (et, aI G 2048 E)] [.ref o, .int x, .int y] (.int (cRead E x y)) := by
  refine RO.start (by decide) rfl (Nat.le_of_ble_eq_true rfl) ?_
  intro p e s m below meth c hx hb hr hml hts hown hlocks hP hE ls hl
  have hown : s.vm.findClass RX5 = some m.cls := hown
  have hl : lv_has ls 5 [(0, .ref o), (1, .int x), (2, .int y)] := hl
  refine lv_iload_n hx hb dX5_read_0 rfl (lv_at hl 1 rfl) ?_
  refine lv_ldc (v := nI 16777216) hx hb hown (hts (.constant RX5 79 (nI 16777216)) (List.mem_of_getElem? (i := 1) rfl)) dX5_read_1 ?_
  refine ro_S (rest := []) ⟨hx, hb, hml, hown, hts⟩ (c_X5_isBelow l G x 16777216) (va_cwS 2 hts gX5_read_X5_isBelow rfl rfl rfl (by decide +kernel) ⟨Nat.le_of_ble_eq_true rfl, Nat.le_of_ble_eq_true rfl⟩) hE (hP.sub [] rfl) rfl hl.1 rfl (Nat.le_of_ble_eq_true rfl) dX5_read_3 ⟨Nat.zero_le _, Nat.zero_le _⟩ ?_
  refine j_bool (fun c3 => ?_) (fun c3 => ?_)
  · skip
    obtain ⟨w, hw, rfl⟩ := blw_ex c3 (by decide)
    refine j_if_eq (tgt := 17) hx hb dX5_read_6 (by decide) (fun q => absurd q (by decide)) (fun _ => ?_)
    refine lv_iload_n hx hb dX5_read_9 rfl (lv_at hl 2 rfl) ?_
    refine lv_iconst (v := nI 2) hx hb dX5_read_10 (by decide) ?_
    refine ro_S (rest := []) ⟨hx, hb, hml, hown, hts⟩ (c_X5_isBelow l G y 2) (va_cwS 2 hts gX5_read_X5_isBelow rfl rfl rfl (by decide +kernel) ⟨Nat.le_of_ble_eq_true rfl, Nat.le_of_ble_eq_true rfl⟩) hE (hP.sub [] rfl) rfl hl.1 rfl (Nat.le_of_ble_eq_true rfl) dX5_read_11 ⟨Nat.zero_le _, Nat.zero_le _⟩ ?_
    refine j_bool (fun c11 => ?_) (fun c11 => ?_)
    · skip
      obtain ⟨j, hj, rfl⟩ := blw_ex c11 (by decide)
      refine j_if_ne (tgt := 20) hx hb dX5_read_14 (by decide) (fun _ => ?_) (fun q => absurd q (by decide))
      have hm : w &&& 8388607 < 8388608 := bd_and (by decide)
      refine lv_aload_n hx hb dX5_read_20 rfl (lv_at hl 0 rfl) ?_
      refine va_get (D := G.1) (ci := 4) (v := .ref me) (C := RX5) (T := TX5) (N := 5) hx hb hts (fun w h => List.mem_cons_of_mem _ (List.mem_append_left _ (List.mem_append_right _ h))) hown hE.1 hP 0 rfl rfl 0 (by decide) (hts (.fieldLink RX5 12 "TripleTrap" "mender" "LTripleTrap$Mender;") (List.mem_of_getElem? (i := 2) rfl)) (fun _ h9 => h9) rfl dX5_read_21 ?_
      refine lv_iload_n hx hb dX5_read_24 rfl (lv_at hl 1 rfl) ?_
      refine lv_ldc (v := nI 8388607) hx hb hown (hts (.constant RX5 80 (nI 8388607)) (List.mem_of_getElem? (i := 3) rfl)) dX5_read_25 ?_
      refine j_and hx hb dX5_read_27 ?_
      refine ro_VN 1 0 (rest := []) (host := "TripleTrap") ⟨hx, hb, hml, hown, hts⟩ (c_X2_nearest l G me et E (w &&& 8388607) hm) ⟨va_cnB 1 hts gX5_read_X2_nearest_n54 rfl rfl rfl (hE.nest (w := .methodLinkNest RX5 54 yX2_nearest "TripleTrap") 14 rfl) (hts (.initialized RX2) (List.mem_of_getElem? (i := 9) rfl)) (by decide +kernel) ⟨Nat.le_of_ble_eq_true rfl, Nat.le_of_ble_eq_true rfl⟩, hts (.instanceMethod yX2_nearest) (List.mem_of_getElem? (i := 8) rfl), hts (.selects RX2 yX2_nearest yX2_nearest) (List.mem_of_getElem? (i := 10) rfl)⟩ hE (hP.sub [1, 2] rfl) rfl rfl rfl hl.1 rfl (Nat.le_of_ble_eq_true rfl) dX5_read_28 ⟨Nat.zero_le _, Nat.zero_le _⟩ ?_
      refine j_top (fun x31 ex31 => ?_)
      refine lv_istore_n (lv' := [(3, .int (nI x31)), (0, .ref o), (1, .int (nI w)), (2, .int (nI j))]) hx hb dX5_read_31 rfl hl (by decide) rfl (fun ls hl => ?_)
      refine lv_iload_n hx hb dX5_read_32 rfl (lv_at hl 0 rfl) ?_
      refine ro_SN (rest := []) (host := "TripleTrap") ⟨hx, hb, hml, hown, hts⟩ (c_X0_widen l G x31 (by rw [ex31]; exact Nat.lt_trans (near_lt hEb hm) (by decide))) ⟨va_cnB 1 hts gX5_read_X0_widen_n76 rfl rfl rfl (hE.nest (w := .methodLinkNest RX5 76 yX0_widen "TripleTrap") 20 rfl) (hts (.initialized RX0) (List.mem_of_getElem? (i := 18) rfl)) (by decide +kernel) ⟨Nat.le_of_ble_eq_true rfl, Nat.le_of_ble_eq_true rfl⟩, hts (.static yX0_widen) (List.mem_of_getElem? (i := 20) rfl), trivial⟩ hE (hP.sub [] rfl) rfl hl.1 rfl (Nat.le_of_ble_eq_true rfl) dX5_read_33 ⟨Nat.zero_le _, Nat.zero_le _⟩ ?_
      refine lv_iload_n hx hb dX5_read_36 rfl (lv_at hl 2 rfl) ?_
      refine j_xor hx hb dX5_read_37 ?_
      refine ro_S (rest := []) ⟨hx, hb, hml, hown, hts⟩ (c_J6_bitCount_0f7a4 l G ((widenN x31) ^^^ w) (by rw [ex31]; exact Nat.lt_trans (bd_xor 24 (widen_lt (near_lt hEb hm)) hw) (by decide))) (va_cwS 1 hts gX5_read_J6_bitCount_0f7a4 rfl rfl rfl (by decide +kernel) ⟨Nat.le_of_ble_eq_true rfl, Nat.le_of_ble_eq_true rfl⟩) hE (hP.sub [] rfl) rfl hl.1 rfl (Nat.le_of_ble_eq_true rfl) dX5_read_38 ⟨Nat.zero_le _, Nat.zero_le _⟩ ?_
      refine j_top (fun x41 ex41 => ?_)
      refine lv_istore (lv' := [(4, .int (nI x41)), (3, .int (nI x31)), (0, .ref o), (1, .int (nI w)), (2, .int (nI j))]) hx hb dX5_read_41 hl (by decide) rfl (fun ls hl => ?_)
      refine lv_iload hx hb dX5_read_43 (lv_at hl 0 rfl) ?_
      refine lv_iconst (v := nI 3) hx hb dX5_read_45 (by decide) ?_
      refine j_icmp_le (tgt := 52) hx hb dX5_read_46 (by decide) (fun c46 => ?_) (fun c46 => ?_) (h1 := by rw [ex41]; exact Nat.lt_of_le_of_lt (bcN_le _) (by decide)) (h2 := by decide)
      · skip
        refine lv_iload_n hx hb dX5_read_52 rfl (lv_at hl 4 rfl) ?_
        refine j_if_ne (tgt := 63) hx hb dX5_read_53 (by decide) (fun c53 => ?_) (fun c53 => ?_)
        · skip
          refine lv_iload hx hb dX5_read_63 (lv_at hl 0 rfl) ?_
          exact ro_ret hx hb hr hlocks dX5_read_65 (by rw [cRead, if_pos ⟨c3, c11⟩, cl_nI hw (by decide), cl_nI hj (by decide), if_pos (by rw [ex41, ex31] at c46; exact c46), if_neg c53, ex41, ex31])
        · skip
          refine lv_iload_n hx hb dX5_read_56 rfl (lv_at hl 1 rfl) ?_
          refine ro_SN (rest := []) (host := "TripleTrap") ⟨hx, hb, hml, hown, hts⟩ (c_X0_message l G x31 (by rw [ex31]; exact Nat.lt_trans (near_lt hEb hm) (by decide))) ⟨va_cnB 1 hts gX5_read_X0_message_n60 rfl rfl rfl (hE.nest (w := .methodLinkNest RX5 60 yX0_message "TripleTrap") 16 rfl) (hts (.initialized RX0) (List.mem_of_getElem? (i := 18) rfl)) (by decide +kernel) ⟨Nat.le_of_ble_eq_true rfl, Nat.le_of_ble_eq_true rfl⟩, hts (.static yX0_message) (List.mem_of_getElem? (i := 30) rfl), trivial⟩ hE (hP.sub [] rfl) rfl hl.1 rfl (Nat.le_of_ble_eq_true rfl) dX5_read_57 ⟨Nat.zero_le _, Nat.zero_le _⟩ ?_
          refine lv_goto (tgt := 65) hx hb dX5_read_60 (by decide) ?_
          exact ro_ret hx hb hr hlocks dX5_read_65 (by rw [cRead, if_pos ⟨c3, c11⟩, cl_nI hw (by decide), cl_nI hj (by decide), if_pos (by rw [ex41, ex31] at c46; exact c46), if_pos c53, ex31])
      · skip
        refine lv_bipush (v := (-6)) hx hb dX5_read_49 (by decide) ?_
        exact ro_ret hx hb hr hlocks dX5_read_51 (by rw [cRead, if_pos ⟨c3, c11⟩, cl_nI hw (by decide), cl_nI hj (by decide), if_neg (by rw [ex41, ex31] at c46; omega)])
    · skip
      refine j_if_ne (tgt := 20) hx hb dX5_read_14 (by decide) (fun q => absurd q (by decide)) (fun _ => ?_)
      refine lv_bipush (v := (-2)) hx hb dX5_read_17 (by decide) ?_
      exact ro_ret hx hb hr hlocks dX5_read_19 (by rw [cRead, if_neg (fun h => by rw [c11] at h; exact absurd h.2 (by decide))])
  · skip
    refine j_if_eq (tgt := 17) hx hb dX5_read_6 (by decide) (fun _ => ?_) (fun q => absurd q (by decide))
    refine lv_bipush (v := (-2)) hx hb dX5_read_17 (by decide) ?_
    exact ro_ret hx hb hr hlocks dX5_read_19 (by rw [cRead, if_neg (fun h => by rw [c3] at h; exact absurd h.1 (by decide))])
set_option maxHeartbeats 4000000 in
set_option maxRecDepth 100000 in
/-- keeps -/
theorem c_X5_keeps (l : Launch) (G : EG) (o : Nat) (me : Nat) (h0 : Nat) (im : Nat) (kp : Nat) (ta : Nat) (x : Int32) (y : Int32) : RO l yX5_keeps wsX5_keeps (rmR 3 68) G [(o, .inr (4, [.ref me, .ref h0, .ref im, .int (nI kp), .ref ta]))] [.ref o, .int x, .int y] (.int (cKeeps x y)) := by
  refine RO.start (by decide) rfl (Nat.le_of_ble_eq_true rfl) ?_
  intro p e s m below meth c hx hb hr hml hts hown hlocks hP hE ls hl
  have hown : s.vm.findClass RX5 = some m.cls := hown
  have hl : lv_has ls 3 [(0, .ref o), (1, .int x), (2, .int y)] := hl
  refine lv_iload_n hx hb dX5_keeps_0 rfl (lv_at hl 1 rfl) ?_
  refine lv_iload_n hx hb dX5_keeps_1 rfl (lv_at hl 2 rfl) ?_
  refine ro_S (rest := []) ⟨hx, hb, hml, hown, hts⟩ (c_X5_isMove l G x y) (va_cwS 2 hts gX5_keeps_X5_isMove rfl rfl rfl (by decide +kernel) ⟨Nat.le_of_ble_eq_true rfl, Nat.le_of_ble_eq_true rfl⟩) hE (hP.sub [] rfl) rfl hl.1 rfl (Nat.le_of_ble_eq_true rfl) dX5_keeps_2 ⟨Nat.zero_le _, Nat.zero_le _⟩ ?_
  refine j_bool (fun c2 => ?_) (fun c2 => ?_)
  · skip
    obtain ⟨a, d, ha0, ha, hd, rfl, rfl⟩ := mv_ex c2
    refine j_if_ne (tgt := 11) hx hb dX5_keeps_5 (by decide) (fun _ => ?_) (fun q => absurd q (by decide))
    refine lv_iload_n hx hb dX5_keeps_11 rfl (lv_at hl 1 rfl) ?_
    refine lv_iload_n hx hb dX5_keeps_12 rfl (lv_at hl 2 rfl) ?_
    refine ro_SN (rest := []) (host := "TripleTrap") ⟨hx, hb, hml, hown, hts⟩ (c_X0_staysInCode l G a d (by omega) (by omega)) ⟨va_cnB 2 hts gX5_keeps_X0_staysInCode_n84 rfl rfl rfl (hE.nest (w := .methodLinkNest RX5 84 yX0_staysInCode "TripleTrap") 21 rfl) (hts (.initialized RX0) (List.mem_of_getElem? (i := 9) rfl)) (by decide +kernel) ⟨Nat.le_of_ble_eq_true rfl, Nat.le_of_ble_eq_true rfl⟩, hts (.static yX0_staysInCode) (List.mem_of_getElem? (i := 8) rfl), trivial⟩ hE (hP.sub [] rfl) rfl hl.1 rfl (Nat.le_of_ble_eq_true rfl) dX5_keeps_13 ⟨Nat.zero_le _, Nat.zero_le _⟩ ?_
    refine j_bool (fun c13 => ?_) (fun c13 => ?_)
    · skip
      refine j_if_eq (tgt := 23) hx hb dX5_keeps_16 (by decide) (fun q => absurd q (by decide)) (fun _ => ?_)
      refine lv_iconst (v := nI 1) hx hb dX5_keeps_19 (by decide) ?_
      refine lv_goto (tgt := 24) hx hb dX5_keeps_20 (by decide) ?_
      exact ro_ret hx hb hr hlocks dX5_keeps_24 (by rw [cKeeps, if_pos c2, cl_nI ha (by decide), cl_nI hd (by decide), if_pos c13])
    · skip
      refine j_if_eq (tgt := 23) hx hb dX5_keeps_16 (by decide) (fun _ => ?_) (fun q => absurd q (by decide))
      refine lv_iconst (v := nI 0) hx hb dX5_keeps_23 (by decide) ?_
      exact ro_ret hx hb hr hlocks dX5_keeps_24 (by rw [cKeeps, if_pos c2, cl_nI ha (by decide), cl_nI hd (by decide), if_neg (by rw [c13]; decide)])
  · skip
    refine j_if_ne (tgt := 11) hx hb dX5_keeps_5 (by decide) (fun q => absurd q (by decide)) (fun _ => ?_)
    refine lv_bipush (v := (-2)) hx hb dX5_keeps_8 (by decide) ?_
    exact ro_ret hx hb hr hlocks dX5_keeps_10 (by rw [cKeeps, if_neg (by rw [c2]; decide)])
set_option maxHeartbeats 4000000 in
set_option maxRecDepth 100000 in
/-- moved -/
theorem c_X5_moved (l : Launch) (G : EG) (o : Nat) (me : Nat) (h0 : Nat) (im : Nat) (kp : Nat) (ta : Nat) (x : Int32) (y : Int32) (z : Int32) : RO l yX5_moved wsX5_moved (rmR 2 46) G [(o, .inr (4, [.ref me, .ref h0, .ref im, .int (nI kp), .ref ta]))] [.ref o, .int x, .int y, .int z] (.int (mMoved x y z)) := by
  refine RO.start (by decide) rfl (Nat.le_of_ble_eq_true rfl) ?_
  intro p e s m below meth c hx hb hr hml hts hown hlocks hP hE ls hl
  have hown : s.vm.findClass RX5 = some m.cls := hown
  have hl : lv_has ls 4 [(0, .ref o), (1, .int x), (2, .int y), (3, .int z)] := hl
  refine lv_iload_n hx hb dX5_moved_0 rfl (lv_at hl 1 rfl) ?_
  refine lv_ldc (v := nI 8388608) hx hb hown (hts (.constant RX5 45 (nI 8388608)) (List.mem_of_getElem? (i := 1) rfl)) dX5_moved_1 ?_
  refine ro_S (rest := []) ⟨hx, hb, hml, hown, hts⟩ (c_X5_isBelow l G x 8388608) (va_cwS 2 hts gX5_moved_X5_isBelow rfl rfl rfl (by decide +kernel) ⟨Nat.le_of_ble_eq_true rfl, Nat.le_of_ble_eq_true rfl⟩) hE (hP.sub [] rfl) rfl hl.1 rfl (Nat.le_of_ble_eq_true rfl) dX5_moved_3 ⟨Nat.zero_le _, Nat.zero_le _⟩ ?_
  refine j_bool (fun c3 => ?_) (fun c3 => ?_)
  · skip
    obtain ⟨w, hw, rfl⟩ := blw_ex c3 (by decide)
    refine j_if_eq (tgt := 26) hx hb dX5_moved_6 (by decide) (fun q => absurd q (by decide)) (fun _ => ?_)
    refine lv_iload_n hx hb dX5_moved_9 rfl (lv_at hl 2 rfl) ?_
    refine lv_iload_n hx hb dX5_moved_10 rfl (lv_at hl 3 rfl) ?_
    refine ro_S (rest := []) ⟨hx, hb, hml, hown, hts⟩ (c_X5_isMove l G y z) (va_cwS 2 hts gX5_moved_X5_isMove rfl rfl rfl (by decide +kernel) ⟨Nat.le_of_ble_eq_true rfl, Nat.le_of_ble_eq_true rfl⟩) hE (hP.sub [] rfl) rfl hl.1 rfl (Nat.le_of_ble_eq_true rfl) dX5_moved_11 ⟨Nat.zero_le _, Nat.zero_le _⟩ ?_
    refine j_bool (fun c11 => ?_) (fun c11 => ?_)
    · skip
      obtain ⟨a, d, ha0, ha, hd, rfl, rfl⟩ := mv_ex c11
      refine j_if_eq (tgt := 26) hx hb dX5_moved_14 (by decide) (fun q => absurd q (by decide)) (fun _ => ?_)
      refine lv_iload_n hx hb dX5_moved_17 rfl (lv_at hl 1 rfl) ?_
      refine lv_iload_n hx hb dX5_moved_18 rfl (lv_at hl 2 rfl) ?_
      refine lv_iload_n hx hb dX5_moved_19 rfl (lv_at hl 3 rfl) ?_
      refine ro_SN (rest := []) (host := "TripleTrap") ⟨hx, hb, hml, hown, hts⟩ (c_X0_carry l G w a d (by omega) (by omega) (by omega)) ⟨va_cnB 3 hts gX5_moved_X0_carry_n87 rfl rfl rfl (hE.nest (w := .methodLinkNest RX5 87 yX0_carry "TripleTrap") 22 rfl) (hts (.initialized RX0) (List.mem_of_getElem? (i := 10) rfl)) (by decide +kernel) ⟨Nat.le_of_ble_eq_true rfl, Nat.le_of_ble_eq_true rfl⟩, hts (.static yX0_carry) (List.mem_of_getElem? (i := 9) rfl), trivial⟩ hE (hP.sub [] rfl) rfl hl.1 rfl (Nat.le_of_ble_eq_true rfl) dX5_moved_20 ⟨Nat.zero_le _, Nat.zero_le _⟩ ?_
      refine lv_goto (tgt := 28) hx hb dX5_moved_23 (by decide) ?_
      exact ro_ret hx hb hr hlocks dX5_moved_28 (by rw [mMoved, if_pos ⟨c3, c11⟩, cl_nI hw (by decide), cl_nI ha (by decide), cl_nI hd (by decide)])
    · skip
      refine j_if_eq (tgt := 26) hx hb dX5_moved_14 (by decide) (fun _ => ?_) (fun q => absurd q (by decide))
      refine lv_bipush (v := (-2)) hx hb dX5_moved_26 (by decide) ?_
      exact ro_ret hx hb hr hlocks dX5_moved_28 (by rw [mMoved, if_neg (fun h => by rw [c11] at h; exact absurd h.2 (by decide))])
  · skip
    refine j_if_eq (tgt := 26) hx hb dX5_moved_6 (by decide) (fun _ => ?_) (fun q => absurd q (by decide))
    refine lv_bipush (v := (-2)) hx hb dX5_moved_26 (by decide) ?_
    exact ro_ret hx hb hr hlocks dX5_moved_28 (by rw [mMoved, if_neg (fun h => by rw [c3] at h; exact absurd h.1 (by decide))])
