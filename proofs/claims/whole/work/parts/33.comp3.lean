set_option maxHeartbeats 4000000 in
set_option maxRecDepth 100000 in
/-- move -/
theorem c_X5_move (l : Launch) (G : EG) (o : Nat) (me : Nat) (h0 : Nat) (im : Nat) (kp : Nat) (ta : Nat) (m0 : Nat) (t0 : Nat) (n0 : Nat) (f0 : Nat) (s0 : Nat) (b0 : Nat) (F : Nat → Nat) (S : Nat → Nat) (B : Nat → Nat) (hn0 : n0 ≤ 8) (x : Int32) (y : Int32) (sz : Nat) : WR l yX5_move wsX5_move (rmR 3 68) G sz [(o, .inr (4, [.ref me, .ref h0, .ref im, .int (nI kp), .ref ta])), (h0, .inr (0, [.ref m0, .ref t0])), (m0, .inr (2, [.int (nI n0), .ref f0, .ref s0, .ref b0])), (f0, aI G 8 F), (s0, aI G 8 S), (b0, aI G 8 B)] [.ref o, .int x, .int y] [(o, .inr (4, [.ref me, .ref h0, .ref im, .int (nI kp), .ref ta])), (h0, .inr (0, [.ref m0, .ref t0])), (m0, .inr (2, [.int (nI (cMoveN n0 x y)), .ref f0, .ref s0, .ref b0])), (f0, aI G 8 (cMoveF n0 F x y)), (s0, aI G 8 (cMoveS n0 S x y)), (b0, aI G 8 (cMoveB n0 B x y))] (some (.int (cMoveR n0 x y))) := by
  refine WR.start (by decide) rfl (Nat.le_of_ble_eq_true rfl) ?_
  intro p e s m below meth c hx hb hr hml hts hown hlocks hE A hA H locs hP hD hS ls hl
  have hown : s.vm.findClass RX5 = some m.cls := hown
  have hl : lv_has ls 3 [(0, .ref o), (1, .int x), (2, .int y)] := hl
  refine lv_iload_n hx hb dX5_move_0 rfl (lv_at hl 1 rfl) ?_
  refine lv_iload_n hx hb dX5_move_1 rfl (lv_at hl 2 rfl) ?_
  refine ro_S (rest := []) ⟨hx, hb, hml, hown, hts⟩ (c_X5_isMove l G x y) (va_cwS 2 hts gX5_move_X5_isMove rfl rfl rfl (by decide +kernel) ⟨Nat.le_of_ble_eq_true rfl, Nat.le_of_ble_eq_true rfl⟩) hE (hP.sub [] rfl) rfl hl.1 rfl (Nat.le_of_ble_eq_true rfl) dX5_move_2 ⟨Nat.zero_le _, Nat.zero_le _⟩ ?_
  refine j_bool (fun c2 => ?_) (fun c2 => ?_)
  · skip
    obtain ⟨a, d, ha0, ha, hd, rfl, rfl⟩ := mv_ex c2
    refine j_if_ne (tgt := 11) hx hb dX5_move_5 (by decide) (fun _ => ?_) (fun q => absurd q (by decide))
    refine lv_iload_n hx hb dX5_move_11 rfl (lv_at hl 1 rfl) ?_
    refine lv_iload_n hx hb dX5_move_12 rfl (lv_at hl 2 rfl) ?_
    refine ro_SN (rest := []) (host := "TripleTrap") ⟨hx, hb, hml, hown, hts⟩ (c_X0_staysInCode l G a d (by omega) (by omega)) ⟨va_cnB 2 hts gX5_move_X0_staysInCode_n84 rfl rfl rfl (hE.nest (w := .methodLinkNest RX5 84 yX0_staysInCode "TripleTrap") 21 rfl) (hts (.initialized RX0) (List.mem_of_getElem? (i := 10) rfl)) (by decide +kernel) ⟨Nat.le_of_ble_eq_true rfl, Nat.le_of_ble_eq_true rfl⟩, hts (.static yX0_staysInCode) (List.mem_of_getElem? (i := 9) rfl), trivial⟩ hE (hP.sub [] rfl) rfl hl.1 rfl (Nat.le_of_ble_eq_true rfl) dX5_move_13 ⟨Nat.zero_le _, Nat.zero_le _⟩ ?_
    refine j_bool (fun c13 => ?_) (fun c13 => ?_)
    · skip
      refine j_if_ne (tgt := 22) hx hb dX5_move_16 (by decide) (fun _ => ?_) (fun q => absurd q (by decide))
      refine lv_aload_n hx hb dX5_move_22 rfl (lv_at hl 0 rfl) ?_
      refine va_get (D := G.1) (ci := 4) (v := .ref h0) (C := RX5) (T := TX5) (N := 5) hx hb hts (fun w h => List.mem_cons_of_mem _ (List.mem_append_left _ (List.mem_append_left _ (List.mem_append_right _ h)))) hown hE.1 hP 0 rfl rfl 1 (by decide) (hts (.fieldLink RX5 19 "TripleTrap" "now" "LTripleTrap$Held;") (List.mem_of_getElem? (i := 1) rfl)) (fun _ h9 => h9) rfl dX5_move_23 ?_
      refine va_getN (host := "TripleTrap") (D := G.1) (ci := 0) (v := .ref m0) (C := RX1) (T := TX1) (N := 2) hx hb hts (fun w h => List.mem_cons_of_mem _ (List.mem_append_left _ (List.mem_append_right _ h))) hown hE.1 hP 1 rfl rfl 0 (by decide) (hE.nestB (w := .fieldLinkNest RX5 91 "TripleTrap$Held" "moves" "LTripleTrap$Moves;" "TripleTrap") 10 rfl rfl) (fun _ h9 => h9) rfl dX5_move_26 ?_
      refine va_getN (host := "TripleTrap") (D := G.1) (ci := 2) (v := .int (nI n0)) (C := RX3) (T := TX3) (N := 4) hx hb hts (fun w h => List.mem_cons_of_mem _ (List.mem_append_right _ h)) hown hE.1 hP 2 rfl rfl 0 (by decide) (hE.nestB (w := .fieldLinkNest RX5 95 "TripleTrap$Moves" "size" "I" "TripleTrap") 5 rfl rfl) (fun _ h9 => h9) rfl dX5_move_29 ?_
      refine lv_bipush (v := nI 8) hx hb dX5_move_32 (by decide) ?_
      refine j_icmp_ne (tgt := 40) hx hb dX5_move_34 (by decide) (fun c34 => ?_) (fun c34 => ?_)
      · skip
        refine lv_aload_n hx hb dX5_move_40 rfl (lv_at hl 0 rfl) ?_
        refine va_get (D := G.1) (ci := 4) (v := .ref h0) (C := RX5) (T := TX5) (N := 5) hx hb hts (fun w h => List.mem_cons_of_mem _ (List.mem_append_left _ (List.mem_append_left _ (List.mem_append_right _ h)))) hown hE.1 hP 0 rfl rfl 1 (by decide) (hts (.fieldLink RX5 19 "TripleTrap" "now" "LTripleTrap$Held;") (List.mem_of_getElem? (i := 1) rfl)) (fun _ h9 => h9) rfl dX5_move_41 ?_
        refine va_getN (host := "TripleTrap") (D := G.1) (ci := 0) (v := .ref m0) (C := RX1) (T := TX1) (N := 2) hx hb hts (fun w h => List.mem_cons_of_mem _ (List.mem_append_left _ (List.mem_append_right _ h))) hown hE.1 hP 1 rfl rfl 0 (by decide) (hE.nestB (w := .fieldLinkNest RX5 91 "TripleTrap$Held" "moves" "LTripleTrap$Moves;" "TripleTrap") 10 rfl rfl) (fun _ h9 => h9) rfl dX5_move_44 ?_
        refine lv_iload_n hx hb dX5_move_47 rfl (lv_at hl 1 rfl) ?_
        refine lv_iload_n hx hb dX5_move_48 rfl (lv_at hl 2 rfl) ?_
        refine wr_VN 2 0 (rest := []) (wr := [(o, .inr (4, [.ref me, .ref h0, .ref im, .int (nI kp), .ref ta])), (h0, .inr (0, [.ref m0, .ref t0]))]) (host := "TripleTrap") ⟨hx, hb, hml, hown, hts⟩ (c_X3_append l G m0 n0 f0 s0 b0 F S B a d (by omega) (by omega) (by omega) H.size) ⟨va_cnB 2 hts gX5_move_X3_append_n100 rfl rfl rfl (hE.nest (w := .methodLinkNest RX5 100 yX3_append "TripleTrap") 23 rfl) (hts (.initialized RX3) (List.mem_of_getElem? (i := 22) rfl)) (by decide +kernel) ⟨Nat.le_of_ble_eq_true rfl, Nat.le_of_ble_eq_true rfl⟩, hts (.instanceMethod yX3_append) (List.mem_of_getElem? (i := 21) rfl), hts (.selects RX3 yX3_append yX3_append) (List.mem_of_getElem? (i := 23) rfl)⟩ hE hP hD hS hA [2, 3, 4, 5] [0, 1] rfl rfl (by decide) (by decide) (by decide) rfl rfl rfl hl.1 rfl (Nat.le_of_ble_eq_true rfl) dX5_move_49 ⟨Nat.zero_le _, Nat.zero_le _⟩ (fun H locs hP hD hS => ?_)
        have hP : va_P G.1 vwCl [(o, .inr (4, [.ref me, .ref h0, .ref im, .int (nI kp), .ref ta])), (h0, .inr (0, [.ref m0, .ref t0])), (m0, .inr (2, [.int (nI (n0 + 1)), .ref f0, .ref s0, .ref b0])), (f0, aI G 8 (va_up F n0 a)), (s0, aI G 8 (va_up S n0 d)), (b0, aI G 8 (va_up B n0 (bakN 2047 a d)))] H := hP.sub [0, 1, 2, 3, 4, 5] rfl
        have hD : va_D A [(o, .inr (4, [.ref me, .ref h0, .ref im, .int (nI kp), .ref ta])), (h0, .inr (0, [.ref m0, .ref t0])), (m0, .inr (2, [.int (nI (n0 + 1)), .ref f0, .ref s0, .ref b0])), (f0, aI G 8 (va_up F n0 a)), (s0, aI G 8 (va_up S n0 d)), (b0, aI G 8 (va_up B n0 (bakN 2047 a d)))] := hD.sub [0, 1, 2, 3, 4, 5] (by decide) rfl
        refine lv_aload_n hx hb dX5_move_52 rfl (lv_at hl 0 rfl) ?_
        refine va_get (D := G.1) (ci := 4) (v := .ref h0) (C := RX5) (T := TX5) (N := 5) hx hb hts (fun w h => List.mem_cons_of_mem _ (List.mem_append_left _ (List.mem_append_left _ (List.mem_append_right _ h)))) hown hE.1 hP 0 rfl rfl 1 (by decide) (hts (.fieldLink RX5 19 "TripleTrap" "now" "LTripleTrap$Held;") (List.mem_of_getElem? (i := 1) rfl)) (fun _ h9 => h9) rfl dX5_move_53 ?_
        refine va_getN (host := "TripleTrap") (D := G.1) (ci := 0) (v := .ref m0) (C := RX1) (T := TX1) (N := 2) hx hb hts (fun w h => List.mem_cons_of_mem _ (List.mem_append_left _ (List.mem_append_right _ h))) hown hE.1 hP 1 rfl rfl 0 (by decide) (hE.nestB (w := .fieldLinkNest RX5 91 "TripleTrap$Held" "moves" "LTripleTrap$Moves;" "TripleTrap") 10 rfl rfl) (fun _ h9 => h9) rfl dX5_move_56 ?_
        refine va_getN (host := "TripleTrap") (D := G.1) (ci := 2) (v := .int (nI (n0 + 1))) (C := RX3) (T := TX3) (N := 4) hx hb hts (fun w h => List.mem_cons_of_mem _ (List.mem_append_right _ h)) hown hE.1 hP 2 rfl rfl 0 (by decide) (hE.nestB (w := .fieldLinkNest RX5 95 "TripleTrap$Moves" "size" "I" "TripleTrap") 5 rfl rfl) (fun _ h9 => h9) rfl dX5_move_59 ?_
        refine lv_iconst (v := nI 1) hx hb dX5_move_62 (by decide) ?_
        refine j_sub hx hb dX5_move_63 ?_
        have eF : (.int (nI (n0 + 1)) : Value) = Value.int (nI (cMoveN n0 (nI a) (nI d))) := by rw [cMoveN, if_pos (show cMoveOk n0 (nI a) (nI d) = true from decide_eq_true ⟨c2, by rw [cl_nI ha (by decide), cl_nI hd (by decide)]; exact c13, c34⟩)]
        rw [eF] at hP hD
        clear eF
        have eF : va_up F n0 a = cMoveF n0 F (nI a) (nI d) := by rw [cMoveF, if_pos (show cMoveOk n0 (nI a) (nI d) = true from decide_eq_true ⟨c2, by rw [cl_nI ha (by decide), cl_nI hd (by decide)]; exact c13, c34⟩), cl_nI ha (by decide)]
        rw [eF] at hP hD
        clear eF
        have eF : va_up S n0 d = cMoveS n0 S (nI a) (nI d) := by rw [cMoveS, if_pos (show cMoveOk n0 (nI a) (nI d) = true from decide_eq_true ⟨c2, by rw [cl_nI ha (by decide), cl_nI hd (by decide)]; exact c13, c34⟩), cl_nI hd (by decide)]
        rw [eF] at hP hD
        clear eF
        have eF : va_up B n0 (bakN 2047 a d) = cMoveB n0 B (nI a) (nI d) := by rw [cMoveB, if_pos (show cMoveOk n0 (nI a) (nI d) = true from decide_eq_true ⟨c2, by rw [cl_nI ha (by decide), cl_nI hd (by decide)]; exact c13, c34⟩), cl_nI ha (by decide), cl_nI hd (by decide)]
        rw [eF] at hP hD
        clear eF
        exact wr_ret hx hb hr hlocks dX5_move_64 hP hD hS (by rw [cMoveR, if_pos c2, cl_nI ha (by decide), cl_nI hd (by decide), if_pos c13, if_neg c34]; rfl)
      · skip
        refine lv_bipush (v := (-4)) hx hb dX5_move_37 (by decide) ?_
        have eF : (.int (nI n0) : Value) = Value.int (nI (cMoveN n0 (nI a) (nI d))) := by rw [cMoveN, if_neg (show ¬ cMoveOk n0 (nI a) (nI d) = true from fun h => (of_decide_eq_true h).2.2 c34)]
        rw [eF] at hP hD
        clear eF
        have eF : F = cMoveF n0 F (nI a) (nI d) := by rw [cMoveF, if_neg (show ¬ cMoveOk n0 (nI a) (nI d) = true from fun h => (of_decide_eq_true h).2.2 c34)]
        rw [eF] at hP hD
        clear eF
        have eF : S = cMoveS n0 S (nI a) (nI d) := by rw [cMoveS, if_neg (show ¬ cMoveOk n0 (nI a) (nI d) = true from fun h => (of_decide_eq_true h).2.2 c34)]
        rw [eF] at hP hD
        clear eF
        have eF : B = cMoveB n0 B (nI a) (nI d) := by rw [cMoveB, if_neg (show ¬ cMoveOk n0 (nI a) (nI d) = true from fun h => (of_decide_eq_true h).2.2 c34)]
        rw [eF] at hP hD
        clear eF
        exact wr_ret hx hb hr hlocks dX5_move_39 hP hD hS (by rw [cMoveR, if_pos c2, cl_nI ha (by decide), cl_nI hd (by decide), if_pos c13, if_pos c34])
    · skip
      refine j_if_ne (tgt := 22) hx hb dX5_move_16 (by decide) (fun q => absurd q (by decide)) (fun _ => ?_)
      refine lv_bipush (v := (-5)) hx hb dX5_move_19 (by decide) ?_
      have eF : (.int (nI n0) : Value) = Value.int (nI (cMoveN n0 (nI a) (nI d))) := by rw [cMoveN, if_neg (show ¬ cMoveOk n0 (nI a) (nI d) = true from fun h => by have h := of_decide_eq_true h; rw [cl_nI ha (by decide), cl_nI hd (by decide), c13] at h; exact absurd h.2.1 (by decide))]
      rw [eF] at hP hD
      clear eF
      have eF : F = cMoveF n0 F (nI a) (nI d) := by rw [cMoveF, if_neg (show ¬ cMoveOk n0 (nI a) (nI d) = true from fun h => by have h := of_decide_eq_true h; rw [cl_nI ha (by decide), cl_nI hd (by decide), c13] at h; exact absurd h.2.1 (by decide))]
      rw [eF] at hP hD
      clear eF
      have eF : S = cMoveS n0 S (nI a) (nI d) := by rw [cMoveS, if_neg (show ¬ cMoveOk n0 (nI a) (nI d) = true from fun h => by have h := of_decide_eq_true h; rw [cl_nI ha (by decide), cl_nI hd (by decide), c13] at h; exact absurd h.2.1 (by decide))]
      rw [eF] at hP hD
      clear eF
      have eF : B = cMoveB n0 B (nI a) (nI d) := by rw [cMoveB, if_neg (show ¬ cMoveOk n0 (nI a) (nI d) = true from fun h => by have h := of_decide_eq_true h; rw [cl_nI ha (by decide), cl_nI hd (by decide), c13] at h; exact absurd h.2.1 (by decide))]
      rw [eF] at hP hD
      clear eF
      exact wr_ret hx hb hr hlocks dX5_move_21 hP hD hS (by rw [cMoveR, if_pos c2, cl_nI ha (by decide), cl_nI hd (by decide), if_neg (by rw [c13]; decide)])
  · skip
    refine j_if_ne (tgt := 11) hx hb dX5_move_5 (by decide) (fun q => absurd q (by decide)) (fun _ => ?_)
    refine lv_bipush (v := (-2)) hx hb dX5_move_8 (by decide) ?_
    have eF : (.int (nI n0) : Value) = Value.int (nI (cMoveN n0 x y)) := by rw [cMoveN, if_neg (show ¬ cMoveOk n0 x y = true from fun h => by have h := of_decide_eq_true h; rw [c2] at h; exact absurd h.1 (by decide))]
    rw [eF] at hP hD
    clear eF
    have eF : F = cMoveF n0 F x y := by rw [cMoveF, if_neg (show ¬ cMoveOk n0 x y = true from fun h => by have h := of_decide_eq_true h; rw [c2] at h; exact absurd h.1 (by decide))]
    rw [eF] at hP hD
    clear eF
    have eF : S = cMoveS n0 S x y := by rw [cMoveS, if_neg (show ¬ cMoveOk n0 x y = true from fun h => by have h := of_decide_eq_true h; rw [c2] at h; exact absurd h.1 (by decide))]
    rw [eF] at hP hD
    clear eF
    have eF : B = cMoveB n0 B x y := by rw [cMoveB, if_neg (show ¬ cMoveOk n0 x y = true from fun h => by have h := of_decide_eq_true h; rw [c2] at h; exact absurd h.1 (by decide))]
    rw [eF] at hP hD
    clear eF
    exact wr_ret hx hb hr hlocks dX5_move_10 hP hD hS (by rw [cMoveR, if_neg (by rw [c2]; decide)])
set_option maxHeartbeats 4000000 in
set_option maxRecDepth 100000 in
/-- drop -/
theorem c_X5_drop (l : Launch) (G : EG) (o : Nat) (me : Nat) (h0 : Nat) (im : Nat) (kp : Nat) (ta : Nat) (m0 : Nat) (t0 : Nat) (n0 : Nat) (f0 : Nat) (s0 : Nat) (b0 : Nat) (F : Nat → Nat) (S : Nat → Nat) (B : Nat → Nat) (hn0 : n0 ≤ 8) (x : Int32) (sz : Nat) : WR l yX5_drop wsX5_drop (rmR 2 43) G sz [(o, .inr (4, [.ref me, .ref h0, .ref im, .int (nI kp), .ref ta])), (h0, .inr (0, [.ref m0, .ref t0])), (m0, .inr (2, [.int (nI n0), .ref f0, .ref s0, .ref b0])), (f0, aI G 8 F), (s0, aI G 8 S), (b0, aI G 8 B)] [.ref o, .int x] [(o, .inr (4, [.ref me, .ref h0, .ref im, .int (nI kp), .ref ta])), (h0, .inr (0, [.ref m0, .ref t0])), (m0, .inr (2, [.int (nI (cDropN n0 x)), .ref f0, .ref s0, .ref b0])), (f0, aI G 8 (cDropA n0 F x)), (s0, aI G 8 (cDropA n0 S x)), (b0, aI G 8 (cDropA n0 B x))] (some (.int (cDropR n0 x))) := by
  refine WR.start (by decide) rfl (Nat.le_of_ble_eq_true rfl) ?_
  intro p e s m below meth c hx hb hr hml hts hown hlocks hE A hA H locs hP hD hS ls hl
  have hown : s.vm.findClass RX5 = some m.cls := hown
  have hl : lv_has ls 2 [(0, .ref o), (1, .int x)] := hl
  refine lv_iload_n hx hb dX5_drop_0 rfl (lv_at hl 1 rfl) ?_
  refine lv_aload_n hx hb dX5_drop_1 rfl (lv_at hl 0 rfl) ?_
  refine va_get (D := G.1) (ci := 4) (v := .ref h0) (C := RX5) (T := TX5) (N := 5) hx hb hts (fun w h => List.mem_cons_of_mem _ (List.mem_append_left _ (List.mem_append_left _ (List.mem_append_right _ h)))) hown hE.1 hP 0 rfl rfl 1 (by decide) (hts (.fieldLink RX5 19 "TripleTrap" "now" "LTripleTrap$Held;") (List.mem_of_getElem? (i := 1) rfl)) (fun _ h9 => h9) rfl dX5_drop_2 ?_
  refine va_getN (host := "TripleTrap") (D := G.1) (ci := 0) (v := .ref m0) (C := RX1) (T := TX1) (N := 2) hx hb hts (fun w h => List.mem_cons_of_mem _ (List.mem_append_left _ (List.mem_append_right _ h))) hown hE.1 hP 1 rfl rfl 0 (by decide) (hE.nestB (w := .fieldLinkNest RX5 91 "TripleTrap$Held" "moves" "LTripleTrap$Moves;" "TripleTrap") 10 rfl rfl) (fun _ h9 => h9) rfl dX5_drop_5 ?_
  refine va_getN (host := "TripleTrap") (D := G.1) (ci := 2) (v := .int (nI n0)) (C := RX3) (T := TX3) (N := 4) hx hb hts (fun w h => List.mem_cons_of_mem _ (List.mem_append_right _ h)) hown hE.1 hP 2 rfl rfl 0 (by decide) (hE.nestB (w := .fieldLinkNest RX5 95 "TripleTrap$Moves" "size" "I" "TripleTrap") 5 rfl rfl) (fun _ h9 => h9) rfl dX5_drop_8 ?_
  refine ro_S (rest := []) ⟨hx, hb, hml, hown, hts⟩ (c_X5_isBelow l G x n0) (va_cwS 2 hts gX5_drop_X5_isBelow rfl rfl rfl (by decide +kernel) ⟨Nat.le_of_ble_eq_true rfl, Nat.le_of_ble_eq_true rfl⟩) hE (hP.sub [] rfl) rfl hl.1 rfl (Nat.le_of_ble_eq_true rfl) dX5_drop_11 ⟨Nat.zero_le _, Nat.zero_le _⟩ ?_
  refine j_bool (fun c11 => ?_) (fun c11 => ?_)
  · skip
    obtain ⟨d, hd, rfl⟩ := blw_ex c11 (by omega)
    refine j_if_ne (tgt := 19) hx hb dX5_drop_14 (by decide) (fun _ => ?_) (fun q => absurd q (by decide))
    refine lv_aload_n hx hb dX5_drop_19 rfl (lv_at hl 0 rfl) ?_
    refine va_get (D := G.1) (ci := 4) (v := .ref h0) (C := RX5) (T := TX5) (N := 5) hx hb hts (fun w h => List.mem_cons_of_mem _ (List.mem_append_left _ (List.mem_append_left _ (List.mem_append_right _ h)))) hown hE.1 hP 0 rfl rfl 1 (by decide) (hts (.fieldLink RX5 19 "TripleTrap" "now" "LTripleTrap$Held;") (List.mem_of_getElem? (i := 1) rfl)) (fun _ h9 => h9) rfl dX5_drop_20 ?_
    refine va_getN (host := "TripleTrap") (D := G.1) (ci := 0) (v := .ref m0) (C := RX1) (T := TX1) (N := 2) hx hb hts (fun w h => List.mem_cons_of_mem _ (List.mem_append_left _ (List.mem_append_right _ h))) hown hE.1 hP 1 rfl rfl 0 (by decide) (hE.nestB (w := .fieldLinkNest RX5 91 "TripleTrap$Held" "moves" "LTripleTrap$Moves;" "TripleTrap") 10 rfl rfl) (fun _ h9 => h9) rfl dX5_drop_23 ?_
    refine lv_iload_n hx hb dX5_drop_26 rfl (lv_at hl 1 rfl) ?_
    refine wr_VN 2 0 (rest := []) (wr := [(o, .inr (4, [.ref me, .ref h0, .ref im, .int (nI kp), .ref ta])), (h0, .inr (0, [.ref m0, .ref t0]))]) (host := "TripleTrap") ⟨hx, hb, hml, hown, hts⟩ (c_X3_removeAt l G m0 n0 f0 s0 b0 F S B (by omega) d (by omega) H.size) ⟨va_cnB 1 hts gX5_drop_X3_removeAt_n104 rfl rfl rfl (hE.nest (w := .methodLinkNest RX5 104 yX3_removeAt "TripleTrap") 25 rfl) (hts (.initialized RX3) (List.mem_of_getElem? (i := 7) rfl)) (by decide +kernel) ⟨Nat.le_of_ble_eq_true rfl, Nat.le_of_ble_eq_true rfl⟩, hts (.instanceMethod yX3_removeAt) (List.mem_of_getElem? (i := 6) rfl), hts (.selects RX3 yX3_removeAt yX3_removeAt) (List.mem_of_getElem? (i := 8) rfl)⟩ hE hP hD hS hA [2, 3, 4, 5] [0, 1] rfl rfl (by decide) (by decide) (by decide) rfl rfl rfl hl.1 rfl (Nat.le_of_ble_eq_true rfl) dX5_drop_27 ⟨Nat.zero_le _, Nat.zero_le _⟩ (fun H locs hP hD hS => ?_)
    have hP : va_P G.1 vwCl [(o, .inr (4, [.ref me, .ref h0, .ref im, .int (nI kp), .ref ta])), (h0, .inr (0, [.ref m0, .ref t0])), (m0, .inr (2, [.int (nI (n0 - 1)), .ref f0, .ref s0, .ref b0])), (f0, aI G 8 (shL F d (n0 - 1 - d))), (s0, aI G 8 (shL S d (n0 - 1 - d))), (b0, aI G 8 (shL B d (n0 - 1 - d)))] H := hP.sub [0, 1, 2, 3, 4, 5] rfl
    have hD : va_D A [(o, .inr (4, [.ref me, .ref h0, .ref im, .int (nI kp), .ref ta])), (h0, .inr (0, [.ref m0, .ref t0])), (m0, .inr (2, [.int (nI (n0 - 1)), .ref f0, .ref s0, .ref b0])), (f0, aI G 8 (shL F d (n0 - 1 - d))), (s0, aI G 8 (shL S d (n0 - 1 - d))), (b0, aI G 8 (shL B d (n0 - 1 - d)))] := hD.sub [0, 1, 2, 3, 4, 5] (by decide) rfl
    refine lv_aload_n hx hb dX5_drop_30 rfl (lv_at hl 0 rfl) ?_
    refine va_get (D := G.1) (ci := 4) (v := .ref h0) (C := RX5) (T := TX5) (N := 5) hx hb hts (fun w h => List.mem_cons_of_mem _ (List.mem_append_left _ (List.mem_append_left _ (List.mem_append_right _ h)))) hown hE.1 hP 0 rfl rfl 1 (by decide) (hts (.fieldLink RX5 19 "TripleTrap" "now" "LTripleTrap$Held;") (List.mem_of_getElem? (i := 1) rfl)) (fun _ h9 => h9) rfl dX5_drop_31 ?_
    refine va_getN (host := "TripleTrap") (D := G.1) (ci := 0) (v := .ref m0) (C := RX1) (T := TX1) (N := 2) hx hb hts (fun w h => List.mem_cons_of_mem _ (List.mem_append_left _ (List.mem_append_right _ h))) hown hE.1 hP 1 rfl rfl 0 (by decide) (hE.nestB (w := .fieldLinkNest RX5 91 "TripleTrap$Held" "moves" "LTripleTrap$Moves;" "TripleTrap") 10 rfl rfl) (fun _ h9 => h9) rfl dX5_drop_34 ?_
    refine va_getN (host := "TripleTrap") (D := G.1) (ci := 2) (v := .int (nI (n0 - 1))) (C := RX3) (T := TX3) (N := 4) hx hb hts (fun w h => List.mem_cons_of_mem _ (List.mem_append_right _ h)) hown hE.1 hP 2 rfl rfl 0 (by decide) (hE.nestB (w := .fieldLinkNest RX5 95 "TripleTrap$Moves" "size" "I" "TripleTrap") 5 rfl rfl) (fun _ h9 => h9) rfl dX5_drop_37 ?_
    have eF : (.int (nI (n0 - 1)) : Value) = Value.int (nI (cDropN n0 (nI d))) := by rw [cDropN, if_pos c11]
    rw [eF] at hP hD
    clear eF
    have eF : shL F d (n0 - 1 - d) = cDropA n0 F (nI d) := by rw [cDropA, if_pos c11, cl_nI hd (by omega)]
    rw [eF] at hP hD
    clear eF
    have eF : shL S d (n0 - 1 - d) = cDropA n0 S (nI d) := by rw [cDropA, if_pos c11, cl_nI hd (by omega)]
    rw [eF] at hP hD
    clear eF
    have eF : shL B d (n0 - 1 - d) = cDropA n0 B (nI d) := by rw [cDropA, if_pos c11, cl_nI hd (by omega)]
    rw [eF] at hP hD
    clear eF
    exact wr_ret hx hb hr hlocks dX5_drop_40 hP hD hS (by rw [cDropR, if_pos c11])
  · skip
    refine j_if_ne (tgt := 19) hx hb dX5_drop_14 (by decide) (fun q => absurd q (by decide)) (fun _ => ?_)
    refine lv_iconst (v := (-1)) hx hb dX5_drop_17 (by decide) ?_
    have eF : (.int (nI n0) : Value) = Value.int (nI (cDropN n0 x)) := by rw [cDropN, if_neg (by rw [c11]; decide)]
    rw [eF] at hP hD
    clear eF
    have eF : F = cDropA n0 F x := by rw [cDropA, if_neg (by rw [c11]; decide)]
    rw [eF] at hP hD
    clear eF
    have eF : S = cDropA n0 S x := by rw [cDropA, if_neg (by rw [c11]; decide)]
    rw [eF] at hP hD
    clear eF
    have eF : B = cDropA n0 B x := by rw [cDropA, if_neg (by rw [c11]; decide)]
    rw [eF] at hP hD
    clear eF
    exact wr_ret hx hb hr hlocks dX5_drop_18 hP hD hS (by rw [cDropR, if_neg (by rw [c11]; decide)])
set_option maxHeartbeats 4000000 in
set_option maxRecDepth 100000 in
/-- told -/
theorem c_X5_told (l : Launch) (G : EG) (o : Nat) (me : Nat) (h0 : Nat) (im : Nat) (kp : Nat) (ta : Nat) (m0 : Nat) (t0 : Nat) (n0 : Nat) (f0 : Nat) (s0 : Nat) (b0 : Nat) (F : Nat → Nat) (S : Nat → Nat) (B : Nat → Nat) (hn0 : n0 ≤ 8) (hBb : ∀ i, i < n0 → B i < 8388608) (x : Int32) (y : Int32) : RO l yX5_told wsX5_told (rmR 2 50) G [(o, .inr (4, [.ref me, .ref h0, .ref im, .int (nI kp), .ref ta])), (h0, .inr (0, [.ref m0, .ref t0])), (m0, .inr (2, [.int (nI n0), .ref f0, .ref s0, .ref b0])), (f0, aI G 8 F), (s0, aI G 8 S), (b0, aI G 8 B)] [.ref o, .int x, .int y] (.int (cTold n0 F S B x y)) := by
  refine RO.start (by decide) rfl (Nat.le_of_ble_eq_true rfl) ?_
  intro p e s m below meth c hx hb hr hml hts hown hlocks hP hE ls hl
  have hown : s.vm.findClass RX5 = some m.cls := hown
  have hl : lv_has ls 3 [(0, .ref o), (1, .int x), (2, .int y)] := hl
  refine lv_iload_n hx hb dX5_told_0 rfl (lv_at hl 1 rfl) ?_
  refine lv_aload_n hx hb dX5_told_1 rfl (lv_at hl 0 rfl) ?_
  refine va_get (D := G.1) (ci := 4) (v := .ref h0) (C := RX5) (T := TX5) (N := 5) hx hb hts (fun w h => List.mem_cons_of_mem _ (List.mem_append_left _ (List.mem_append_left _ (List.mem_append_right _ h)))) hown hE.1 hP 0 rfl rfl 1 (by decide) (hts (.fieldLink RX5 19 "TripleTrap" "now" "LTripleTrap$Held;") (List.mem_of_getElem? (i := 1) rfl)) (fun _ h9 => h9) rfl dX5_told_2 ?_
  refine va_getN (host := "TripleTrap") (D := G.1) (ci := 0) (v := .ref m0) (C := RX1) (T := TX1) (N := 2) hx hb hts (fun w h => List.mem_cons_of_mem _ (List.mem_append_left _ (List.mem_append_right _ h))) hown hE.1 hP 1 rfl rfl 0 (by decide) (hE.nestB (w := .fieldLinkNest RX5 91 "TripleTrap$Held" "moves" "LTripleTrap$Moves;" "TripleTrap") 10 rfl rfl) (fun _ h9 => h9) rfl dX5_told_5 ?_
  refine va_getN (host := "TripleTrap") (D := G.1) (ci := 2) (v := .int (nI n0)) (C := RX3) (T := TX3) (N := 4) hx hb hts (fun w h => List.mem_cons_of_mem _ (List.mem_append_right _ h)) hown hE.1 hP 2 rfl rfl 0 (by decide) (hE.nestB (w := .fieldLinkNest RX5 95 "TripleTrap$Moves" "size" "I" "TripleTrap") 5 rfl rfl) (fun _ h9 => h9) rfl dX5_told_8 ?_
  refine ro_S (rest := []) ⟨hx, hb, hml, hown, hts⟩ (c_X5_isBelow l G x n0) (va_cwS 2 hts gX5_told_X5_isBelow rfl rfl rfl (by decide +kernel) ⟨Nat.le_of_ble_eq_true rfl, Nat.le_of_ble_eq_true rfl⟩) hE (hP.sub [] rfl) rfl hl.1 rfl (Nat.le_of_ble_eq_true rfl) dX5_told_11 ⟨Nat.zero_le _, Nat.zero_le _⟩ ?_
  refine j_bool (fun c11 => ?_) (fun c11 => ?_)
  · skip
    obtain ⟨d, hd, rfl⟩ := blw_ex c11 (by omega)
    refine j_if_ne (tgt := 19) hx hb dX5_told_14 (by decide) (fun _ => ?_) (fun q => absurd q (by decide))
    refine lv_iload_n hx hb dX5_told_19 rfl (lv_at hl 2 rfl) ?_
    by_cases c20_0 : y = nI 0
    · subst c20_0
      refine lv_tableIn (off := 28) (tgt := 48) hx hb dX5_told_20 (by decide) (by decide) rfl (by decide) ?_
      refine lv_aload_n hx hb dX5_told_48 rfl (lv_at hl 0 rfl) ?_
      refine va_get (D := G.1) (ci := 4) (v := .ref h0) (C := RX5) (T := TX5) (N := 5) hx hb hts (fun w h => List.mem_cons_of_mem _ (List.mem_append_left _ (List.mem_append_left _ (List.mem_append_right _ h)))) hown hE.1 hP 0 rfl rfl 1 (by decide) (hts (.fieldLink RX5 19 "TripleTrap" "now" "LTripleTrap$Held;") (List.mem_of_getElem? (i := 1) rfl)) (fun _ h9 => h9) rfl dX5_told_49 ?_
      refine va_getN (host := "TripleTrap") (D := G.1) (ci := 0) (v := .ref m0) (C := RX1) (T := TX1) (N := 2) hx hb hts (fun w h => List.mem_cons_of_mem _ (List.mem_append_left _ (List.mem_append_right _ h))) hown hE.1 hP 1 rfl rfl 0 (by decide) (hE.nestB (w := .fieldLinkNest RX5 91 "TripleTrap$Held" "moves" "LTripleTrap$Moves;" "TripleTrap") 10 rfl rfl) (fun _ h9 => h9) rfl dX5_told_52 ?_
      refine va_getN (host := "TripleTrap") (D := G.1) (ci := 2) (v := .ref f0) (C := RX3) (T := TX3) (N := 4) hx hb hts (fun w h => List.mem_cons_of_mem _ (List.mem_append_right _ h)) hown hE.1 hP 2 rfl rfl 1 (by decide) (hE.nestB (w := .fieldLinkNest RX5 108 "TripleTrap$Moves" "factors" "[I" "TripleTrap") 6 rfl rfl) (fun _ h9 => h9) rfl dX5_told_55 ?_
      refine lv_iload_n hx hb dX5_told_58 rfl (lv_at hl 1 rfl) ?_
      refine j_iald hx hb hE hP 3 rfl dX5_told_59 ?_
      exact ro_ret hx hb hr hlocks dX5_told_60 (by rw [cTold, if_pos c11, if_pos rfl, cl_nI hd (by omega)])
    by_cases c20_1 : y = nI 1
    · subst c20_1
      refine lv_tableIn (off := 41) (tgt := 61) hx hb dX5_told_20 (by decide) (by decide) rfl (by decide) ?_
      refine lv_aload_n hx hb dX5_told_61 rfl (lv_at hl 0 rfl) ?_
      refine va_get (D := G.1) (ci := 4) (v := .ref h0) (C := RX5) (T := TX5) (N := 5) hx hb hts (fun w h => List.mem_cons_of_mem _ (List.mem_append_left _ (List.mem_append_left _ (List.mem_append_right _ h)))) hown hE.1 hP 0 rfl rfl 1 (by decide) (hts (.fieldLink RX5 19 "TripleTrap" "now" "LTripleTrap$Held;") (List.mem_of_getElem? (i := 1) rfl)) (fun _ h9 => h9) rfl dX5_told_62 ?_
      refine va_getN (host := "TripleTrap") (D := G.1) (ci := 0) (v := .ref m0) (C := RX1) (T := TX1) (N := 2) hx hb hts (fun w h => List.mem_cons_of_mem _ (List.mem_append_left _ (List.mem_append_right _ h))) hown hE.1 hP 1 rfl rfl 0 (by decide) (hE.nestB (w := .fieldLinkNest RX5 91 "TripleTrap$Held" "moves" "LTripleTrap$Moves;" "TripleTrap") 10 rfl rfl) (fun _ h9 => h9) rfl dX5_told_65 ?_
      refine va_getN (host := "TripleTrap") (D := G.1) (ci := 2) (v := .ref s0) (C := RX3) (T := TX3) (N := 4) hx hb hts (fun w h => List.mem_cons_of_mem _ (List.mem_append_right _ h)) hown hE.1 hP 2 rfl rfl 2 (by decide) (hE.nestB (w := .fieldLinkNest RX5 111 "TripleTrap$Moves" "shifts" "[I" "TripleTrap") 7 rfl rfl) (fun _ h9 => h9) rfl dX5_told_68 ?_
      refine lv_iload_n hx hb dX5_told_71 rfl (lv_at hl 1 rfl) ?_
      refine j_iald hx hb hE hP 4 rfl dX5_told_72 ?_
      exact ro_ret hx hb hr hlocks dX5_told_73 (by rw [cTold, if_pos c11, if_neg (by decide), if_pos rfl, cl_nI hd (by omega)])
    by_cases c20_2 : y = nI 2
    · subst c20_2
      refine lv_tableIn (off := 54) (tgt := 74) hx hb dX5_told_20 (by decide) (by decide) rfl (by decide) ?_
      refine lv_aload_n hx hb dX5_told_74 rfl (lv_at hl 0 rfl) ?_
      refine va_get (D := G.1) (ci := 4) (v := .ref h0) (C := RX5) (T := TX5) (N := 5) hx hb hts (fun w h => List.mem_cons_of_mem _ (List.mem_append_left _ (List.mem_append_left _ (List.mem_append_right _ h)))) hown hE.1 hP 0 rfl rfl 1 (by decide) (hts (.fieldLink RX5 19 "TripleTrap" "now" "LTripleTrap$Held;") (List.mem_of_getElem? (i := 1) rfl)) (fun _ h9 => h9) rfl dX5_told_75 ?_
      refine va_getN (host := "TripleTrap") (D := G.1) (ci := 0) (v := .ref m0) (C := RX1) (T := TX1) (N := 2) hx hb hts (fun w h => List.mem_cons_of_mem _ (List.mem_append_left _ (List.mem_append_right _ h))) hown hE.1 hP 1 rfl rfl 0 (by decide) (hE.nestB (w := .fieldLinkNest RX5 91 "TripleTrap$Held" "moves" "LTripleTrap$Moves;" "TripleTrap") 10 rfl rfl) (fun _ h9 => h9) rfl dX5_told_78 ?_
      refine lv_iload_n hx hb dX5_told_81 rfl (lv_at hl 1 rfl) ?_
      refine lv_iconst (v := nI 1) hx hb dX5_told_82 (by decide) ?_
      refine j_add hx hb dX5_told_83 ?_
      refine ro_VN 2 0 (rest := []) (host := "TripleTrap") ⟨hx, hb, hml, hown, hts⟩ (c_X3_coveredByFirst l G m0 n0 f0 s0 b0 B hn0 hBb (d + 1) (by omega)) ⟨va_cnB 1 hts gX5_told_X3_coveredByFirst_n114 rfl rfl rfl (hE.nest (w := .methodLinkNest RX5 114 yX3_coveredByFirst "TripleTrap") 27 rfl) (hts (.initialized RX3) (List.mem_of_getElem? (i := 7) rfl)) (by decide +kernel) ⟨Nat.le_of_ble_eq_true rfl, Nat.le_of_ble_eq_true rfl⟩, hts (.instanceMethod yX3_coveredByFirst) (List.mem_of_getElem? (i := 6) rfl), hts (.selects RX3 yX3_coveredByFirst yX3_coveredByFirst) (List.mem_of_getElem? (i := 8) rfl)⟩ hE (hP.sub [2, 5] rfl) rfl rfl rfl hl.1 rfl (Nat.le_of_ble_eq_true rfl) dX5_told_84 ⟨Nat.zero_le _, Nat.zero_le _⟩ ?_
      refine lv_aload_n hx hb dX5_told_87 rfl (lv_at hl 0 rfl) ?_
      refine va_get (D := G.1) (ci := 4) (v := .ref h0) (C := RX5) (T := TX5) (N := 5) hx hb hts (fun w h => List.mem_cons_of_mem _ (List.mem_append_left _ (List.mem_append_left _ (List.mem_append_right _ h)))) hown hE.1 hP 0 rfl rfl 1 (by decide) (hts (.fieldLink RX5 19 "TripleTrap" "now" "LTripleTrap$Held;") (List.mem_of_getElem? (i := 1) rfl)) (fun _ h9 => h9) rfl dX5_told_88 ?_
      refine va_getN (host := "TripleTrap") (D := G.1) (ci := 0) (v := .ref m0) (C := RX1) (T := TX1) (N := 2) hx hb hts (fun w h => List.mem_cons_of_mem _ (List.mem_append_left _ (List.mem_append_right _ h))) hown hE.1 hP 1 rfl rfl 0 (by decide) (hE.nestB (w := .fieldLinkNest RX5 91 "TripleTrap$Held" "moves" "LTripleTrap$Moves;" "TripleTrap") 10 rfl rfl) (fun _ h9 => h9) rfl dX5_told_91 ?_
      refine lv_iload_n hx hb dX5_told_94 rfl (lv_at hl 1 rfl) ?_
      refine ro_VN 2 0 (rest := [.int (nI (cbP B (d + 1) 23 0))]) (host := "TripleTrap") ⟨hx, hb, hml, hown, hts⟩ (c_X3_coveredByFirst l G m0 n0 f0 s0 b0 B hn0 hBb d (by omega)) ⟨va_cnB 1 hts gX5_told_X3_coveredByFirst_n114 rfl rfl rfl (hE.nest (w := .methodLinkNest RX5 114 yX3_coveredByFirst "TripleTrap") 27 rfl) (hts (.initialized RX3) (List.mem_of_getElem? (i := 7) rfl)) (by decide +kernel) ⟨Nat.le_of_ble_eq_true rfl, Nat.le_of_ble_eq_true rfl⟩, hts (.instanceMethod yX3_coveredByFirst) (List.mem_of_getElem? (i := 6) rfl), hts (.selects RX3 yX3_coveredByFirst yX3_coveredByFirst) (List.mem_of_getElem? (i := 8) rfl)⟩ hE (hP.sub [2, 5] rfl) rfl rfl rfl hl.1 rfl (Nat.le_of_ble_eq_true rfl) dX5_told_95 ⟨Nat.zero_le _, Nat.zero_le _⟩ ?_
      refine lv_isub hx hb dX5_told_98 ?_
      exact ro_ret hx hb hr hlocks dX5_told_99 (by rw [cTold, if_pos c11, if_neg (by decide), if_neg (by decide), if_pos rfl, cl_nI hd (by omega)])
    refine lv_tableOut (tgt := 100) hx hb dX5_told_20 (by have q0 := i32_ne c20_0 (by decide); have q1 := i32_ne c20_1 (by decide); have q2 := i32_ne c20_2 (by decide); omega) (by decide) ?_
    refine lv_bipush (v := (-2)) hx hb dX5_told_100 (by decide) ?_
    exact ro_ret hx hb hr hlocks dX5_told_102 (by rw [cTold, if_pos c11, if_neg c20_0, if_neg c20_1, if_neg c20_2])
  · skip
    refine j_if_ne (tgt := 19) hx hb dX5_told_14 (by decide) (fun q => absurd q (by decide)) (fun _ => ?_)
    refine lv_iconst (v := (-1)) hx hb dX5_told_17 (by decide) ?_
    exact ro_ret hx hb hr hlocks dX5_told_18 (by rw [cTold, if_neg (by rw [c11]; decide)])
set_option maxHeartbeats 4000000 in
set_option maxRecDepth 100000 in
/-- freed -/
theorem c_X5_freed (l : Launch) (G : EG) (o : Nat) (me : Nat) (h0 : Nat) (im : Nat) (kp : Nat) (ta : Nat) (m0 : Nat) (t0 : Nat) (n0 : Nat) (f0 : Nat) (s0 : Nat) (b0 : Nat) (F : Nat → Nat) (S : Nat → Nat) (hn0 : n0 ≤ 8) (hFS : ∀ i, i < n0 → F i < 23 ∧ S i < 23) (x : Int32) (y : Int32) : RO l yX5_freed wsX5_freed (rmR 2 46) G [(o, .inr (4, [.ref me, .ref h0, .ref im, .int (nI kp), .ref ta])), (h0, .inr (0, [.ref m0, .ref t0])), (m0, .inr (2, [.int (nI n0), .ref f0, .ref s0, .ref b0])), (f0, aI G 8 F), (s0, aI G 8 S)] [.ref o, .int x, .int y] (.int (cFreed n0 F S x y)) := by
  refine RO.start (by decide) rfl (Nat.le_of_ble_eq_true rfl) ?_
  intro p e s m below meth c hx hb hr hml hts hown hlocks hP hE ls hl
  have hown : s.vm.findClass RX5 = some m.cls := hown
  have hl : lv_has ls 7 [(0, .ref o), (1, .int x), (2, .int y)] := hl
  refine lv_iload_n hx hb dX5_freed_0 rfl (lv_at hl 1 rfl) ?_
  refine lv_ldc (v := nI 8388608) hx hb hown (hts (.constant RX5 45 (nI 8388608)) (List.mem_of_getElem? (i := 1) rfl)) dX5_freed_1 ?_
  refine ro_S (rest := []) ⟨hx, hb, hml, hown, hts⟩ (c_X5_isBelow l G x 8388608) (va_cwS 2 hts gX5_freed_X5_isBelow rfl rfl rfl (by decide +kernel) ⟨Nat.le_of_ble_eq_true rfl, Nat.le_of_ble_eq_true rfl⟩) hE (hP.sub [] rfl) rfl hl.1 rfl (Nat.le_of_ble_eq_true rfl) dX5_freed_3 ⟨Nat.zero_le _, Nat.zero_le _⟩ ?_
  refine j_bool (fun c3 => ?_) (fun c3 => ?_)
  · skip
    obtain ⟨w, hw, rfl⟩ := blw_ex c3 (by decide)
    refine j_if_eq (tgt := 17) hx hb dX5_freed_6 (by decide) (fun q => absurd q (by decide)) (fun _ => ?_)
    refine lv_iload_n hx hb dX5_freed_9 rfl (lv_at hl 2 rfl) ?_
    refine lv_iconst (v := nI 2) hx hb dX5_freed_10 (by decide) ?_
    refine ro_S (rest := []) ⟨hx, hb, hml, hown, hts⟩ (c_X5_isBelow l G y 2) (va_cwS 2 hts gX5_freed_X5_isBelow rfl rfl rfl (by decide +kernel) ⟨Nat.le_of_ble_eq_true rfl, Nat.le_of_ble_eq_true rfl⟩) hE (hP.sub [] rfl) rfl hl.1 rfl (Nat.le_of_ble_eq_true rfl) dX5_freed_11 ⟨Nat.zero_le _, Nat.zero_le _⟩ ?_
    refine j_bool (fun c11 => ?_) (fun c11 => ?_)
    · skip
      obtain ⟨j, hj, rfl⟩ := blw_ex c11 (by decide)
      refine j_if_ne (tgt := 20) hx hb dX5_freed_14 (by decide) (fun _ => ?_) (fun q => absurd q (by decide))
      refine lv_iconst (v := nI 0) hx hb dX5_freed_20 (by decide) ?_
      refine lv_istore_n (lv' := [(3, .int (nI 0)), (0, .ref o), (1, .int (nI w)), (2, .int (nI j))]) hx hb dX5_freed_21 rfl hl (by decide) rfl (fun ls hl => ?_)
      have loop22 : ∀ (fuel : Nat) (k : Nat), (k ≤ n0) → (cfF n0 F S w j (n0 - k) = cfF n0 F S w j n0) → n0 - k < fuel → ∀ ls : Array Slot, lv_has ls 7 [(3, .int (nI k)), (0, .ref o), (1, .int (nI w)), (2, .int (nI j))] → W p l e (rmR 2 46) s m ([.ref o, .int (nI w), .int (nI j)] : List Value).toArray below meth c s.heap [] 0 0 (MQ below (k2_QcV (.int (cFreed n0 F S (nI w) (nI j)))) ([.ref o, .int (nI w), .int (nI j)] : List Value).toArray s 0 0 (fun _ => False)) (F0 m 22 ls []) := by
        intro fuel
        induction fuel with
        | zero => intro k h1 h2 hf; exact absurd hf (Nat.not_lt_zero _)
        | succ fuel ih22 =>
          intro k h1 h2 hf ls hl
          refine lv_iload_n hx hb dX5_freed_22 rfl (lv_at hl 0 rfl) ?_
          refine lv_aload_n hx hb dX5_freed_23 rfl (lv_at hl 1 rfl) ?_
          refine va_get (D := G.1) (ci := 4) (v := .ref h0) (C := RX5) (T := TX5) (N := 5) hx hb hts (fun w h => List.mem_cons_of_mem _ (List.mem_append_left _ (List.mem_append_left _ (List.mem_append_right _ h)))) hown hE.1 hP 0 rfl rfl 1 (by decide) (hts (.fieldLink RX5 19 "TripleTrap" "now" "LTripleTrap$Held;") (List.mem_of_getElem? (i := 2) rfl)) (fun _ h9 => h9) rfl dX5_freed_24 ?_
          refine va_getN (host := "TripleTrap") (D := G.1) (ci := 0) (v := .ref m0) (C := RX1) (T := TX1) (N := 2) hx hb hts (fun w h => List.mem_cons_of_mem _ (List.mem_append_left _ (List.mem_append_right _ h))) hown hE.1 hP 1 rfl rfl 0 (by decide) (hE.nestB (w := .fieldLinkNest RX5 91 "TripleTrap$Held" "moves" "LTripleTrap$Moves;" "TripleTrap") 10 rfl rfl) (fun _ h9 => h9) rfl dX5_freed_27 ?_
          refine va_getN (host := "TripleTrap") (D := G.1) (ci := 2) (v := .int (nI n0)) (C := RX3) (T := TX3) (N := 4) hx hb hts (fun w h => List.mem_cons_of_mem _ (List.mem_append_right _ h)) hown hE.1 hP 2 rfl rfl 0 (by decide) (hE.nestB (w := .fieldLinkNest RX5 95 "TripleTrap$Moves" "size" "I" "TripleTrap") 5 rfl rfl) (fun _ h9 => h9) rfl dX5_freed_30 ?_
          refine j_icmp_ge (tgt := 110) hx hb dX5_freed_33 (by decide) (fun c33 => ?_) (fun c33 => ?_)
          · skip
            refine lv_bipush (v := (-6)) hx hb dX5_freed_110 (by decide) ?_
            exact ro_ret hx hb hr hlocks dX5_freed_112 (by rw [cFreed, if_pos ⟨c3, c11⟩, cl_nI hw (by decide), cl_nI hj (by decide), ← h2, show n0 - k = 0 by omega, cfF])
          · skip
            refine lv_aload_n hx hb dX5_freed_36 rfl (lv_at hl 1 rfl) ?_
            refine va_get (D := G.1) (ci := 4) (v := .ref h0) (C := RX5) (T := TX5) (N := 5) hx hb hts (fun w h => List.mem_cons_of_mem _ (List.mem_append_left _ (List.mem_append_left _ (List.mem_append_right _ h)))) hown hE.1 hP 0 rfl rfl 1 (by decide) (hts (.fieldLink RX5 19 "TripleTrap" "now" "LTripleTrap$Held;") (List.mem_of_getElem? (i := 2) rfl)) (fun _ h9 => h9) rfl dX5_freed_37 ?_
            refine va_getN (host := "TripleTrap") (D := G.1) (ci := 0) (v := .ref m0) (C := RX1) (T := TX1) (N := 2) hx hb hts (fun w h => List.mem_cons_of_mem _ (List.mem_append_left _ (List.mem_append_right _ h))) hown hE.1 hP 1 rfl rfl 0 (by decide) (hE.nestB (w := .fieldLinkNest RX5 91 "TripleTrap$Held" "moves" "LTripleTrap$Moves;" "TripleTrap") 10 rfl rfl) (fun _ h9 => h9) rfl dX5_freed_40 ?_
            refine va_getN (host := "TripleTrap") (D := G.1) (ci := 2) (v := .ref f0) (C := RX3) (T := TX3) (N := 4) hx hb hts (fun w h => List.mem_cons_of_mem _ (List.mem_append_right _ h)) hown hE.1 hP 2 rfl rfl 1 (by decide) (hE.nestB (w := .fieldLinkNest RX5 108 "TripleTrap$Moves" "factors" "[I" "TripleTrap") 6 rfl rfl) (fun _ h9 => h9) rfl dX5_freed_43 ?_
            refine lv_iload_n hx hb dX5_freed_46 rfl (lv_at hl 0 rfl) ?_
            refine j_iald hx hb hE hP 3 rfl dX5_freed_47 ?_
            refine j_top (fun x48 ex48 => ?_)
            refine lv_istore (lv' := [(4, .int (nI x48)), (3, .int (nI k)), (0, .ref o), (1, .int (nI w)), (2, .int (nI j))]) hx hb dX5_freed_48 hl (by decide) rfl (fun ls hl => ?_)
            refine lv_aload_n hx hb dX5_freed_50 rfl (lv_at hl 2 rfl) ?_
            refine va_get (D := G.1) (ci := 4) (v := .ref h0) (C := RX5) (T := TX5) (N := 5) hx hb hts (fun w h => List.mem_cons_of_mem _ (List.mem_append_left _ (List.mem_append_left _ (List.mem_append_right _ h)))) hown hE.1 hP 0 rfl rfl 1 (by decide) (hts (.fieldLink RX5 19 "TripleTrap" "now" "LTripleTrap$Held;") (List.mem_of_getElem? (i := 2) rfl)) (fun _ h9 => h9) rfl dX5_freed_51 ?_
            refine va_getN (host := "TripleTrap") (D := G.1) (ci := 0) (v := .ref m0) (C := RX1) (T := TX1) (N := 2) hx hb hts (fun w h => List.mem_cons_of_mem _ (List.mem_append_left _ (List.mem_append_right _ h))) hown hE.1 hP 1 rfl rfl 0 (by decide) (hE.nestB (w := .fieldLinkNest RX5 91 "TripleTrap$Held" "moves" "LTripleTrap$Moves;" "TripleTrap") 10 rfl rfl) (fun _ h9 => h9) rfl dX5_freed_54 ?_
            refine va_getN (host := "TripleTrap") (D := G.1) (ci := 2) (v := .ref s0) (C := RX3) (T := TX3) (N := 4) hx hb hts (fun w h => List.mem_cons_of_mem _ (List.mem_append_right _ h)) hown hE.1 hP 2 rfl rfl 2 (by decide) (hE.nestB (w := .fieldLinkNest RX5 111 "TripleTrap$Moves" "shifts" "[I" "TripleTrap") 7 rfl rfl) (fun _ h9 => h9) rfl dX5_freed_57 ?_
            refine lv_iload_n hx hb dX5_freed_60 rfl (lv_at hl 1 rfl) ?_
            refine j_iald hx hb hE hP 4 rfl dX5_freed_61 ?_
            refine j_top (fun x62 ex62 => ?_)
            refine lv_istore (lv' := [(5, .int (nI x62)), (4, .int (nI x48)), (3, .int (nI k)), (0, .ref o), (1, .int (nI w)), (2, .int (nI j))]) hx hb dX5_freed_62 hl (by decide) rfl (fun ls hl => ?_)
            have hfs := hFS k (by omega)
            rw [← ex48, ← ex62] at hfs
            refine lv_iload_n hx hb dX5_freed_64 rfl (lv_at hl 4 rfl) ?_
            refine lv_iload hx hb dX5_freed_65 (lv_at hl 1 rfl) ?_
            refine lv_iload hx hb dX5_freed_67 (lv_at hl 0 rfl) ?_
            refine ro_SN (rest := []) (host := "TripleTrap") ⟨hx, hb, hml, hown, hts⟩ (c_X0_carry l G w x48 x62 (by omega) hfs.1 hfs.2) ⟨va_cnB 3 hts gX5_freed_X0_carry_n87 rfl rfl rfl (hE.nest (w := .methodLinkNest RX5 87 yX0_carry "TripleTrap") 22 rfl) (hts (.initialized RX0) (List.mem_of_getElem? (i := 8) rfl)) (by decide +kernel) ⟨Nat.le_of_ble_eq_true rfl, Nat.le_of_ble_eq_true rfl⟩, hts (.static yX0_carry) (List.mem_of_getElem? (i := 7) rfl), trivial⟩ hE (hP.sub [] rfl) rfl hl.1 rfl (Nat.le_of_ble_eq_true rfl) dX5_freed_69 ⟨Nat.zero_le _, Nat.zero_le _⟩ ?_
            refine ro_SN (rest := []) (host := "TripleTrap") ⟨hx, hb, hml, hown, hts⟩ (c_X0_remainder l G (carN w x48 x62) (Nat.lt_trans (carL_lt _ _ _ _) (by decide))) ⟨va_cnB 1 hts gX5_freed_X0_remainder_n46 rfl rfl rfl (hE.nest (w := .methodLinkNest RX5 46 yX0_remainder "TripleTrap") 13 rfl) (hts (.initialized RX0) (List.mem_of_getElem? (i := 8) rfl)) (by decide +kernel) ⟨Nat.le_of_ble_eq_true rfl, Nat.le_of_ble_eq_true rfl⟩, hts (.static yX0_remainder) (List.mem_of_getElem? (i := 13) rfl), trivial⟩ hE (hP.sub [] rfl) rfl hl.1 rfl (Nat.le_of_ble_eq_true rfl) dX5_freed_72 ⟨Nat.zero_le _, Nat.zero_le _⟩ ?_
            refine j_top (fun x75 ex75 => ?_)
            refine lv_istore (lv' := [(6, .int (nI x75)), (5, .int (nI x62)), (4, .int (nI x48)), (3, .int (nI k)), (0, .ref o), (1, .int (nI w)), (2, .int (nI j))]) hx hb dX5_freed_75 hl (by decide) rfl (fun ls hl => ?_)
            refine lv_iload hx hb dX5_freed_77 (lv_at hl 0 rfl) ?_
            refine ro_S (rest := []) ⟨hx, hb, hml, hown, hts⟩ (c_J6_bitCount_0f7a4 l G x75 (by rw [ex75]; exact Nat.lt_trans (remN_lt (Nat.lt_trans (carL_lt _ _ _ _) (by decide))) (by decide))) (va_cwS 1 hts gX5_freed_J6_bitCount_0f7a4 rfl rfl rfl (by decide +kernel) ⟨Nat.le_of_ble_eq_true rfl, Nat.le_of_ble_eq_true rfl⟩) hE (hP.sub [] rfl) rfl hl.1 rfl (Nat.le_of_ble_eq_true rfl) dX5_freed_79 ⟨Nat.zero_le _, Nat.zero_le _⟩ ?_
            refine lv_iconst (v := nI 3) hx hb dX5_freed_82 (by decide) ?_
            refine j_icmp_gt (tgt := 104) hx hb dX5_freed_83 (by decide) (fun c83 => ?_) (fun c83 => ?_) (h1 := Nat.lt_of_le_of_lt (bcN_le _) (by decide)) (h2 := by decide)
            · skip
              obtain ⟨x104, ex104⟩ : ∃ y : Nat, y = k + 1 := ⟨_, rfl⟩
              refine lv_iinc (v := nI x104) (lv' := [(3, .int (nI x104)), (6, .int (nI x75)), (5, .int (nI x62)), (4, .int (nI x48)), (0, .ref o), (1, .int (nI w)), (2, .int (nI j))]) hx hb dX5_freed_104 hl (k := 3) rfl (by rw [ex104]; exact nI_add _ _) (by decide) rfl (fun ls hl => ?_)
              refine lv_goto (tgt := 22) hx hb dX5_freed_107 (by decide) ?_
              exact ih22 x104 (by omega) (by rw [← h2, show n0 - k = (n0 - x104) + 1 by omega, cfF, show n0 - (n0 - x104 + 1) = k by omega, if_neg (by rw [ex75, ex48, ex62] at c83; exact Nat.not_le.mpr c83)]) (by omega) ls (lv_sub hl [0, 4, 5, 6] rfl)
            · skip
              refine lv_iload_n hx hb dX5_freed_86 rfl (lv_at hl 6 rfl) ?_
              refine j_if_ne (tgt := 94) hx hb dX5_freed_87 (by decide) (fun c87 => ?_) (fun c87 => ?_)
              · skip
                refine lv_iload hx hb dX5_freed_94 (lv_at hl 0 rfl) ?_
                refine lv_iload hx hb dX5_freed_96 (lv_at hl 2 rfl) ?_
                refine lv_iload hx hb dX5_freed_98 (lv_at hl 1 rfl) ?_
                refine ro_SN (rest := []) (host := "TripleTrap") ⟨hx, hb, hml, hown, hts⟩ (c_X0_carryBack l G x75 x48 x62 (by rw [ex75]; exact Nat.lt_trans (remN_lt (Nat.lt_trans (carL_lt _ _ _ _) (by decide))) (by decide)) hfs.1 hfs.2) ⟨va_cnB 3 hts gX5_freed_X0_carryBack_n117 rfl rfl rfl (hE.nest (w := .methodLinkNest RX5 117 yX0_carryBack "TripleTrap") 28 rfl) (hts (.initialized RX0) (List.mem_of_getElem? (i := 8) rfl)) (by decide +kernel) ⟨Nat.le_of_ble_eq_true rfl, Nat.le_of_ble_eq_true rfl⟩, hts (.static yX0_carryBack) (List.mem_of_getElem? (i := 22) rfl), trivial⟩ hE (hP.sub [] rfl) rfl hl.1 rfl (Nat.le_of_ble_eq_true rfl) dX5_freed_100 ⟨Nat.zero_le _, Nat.zero_le _⟩ ?_
                exact ro_ret hx hb hr hlocks dX5_freed_103 (by rw [cFreed, if_pos ⟨c3, c11⟩, cl_nI hw (by decide), cl_nI hj (by decide), ← h2, show n0 - k = (n0 - k - 1) + 1 by omega, cfF, show n0 - (n0 - k - 1 + 1) = k by omega, if_pos (by rw [ex75, ex48, ex62] at c83; exact c83), if_neg c87, ex75, ex48, ex62]; rfl)
              · skip
                refine lv_iload_n hx hb dX5_freed_90 rfl (lv_at hl 3 rfl) ?_
                refine lv_goto (tgt := 103) hx hb dX5_freed_91 (by decide) ?_
                exact ro_ret hx hb hr hlocks dX5_freed_103 (by rw [cFreed, if_pos ⟨c3, c11⟩, cl_nI hw (by decide), cl_nI hj (by decide), ← h2, show n0 - k = (n0 - k - 1) + 1 by omega, cfF, show n0 - (n0 - k - 1 + 1) = k by omega, if_pos (by rw [ex75, ex48, ex62] at c83; exact c83), if_pos c87])
      exact loop22 _ 0 (by omega) rfl (Nat.lt_succ_self _) ls (lv_sub hl [0, 1, 2, 3] rfl)
    · skip
      refine j_if_ne (tgt := 20) hx hb dX5_freed_14 (by decide) (fun q => absurd q (by decide)) (fun _ => ?_)
      refine lv_bipush (v := (-2)) hx hb dX5_freed_17 (by decide) ?_
      exact ro_ret hx hb hr hlocks dX5_freed_19 (by rw [cFreed, if_neg (fun h => by rw [c11] at h; exact absurd h.2 (by decide))])
  · skip
    refine j_if_eq (tgt := 17) hx hb dX5_freed_6 (by decide) (fun _ => ?_) (fun q => absurd q (by decide))
    refine lv_bipush (v := (-2)) hx hb dX5_freed_17 (by decide) ?_
    exact ro_ret hx hb hr hlocks dX5_freed_19 (by rw [cFreed, if_neg (fun h => by rw [c3] at h; exact absurd h.1 (by decide))])
set_option maxHeartbeats 4000000 in
set_option maxRecDepth 100000 in
/-- open -/
theorem c_X5_open (l : Launch) (G : EG) (o : Nat) (me : Nat) (h0 : Nat) (im : Nat) (kp : Nat) (ta : Nat) (m0 : Nat) (t0 : Nat) (n0 : Nat) (f0 : Nat) (s0 : Nat) (b0 : Nat) (B : Nat → Nat) (hn0 : n0 ≤ 8) (hBb : ∀ i, i < n0 → B i < 8388608) (x : Int32) : RO l yX5_open wsX5_open (rmR 2 50) G [(o, .inr (4, [.ref me, .ref h0, .ref im, .int (nI kp), .ref ta])), (h0, .inr (0, [.ref m0, .ref t0])), (m0, .inr (2, [.int (nI n0), .ref f0, .ref s0, .ref b0])), (b0, aI G 8 B)] [.ref o, .int x] (.int (cOpen n0 B x)) := by
  refine RO.start (by decide) rfl (Nat.le_of_ble_eq_true rfl) ?_
  intro p e s m below meth c hx hb hr hml hts hown hlocks hP hE ls hl
  have hown : s.vm.findClass RX5 = some m.cls := hown
  have hl : lv_has ls 2 [(0, .ref o), (1, .int x)] := hl
  refine lv_iload_n hx hb dX5_open_0 rfl (lv_at hl 1 rfl) ?_
  by_cases c1_0 : x = nI 0
  · subst c1_0
    refine lv_lookup (off := 27) (tgt := 28) hx hb dX5_open_1 (by decide) (by decide) (by decide) ?_
    refine lv_sipush (v := nI 1771) hx hb dX5_open_28 (by decide) ?_
    refine lv_aload_n hx hb dX5_open_31 rfl (lv_at hl 0 rfl) ?_
    refine va_get (D := G.1) (ci := 4) (v := .ref h0) (C := RX5) (T := TX5) (N := 5) hx hb hts (fun w h => List.mem_cons_of_mem _ (List.mem_append_left _ (List.mem_append_left _ (List.mem_append_right _ h)))) hown hE.1 hP 0 rfl rfl 1 (by decide) (hts (.fieldLink RX5 19 "TripleTrap" "now" "LTripleTrap$Held;") (List.mem_of_getElem? (i := 1) rfl)) (fun _ h9 => h9) rfl dX5_open_32 ?_
    refine va_getN (host := "TripleTrap") (D := G.1) (ci := 0) (v := .ref m0) (C := RX1) (T := TX1) (N := 2) hx hb hts (fun w h => List.mem_cons_of_mem _ (List.mem_append_left _ (List.mem_append_right _ h))) hown hE.1 hP 1 rfl rfl 0 (by decide) (hE.nestB (w := .fieldLinkNest RX5 91 "TripleTrap$Held" "moves" "LTripleTrap$Moves;" "TripleTrap") 10 rfl rfl) (fun _ h9 => h9) rfl dX5_open_35 ?_
    refine lv_aload_n hx hb dX5_open_38 rfl (lv_at hl 0 rfl) ?_
    refine va_get (D := G.1) (ci := 4) (v := .ref h0) (C := RX5) (T := TX5) (N := 5) hx hb hts (fun w h => List.mem_cons_of_mem _ (List.mem_append_left _ (List.mem_append_left _ (List.mem_append_right _ h)))) hown hE.1 hP 0 rfl rfl 1 (by decide) (hts (.fieldLink RX5 19 "TripleTrap" "now" "LTripleTrap$Held;") (List.mem_of_getElem? (i := 1) rfl)) (fun _ h9 => h9) rfl dX5_open_39 ?_
    refine va_getN (host := "TripleTrap") (D := G.1) (ci := 0) (v := .ref m0) (C := RX1) (T := TX1) (N := 2) hx hb hts (fun w h => List.mem_cons_of_mem _ (List.mem_append_left _ (List.mem_append_right _ h))) hown hE.1 hP 1 rfl rfl 0 (by decide) (hE.nestB (w := .fieldLinkNest RX5 91 "TripleTrap$Held" "moves" "LTripleTrap$Moves;" "TripleTrap") 10 rfl rfl) (fun _ h9 => h9) rfl dX5_open_42 ?_
    refine va_getN (host := "TripleTrap") (D := G.1) (ci := 2) (v := .int (nI n0)) (C := RX3) (T := TX3) (N := 4) hx hb hts (fun w h => List.mem_cons_of_mem _ (List.mem_append_right _ h)) hown hE.1 hP 2 rfl rfl 0 (by decide) (hE.nestB (w := .fieldLinkNest RX5 95 "TripleTrap$Moves" "size" "I" "TripleTrap") 5 rfl rfl) (fun _ h9 => h9) rfl dX5_open_45 ?_
    refine ro_VN 2 0 (rest := [.int (nI 1771)]) (host := "TripleTrap") ⟨hx, hb, hml, hown, hts⟩ (c_X3_coveredByFirst l G m0 n0 f0 s0 b0 B hn0 hBb n0 (by omega)) ⟨va_cnB 1 hts gX5_open_X3_coveredByFirst_n114 rfl rfl rfl (hE.nest (w := .methodLinkNest RX5 114 yX3_coveredByFirst "TripleTrap") 27 rfl) (hts (.initialized RX3) (List.mem_of_getElem? (i := 3) rfl)) (by decide +kernel) ⟨Nat.le_of_ble_eq_true rfl, Nat.le_of_ble_eq_true rfl⟩, hts (.instanceMethod yX3_coveredByFirst) (List.mem_of_getElem? (i := 2) rfl), hts (.selects RX3 yX3_coveredByFirst yX3_coveredByFirst) (List.mem_of_getElem? (i := 4) rfl)⟩ hE (hP.sub [2, 3] rfl) rfl rfl rfl hl.1 rfl (Nat.le_of_ble_eq_true rfl) dX5_open_48 ⟨Nat.zero_le _, Nat.zero_le _⟩ ?_
    refine lv_isub hx hb dX5_open_51 ?_
    exact ro_ret hx hb hr hlocks dX5_open_52 (by rw [cOpen, if_pos rfl])
  by_cases c1_1 : x = nI 1
  · subst c1_1
    refine lv_lookup (off := 52) (tgt := 53) hx hb dX5_open_1 (by decide) (by decide) (by decide) ?_
    refine lv_aload_n hx hb dX5_open_53 rfl (lv_at hl 0 rfl) ?_
    refine va_get (D := G.1) (ci := 4) (v := .ref h0) (C := RX5) (T := TX5) (N := 5) hx hb hts (fun w h => List.mem_cons_of_mem _ (List.mem_append_left _ (List.mem_append_left _ (List.mem_append_right _ h)))) hown hE.1 hP 0 rfl rfl 1 (by decide) (hts (.fieldLink RX5 19 "TripleTrap" "now" "LTripleTrap$Held;") (List.mem_of_getElem? (i := 1) rfl)) (fun _ h9 => h9) rfl dX5_open_54 ?_
    refine va_getN (host := "TripleTrap") (D := G.1) (ci := 0) (v := .ref m0) (C := RX1) (T := TX1) (N := 2) hx hb hts (fun w h => List.mem_cons_of_mem _ (List.mem_append_left _ (List.mem_append_right _ h))) hown hE.1 hP 1 rfl rfl 0 (by decide) (hE.nestB (w := .fieldLinkNest RX5 91 "TripleTrap$Held" "moves" "LTripleTrap$Moves;" "TripleTrap") 10 rfl rfl) (fun _ h9 => h9) rfl dX5_open_57 ?_
    refine ro_VN 2 0 (rest := []) (host := "TripleTrap") ⟨hx, hb, hml, hown, hts⟩ (c_X3_firstNotCovered l G m0 n0 f0 s0 b0 B hn0 hBb) ⟨va_cnB 0 hts gX5_open_X3_firstNotCovered_n120 rfl rfl rfl (hE.nest (w := .methodLinkNest RX5 120 yX3_firstNotCovered "TripleTrap") 29 rfl) (hts (.initialized RX3) (List.mem_of_getElem? (i := 3) rfl)) (by decide +kernel) ⟨Nat.le_of_ble_eq_true rfl, Nat.le_of_ble_eq_true rfl⟩, hts (.instanceMethod yX3_firstNotCovered) (List.mem_of_getElem? (i := 19) rfl), hts (.selects RX3 yX3_firstNotCovered yX3_firstNotCovered) (List.mem_of_getElem? (i := 20) rfl)⟩ hE (hP.sub [2, 3] rfl) rfl rfl rfl hl.1 rfl (Nat.le_of_ble_eq_true rfl) dX5_open_60 ⟨Nat.zero_le _, Nat.zero_le _⟩ ?_
    exact ro_ret hx hb hr hlocks dX5_open_63 (by rw [cOpen, if_neg (by decide), if_pos rfl])
  refine lv_lookup (off := 63) (tgt := 64) hx hb dX5_open_1 (by decide) (by show Op.lookupswitch.offset [(0, 27), (1, 52)] _ _ = _; rw [lv_osw (k := nI 0) (a := 0) c1_0 (by decide), lv_osw (k := nI 1) (a := 1) c1_1 (by decide)]; rfl) (by decide) ?_
  refine lv_bipush (v := (-2)) hx hb dX5_open_64 (by decide) ?_
  exact ro_ret hx hb hr hlocks dX5_open_66 (by rw [cOpen, if_neg c1_0, if_neg c1_1])
set_option maxHeartbeats 4000000 in
set_option maxRecDepth 100000 in
/-- sure -/
theorem c_X5_sure (l : Launch) (G : EG) (o : Nat) (me : Nat) (h0 : Nat) (im : Nat) (kp : Nat) (ta : Nat) (m0 : Nat) (t0 : Nat) (l0 : Nat) (V : Nat → Nat) (x : Int32) (y : Int32) (sz : Nat) : WR l yX5_sure wsX5_sure (rmR 1 21) G sz [(o, .inr (4, [.ref me, .ref h0, .ref im, .int (nI kp), .ref ta])), (h0, .inr (0, [.ref m0, .ref t0])), (t0, .inr (3, [.ref l0])), (l0, aI G 23 V)] [.ref o, .int x, .int y] [(o, .inr (4, [.ref me, .ref h0, .ref im, .int (nI kp), .ref ta])), (h0, .inr (0, [.ref m0, .ref t0])), (t0, .inr (3, [.ref l0])), (l0, aI G 23 (cSureV V x y))] (some (.int (cSureR V x y))) := by
  refine WR.start (by decide) rfl (Nat.le_of_ble_eq_true rfl) ?_
  intro p e s m below meth c hx hb hr hml hts hown hlocks hE A hA H locs hP hD hS ls hl
  have hown : s.vm.findClass RX5 = some m.cls := hown
  have hl : lv_has ls 4 [(0, .ref o), (1, .int x), (2, .int y)] := hl
  refine lv_iload_n hx hb dX5_sure_0 rfl (lv_at hl 1 rfl) ?_
  refine lv_bipush (v := nI 23) hx hb dX5_sure_1 (by decide) ?_
  refine ro_S (rest := []) ⟨hx, hb, hml, hown, hts⟩ (c_X5_isBelow l G x 23) (va_cwS 2 hts gX5_sure_X5_isBelow rfl rfl rfl (by decide +kernel) ⟨Nat.le_of_ble_eq_true rfl, Nat.le_of_ble_eq_true rfl⟩) hE (hP.sub [] rfl) rfl hl.1 rfl (Nat.le_of_ble_eq_true rfl) dX5_sure_3 ⟨Nat.zero_le _, Nat.zero_le _⟩ ?_
  refine j_bool (fun c3 => ?_) (fun c3 => ?_)
  · skip
    obtain ⟨d, hd, rfl⟩ := blw_ex c3 (by decide)
    refine j_if_eq (tgt := 18) hx hb dX5_sure_6 (by decide) (fun q => absurd q (by decide)) (fun _ => ?_)
    refine lv_iload_n hx hb dX5_sure_9 rfl (lv_at hl 2 rfl) ?_
    refine lv_bipush (v := nI 10) hx hb dX5_sure_10 (by decide) ?_
    refine ro_S (rest := []) ⟨hx, hb, hml, hown, hts⟩ (c_X5_isBelow l G y 10) (va_cwS 2 hts gX5_sure_X5_isBelow rfl rfl rfl (by decide +kernel) ⟨Nat.le_of_ble_eq_true rfl, Nat.le_of_ble_eq_true rfl⟩) hE (hP.sub [] rfl) rfl hl.1 rfl (Nat.le_of_ble_eq_true rfl) dX5_sure_12 ⟨Nat.zero_le _, Nat.zero_le _⟩ ?_
    refine j_bool (fun c12 => ?_) (fun c12 => ?_)
    · skip
      obtain ⟨j, hj, rfl⟩ := blw_ex c12 (by decide)
      refine j_if_ne (tgt := 21) hx hb dX5_sure_15 (by decide) (fun _ => ?_) (fun q => absurd q (by decide))
      refine lv_aload_n hx hb dX5_sure_21 rfl (lv_at hl 0 rfl) ?_
      refine va_get (D := G.1) (ci := 4) (v := .ref h0) (C := RX5) (T := TX5) (N := 5) hx hb hts (fun w h => List.mem_cons_of_mem _ (List.mem_append_left _ (List.mem_append_left _ (List.mem_append_right _ h)))) hown hE.1 hP 0 rfl rfl 1 (by decide) (hts (.fieldLink RX5 19 "TripleTrap" "now" "LTripleTrap$Held;") (List.mem_of_getElem? (i := 1) rfl)) (fun _ h9 => h9) rfl dX5_sure_22 ?_
      refine va_getN (host := "TripleTrap") (D := G.1) (ci := 0) (v := .ref t0) (C := RX1) (T := TX1) (N := 2) hx hb hts (fun w h => List.mem_cons_of_mem _ (List.mem_append_left _ (List.mem_append_right _ h))) hown hE.1 hP 1 rfl rfl 1 (by decide) (hE.nestB (w := .fieldLinkNest RX5 124 "TripleTrap$Held" "trust" "LTripleTrap$Trust;" "TripleTrap") 11 rfl rfl) (fun _ h9 => h9) rfl dX5_sure_25 ?_
      refine va_getN (host := "TripleTrap") (D := G.1) (ci := 3) (v := .ref l0) (C := RX4) (T := TX4) (N := 1) hx hb hts (fun w h => List.mem_cons_of_mem _ (List.mem_append_right _ h)) hown hE.1 hP 2 rfl rfl 0 (by decide) (hE.nestB (w := .fieldLinkNest RX5 128 "TripleTrap$Trust" "levels" "[I" "TripleTrap") 9 rfl rfl) (fun _ h9 => h9) rfl dX5_sure_28 ?_
      refine lv_iload_n hx hb dX5_sure_31 rfl (lv_at hl 1 rfl) ?_
      refine j_iald hx hb hE hP 3 rfl dX5_sure_32 ?_
      refine j_top (fun x33 ex33 => ?_)
      refine lv_istore_n (lv' := [(3, .int (nI x33)), (0, .ref o), (1, .int (nI d)), (2, .int (nI j))]) hx hb dX5_sure_33 rfl hl (by decide) rfl (fun ls hl => ?_)
      refine lv_aload_n hx hb dX5_sure_34 rfl (lv_at hl 1 rfl) ?_
      refine va_get (D := G.1) (ci := 4) (v := .ref h0) (C := RX5) (T := TX5) (N := 5) hx hb hts (fun w h => List.mem_cons_of_mem _ (List.mem_append_left _ (List.mem_append_left _ (List.mem_append_right _ h)))) hown hE.1 hP 0 rfl rfl 1 (by decide) (hts (.fieldLink RX5 19 "TripleTrap" "now" "LTripleTrap$Held;") (List.mem_of_getElem? (i := 1) rfl)) (fun _ h9 => h9) rfl dX5_sure_35 ?_
      refine va_getN (host := "TripleTrap") (D := G.1) (ci := 0) (v := .ref t0) (C := RX1) (T := TX1) (N := 2) hx hb hts (fun w h => List.mem_cons_of_mem _ (List.mem_append_left _ (List.mem_append_right _ h))) hown hE.1 hP 1 rfl rfl 1 (by decide) (hE.nestB (w := .fieldLinkNest RX5 124 "TripleTrap$Held" "trust" "LTripleTrap$Trust;" "TripleTrap") 11 rfl rfl) (fun _ h9 => h9) rfl dX5_sure_38 ?_
      refine va_getN (host := "TripleTrap") (D := G.1) (ci := 3) (v := .ref l0) (C := RX4) (T := TX4) (N := 1) hx hb hts (fun w h => List.mem_cons_of_mem _ (List.mem_append_right _ h)) hown hE.1 hP 2 rfl rfl 0 (by decide) (hE.nestB (w := .fieldLinkNest RX5 128 "TripleTrap$Trust" "levels" "[I" "TripleTrap") 9 rfl rfl) (fun _ h9 => h9) rfl dX5_sure_41 ?_
      refine lv_iload_n hx hb dX5_sure_44 rfl (lv_at hl 2 rfl) ?_
      refine lv_iload_n hx hb dX5_sure_45 rfl (lv_at hl 3 rfl) ?_
      refine j_iast hx hb hE hP hD hS 3 rfl dX5_sure_46 (fun H locs hP hD hS => ?_)
      have hP : va_P G.1 vwCl [(o, .inr (4, [.ref me, .ref h0, .ref im, .int (nI kp), .ref ta])), (h0, .inr (0, [.ref m0, .ref t0])), (t0, .inr (3, [.ref l0])), (l0, aI G 23 (va_up V d j))] H := hP
      have hD : va_D A [(o, .inr (4, [.ref me, .ref h0, .ref im, .int (nI kp), .ref ta])), (h0, .inr (0, [.ref m0, .ref t0])), (t0, .inr (3, [.ref l0])), (l0, aI G 23 (va_up V d j))] := hD
      refine lv_iload_n hx hb dX5_sure_47 rfl (lv_at hl 0 rfl) ?_
      have eF : va_up V d j = cSureV V (nI d) (nI j) := by rw [cSureV, if_pos ⟨c3, c12⟩, cl_nI hd (by decide), cl_nI hj (by decide)]
      rw [eF] at hP hD
      clear eF
      exact wr_ret hx hb hr hlocks dX5_sure_48 hP hD hS (by rw [cSureR, if_pos ⟨c3, c12⟩, cl_nI hd (by decide), ex33])
    · skip
      refine j_if_ne (tgt := 21) hx hb dX5_sure_15 (by decide) (fun q => absurd q (by decide)) (fun _ => ?_)
      refine lv_bipush (v := (-2)) hx hb dX5_sure_18 (by decide) ?_
      have eF : V = cSureV V (nI d) y := by rw [cSureV, if_neg (fun h => by rw [c12] at h; exact absurd h.2 (by decide))]
      rw [eF] at hP hD
      clear eF
      exact wr_ret hx hb hr hlocks dX5_sure_20 hP hD hS (by rw [cSureR, if_neg (fun h => by rw [c12] at h; exact absurd h.2 (by decide))])
  · skip
    refine j_if_eq (tgt := 18) hx hb dX5_sure_6 (by decide) (fun _ => ?_) (fun q => absurd q (by decide))
    refine lv_bipush (v := (-2)) hx hb dX5_sure_18 (by decide) ?_
    have eF : V = cSureV V x y := by rw [cSureV, if_neg (fun h => by rw [c3] at h; exact absurd h.1 (by decide))]
    rw [eF] at hP hD
    clear eF
    exact wr_ret hx hb hr hlocks dX5_sure_20 hP hD hS (by rw [cSureR, if_neg (fun h => by rw [c3] at h; exact absurd h.1 (by decide))])
set_option maxHeartbeats 4000000 in
set_option maxRecDepth 100000 in
/-- weak -/
theorem c_X5_weak (l : Launch) (G : EG) (o : Nat) (me : Nat) (h0 : Nat) (im : Nat) (kp : Nat) (ta : Nat) (m0 : Nat) (t0 : Nat) (l0 : Nat) (V : Nat → Nat) (hVb : ∀ q, q < 23 → V q ≤ 9) (x : Int32) : RO l yX5_weak wsX5_weak (rmR 1 24) G [(o, .inr (4, [.ref me, .ref h0, .ref im, .int (nI kp), .ref ta])), (h0, .inr (0, [.ref m0, .ref t0])), (t0, .inr (3, [.ref l0])), (l0, aI G 23 V)] [.ref o, .int x] (.int (cWeak V x)) := by
  refine RO.start (by decide) rfl (Nat.le_of_ble_eq_true rfl) ?_
  intro p e s m below meth c hx hb hr hml hts hown hlocks hP hE ls hl
  have hown : s.vm.findClass RX5 = some m.cls := hown
  have hl : lv_has ls 4 [(0, .ref o), (1, .int x)] := hl
  refine lv_iload_n hx hb dX5_weak_0 rfl (lv_at hl 1 rfl) ?_
  refine lv_iconst (v := nI 4) hx hb dX5_weak_1 (by decide) ?_
  refine ro_S (rest := []) ⟨hx, hb, hml, hown, hts⟩ (c_X5_isBelow l G x 4) (va_cwS 2 hts gX5_weak_X5_isBelow rfl rfl rfl (by decide +kernel) ⟨Nat.le_of_ble_eq_true rfl, Nat.le_of_ble_eq_true rfl⟩) hE (hP.sub [] rfl) rfl hl.1 rfl (Nat.le_of_ble_eq_true rfl) dX5_weak_2 ⟨Nat.zero_le _, Nat.zero_le _⟩ ?_
  refine j_bool (fun c2 => ?_) (fun c2 => ?_)
  · skip
    obtain ⟨j, hj, rfl⟩ := blw_ex c2 (by decide)
    refine j_if_ne (tgt := 11) hx hb dX5_weak_5 (by decide) (fun _ => ?_) (fun q => absurd q (by decide))
    refine lv_iconst (v := nI 0) hx hb dX5_weak_11 (by decide) ?_
    refine lv_istore_n (lv' := [(2, .int (nI 0)), (0, .ref o), (1, .int (nI j))]) hx hb dX5_weak_12 rfl hl (by decide) rfl (fun ls hl => ?_)
    refine lv_iconst (v := nI 0) hx hb dX5_weak_13 (by decide) ?_
    refine lv_istore_n (lv' := [(3, .int (nI 0)), (2, .int (nI 0)), (0, .ref o), (1, .int (nI j))]) hx hb dX5_weak_14 rfl hl (by decide) rfl (fun ls hl => ?_)
    have loop15 : ∀ (fuel : Nat) (u : Nat) (k : Nat), (k ≤ j) → (u = tkN V k) → j - k < fuel → ∀ ls : Array Slot, lv_has ls 4 [(3, .int (nI k)), (2, .int (nI u)), (0, .ref o), (1, .int (nI j))] → W p l e (rmR 1 24) s m ([.ref o, .int (nI j)] : List Value).toArray below meth c s.heap [] 0 0 (MQ below (k2_QcV (.int (cWeak V (nI j)))) ([.ref o, .int (nI j)] : List Value).toArray s 0 0 (fun _ => False)) (F0 m 15 ls []) := by
      intro fuel
      induction fuel with
      | zero => intro u k h1 h2 hf; exact absurd hf (Nat.not_lt_zero _)
      | succ fuel ih15 =>
        intro u k h1 h2 hf ls hl
        have hu : u < 8388608 := by rw [h2]; exact tkN_lt V k
        refine lv_iload_n hx hb dX5_weak_15 rfl (lv_at hl 0 rfl) ?_
        refine lv_iload_n hx hb dX5_weak_16 rfl (lv_at hl 3 rfl) ?_
        refine j_icmp_ge (tgt := 42) hx hb dX5_weak_17 (by decide) (fun c17 => ?_) (fun c17 => ?_)
        · skip
          refine lv_aload_n hx hb dX5_weak_42 rfl (lv_at hl 2 rfl) ?_
          refine va_get (D := G.1) (ci := 4) (v := .ref h0) (C := RX5) (T := TX5) (N := 5) hx hb hts (fun w h => List.mem_cons_of_mem _ (List.mem_append_left _ (List.mem_append_left _ (List.mem_append_right _ h)))) hown hE.1 hP 0 rfl rfl 1 (by decide) (hts (.fieldLink RX5 19 "TripleTrap" "now" "LTripleTrap$Held;") (List.mem_of_getElem? (i := 1) rfl)) (fun _ h9 => h9) rfl dX5_weak_43 ?_
          refine va_getN (host := "TripleTrap") (D := G.1) (ci := 0) (v := .ref t0) (C := RX1) (T := TX1) (N := 2) hx hb hts (fun w h => List.mem_cons_of_mem _ (List.mem_append_left _ (List.mem_append_right _ h))) hown hE.1 hP 1 rfl rfl 1 (by decide) (hE.nestB (w := .fieldLinkNest RX5 124 "TripleTrap$Held" "trust" "LTripleTrap$Trust;" "TripleTrap") 11 rfl rfl) (fun _ h9 => h9) rfl dX5_weak_46 ?_
          refine lv_iload_n hx hb dX5_weak_49 rfl (lv_at hl 1 rfl) ?_
          refine ro_VN 3 0 (rest := []) (host := "TripleTrap") ⟨hx, hb, hml, hown, hts⟩ (c_X4_weakestBut l G t0 l0 V hVb u (by omega)) ⟨va_cnB 1 hts gX5_weak_X4_weakestBut_n133 rfl rfl rfl (hE.nest (w := .methodLinkNest RX5 133 yX4_weakestBut "TripleTrap") 30 rfl) (hts (.initialized RX4) (List.mem_of_getElem? (i := 7) rfl)) (by decide +kernel) ⟨Nat.le_of_ble_eq_true rfl, Nat.le_of_ble_eq_true rfl⟩, hts (.instanceMethod yX4_weakestBut) (List.mem_of_getElem? (i := 6) rfl), hts (.selects RX4 yX4_weakestBut yX4_weakestBut) (List.mem_of_getElem? (i := 8) rfl)⟩ hE (hP.sub [2, 3] rfl) rfl rfl rfl hl.1 rfl (Nat.le_of_ble_eq_true rfl) dX5_weak_50 ⟨Nat.zero_le _, Nat.zero_le _⟩ ?_
          exact ro_ret hx hb hr hlocks dX5_weak_53 (by rw [cWeak, if_pos c2, cl_nI hj (by decide), wsN, show j = k by omega, ← h2])
        · skip
          refine lv_iload_n hx hb dX5_weak_20 rfl (lv_at hl 1 rfl) ?_
          refine lv_iconst (v := nI 1) hx hb dX5_weak_21 (by decide) ?_
          refine lv_aload_n hx hb dX5_weak_22 rfl (lv_at hl 2 rfl) ?_
          refine va_get (D := G.1) (ci := 4) (v := .ref h0) (C := RX5) (T := TX5) (N := 5) hx hb hts (fun w h => List.mem_cons_of_mem _ (List.mem_append_left _ (List.mem_append_left _ (List.mem_append_right _ h)))) hown hE.1 hP 0 rfl rfl 1 (by decide) (hts (.fieldLink RX5 19 "TripleTrap" "now" "LTripleTrap$Held;") (List.mem_of_getElem? (i := 1) rfl)) (fun _ h9 => h9) rfl dX5_weak_23 ?_
          refine va_getN (host := "TripleTrap") (D := G.1) (ci := 0) (v := .ref t0) (C := RX1) (T := TX1) (N := 2) hx hb hts (fun w h => List.mem_cons_of_mem _ (List.mem_append_left _ (List.mem_append_right _ h))) hown hE.1 hP 1 rfl rfl 1 (by decide) (hE.nestB (w := .fieldLinkNest RX5 124 "TripleTrap$Held" "trust" "LTripleTrap$Trust;" "TripleTrap") 11 rfl rfl) (fun _ h9 => h9) rfl dX5_weak_26 ?_
          refine lv_iload_n hx hb dX5_weak_29 rfl (lv_at hl 1 rfl) ?_
          refine ro_VN 3 0 (rest := [.int (nI 1), .int (nI u)]) (host := "TripleTrap") ⟨hx, hb, hml, hown, hts⟩ (c_X4_weakestBut l G t0 l0 V hVb u (by omega)) ⟨va_cnB 1 hts gX5_weak_X4_weakestBut_n133 rfl rfl rfl (hE.nest (w := .methodLinkNest RX5 133 yX4_weakestBut "TripleTrap") 30 rfl) (hts (.initialized RX4) (List.mem_of_getElem? (i := 7) rfl)) (by decide +kernel) ⟨Nat.le_of_ble_eq_true rfl, Nat.le_of_ble_eq_true rfl⟩, hts (.instanceMethod yX4_weakestBut) (List.mem_of_getElem? (i := 6) rfl), hts (.selects RX4 yX4_weakestBut yX4_weakestBut) (List.mem_of_getElem? (i := 8) rfl)⟩ hE (hP.sub [2, 3] rfl) rfl rfl rfl hl.1 rfl (Nat.le_of_ble_eq_true rfl) dX5_weak_30 ⟨Nat.zero_le _, Nat.zero_le _⟩ ?_
          refine j_shl hx hb dX5_weak_33 ?_ (h := Nat.lt_trans (wbN_lt _ _) (by decide))
          refine j_or hx hb dX5_weak_34 ?_
          refine j_top (fun x35 ex35 => ?_)
          refine lv_istore_n (lv' := [(2, .int (nI x35)), (3, .int (nI k)), (0, .ref o), (1, .int (nI j))]) hx hb dX5_weak_35 rfl hl (by decide) rfl (fun ls hl => ?_)
          obtain ⟨x36, ex36⟩ : ∃ y : Nat, y = k + 1 := ⟨_, rfl⟩
          refine lv_iinc (v := nI x36) (lv' := [(3, .int (nI x36)), (2, .int (nI x35)), (0, .ref o), (1, .int (nI j))]) hx hb dX5_weak_36 hl (k := 1) rfl (by rw [ex36]; exact nI_add _ _) (by decide) rfl (fun ls hl => ?_)
          refine lv_goto (tgt := 15) hx hb dX5_weak_39 (by decide) ?_
          exact ih15 x35 x36 (by omega) (by rw [ex35, ex36, tkN, ← h2]) (by omega) ls (lv_sub hl [0, 1, 2, 3] rfl)
    exact loop15 _ 0 0 (by omega) rfl (Nat.lt_succ_self _) ls (lv_sub hl [0, 1, 2, 3] rfl)
  · skip
    refine j_if_ne (tgt := 11) hx hb dX5_weak_5 (by decide) (fun q => absurd q (by decide)) (fun _ => ?_)
    refine lv_bipush (v := (-2)) hx hb dX5_weak_8 (by decide) ?_
    exact ro_ret hx hb hr hlocks dX5_weak_10 (by rw [cWeak, if_neg (by rw [c2]; decide)])
set_option maxHeartbeats 4000000 in
set_option maxRecDepth 100000 in
/-- fillTries -/
theorem c_X5_fillTries (l : Launch) (G : EG) (o : Nat) (me : Nat) (h0 : Nat) (im : Nat) (kp : Nat) (ta : Nat) (m0 : Nat) (t0 : Nat) (l0 : Nat) (et : Nat) (E : Nat → Nat) (hEb : ∀ i, i < 2048 → E i < 8388608) (V : Nat → Nat) (C : Nat → Nat) (hVb : ∀ q, q < 23 → V q ≤ 9) (hC : ∀ i, i < 16 → C i < 8388608) (w : Nat) (t : Nat) (hw : w < 8388608) (ht : t ≤ 4) (sz : Nat) : WR l yX5_fillTries wsX5_fillTries (rmR 3 65) G sz [(o, .inr (4, [.ref me, .ref h0, .ref im, .int (nI kp), .ref ta])), (me, .inr (1, [.ref et])), (et, aI G 2048 E), (h0, .inr (0, [.ref m0, .ref t0])), (t0, .inr (3, [.ref l0])), (l0, aI G 23 V), (ta, aI G 16 C)] [.ref o, .int (nI w), .int (nI t)] [(o, .inr (4, [.ref me, .ref h0, .ref im, .int (nI kp), .ref ta])), (me, .inr (1, [.ref et])), (et, aI G 2048 E), (h0, .inr (0, [.ref m0, .ref t0])), (t0, .inr (3, [.ref l0])), (l0, aI G 23 V), (ta, aI G 16 (flN E (flO V w C t) (1 <<< t)))] none := by
  refine WR.start (by decide) rfl (Nat.le_of_ble_eq_true rfl) ?_
  intro p e s m below meth c hx hb hr hml hts hown hlocks hE A hA H locs hP hD hS ls hl
  have hown : s.vm.findClass RX5 = some m.cls := hown
  have hl : lv_has ls 8 [(0, .ref o), (1, .int (nI w)), (2, .int (nI t))] := hl
  refine lv_aload_n hx hb dX5_fillTries_0 rfl (lv_at hl 0 rfl) ?_
  refine va_get (D := G.1) (ci := 4) (v := .ref ta) (C := RX5) (T := TX5) (N := 5) hx hb hts (fun w h => List.mem_cons_of_mem _ (List.mem_append_left _ (List.mem_append_left _ (List.mem_append_left _ (List.mem_append_right _ h))))) hown hE.1 hP 0 rfl rfl 4 (by decide) (hts (.fieldLink RX5 31 "TripleTrap" "tries" "[I") (List.mem_of_getElem? (i := 1) rfl)) (fun _ h9 => h9) rfl dX5_fillTries_1 ?_
  refine lv_iconst (v := nI 0) hx hb dX5_fillTries_4 (by decide) ?_
  refine lv_iload_n hx hb dX5_fillTries_5 rfl (lv_at hl 1 rfl) ?_
  refine j_iast hx hb hE hP hD hS 6 rfl dX5_fillTries_6 (fun H locs hP hD hS => ?_)
  have hP : va_P G.1 vwCl [(o, .inr (4, [.ref me, .ref h0, .ref im, .int (nI kp), .ref ta])), (me, .inr (1, [.ref et])), (et, aI G 2048 E), (h0, .inr (0, [.ref m0, .ref t0])), (t0, .inr (3, [.ref l0])), (l0, aI G 23 V), (ta, aI G 16 (va_up C 0 w))] H := hP
  have hD : va_D A [(o, .inr (4, [.ref me, .ref h0, .ref im, .int (nI kp), .ref ta])), (me, .inr (1, [.ref et])), (et, aI G 2048 E), (h0, .inr (0, [.ref m0, .ref t0])), (t0, .inr (3, [.ref l0])), (l0, aI G 23 V), (ta, aI G 16 (va_up C 0 w))] := hD
  refine lv_iconst (v := nI 0) hx hb dX5_fillTries_7 (by decide) ?_
  refine lv_istore_n (lv' := [(3, .int (nI 0)), (0, .ref o), (1, .int (nI w)), (2, .int (nI t))]) hx hb dX5_fillTries_8 rfl hl (by decide) rfl (fun ls hl => ?_)
  refine lv_iconst (v := nI 0) hx hb dX5_fillTries_9 (by decide) ?_
  refine lv_istore (lv' := [(4, .int (nI 0)), (3, .int (nI 0)), (0, .ref o), (1, .int (nI w)), (2, .int (nI t))]) hx hb dX5_fillTries_10 hl (by decide) rfl (fun ls hl => ?_)
  have loop12 : ∀ (fuel : Nat) (u : Nat) (j : Nat) (D : Nat → Nat), (j ≤ t) → (u = tkN V j) → (D = flO V w C j) → t - j < fuel → ∀ (H : Heap) (locs : List Loc), va_P G.1 vwCl [(o, .inr (4, [.ref me, .ref h0, .ref im, .int (nI kp), .ref ta])), (me, .inr (1, [.ref et])), (et, aI G 2048 E), (h0, .inr (0, [.ref m0, .ref t0])), (t0, .inr (3, [.ref l0])), (l0, aI G 23 V), (ta, aI G 16 D)] H → va_D A [(o, .inr (4, [.ref me, .ref h0, .ref im, .int (nI kp), .ref ta])), (me, .inr (1, [.ref et])), (et, aI G 2048 E), (h0, .inr (0, [.ref m0, .ref t0])), (t0, .inr (3, [.ref l0])), (l0, aI G 23 V), (ta, aI G 16 D)] → va_S A s.heap H locs → ∀ ls : Array Slot, lv_has ls 8 [(4, .int (nI j)), (3, .int (nI u)), (0, .ref o), (1, .int (nI w)), (2, .int (nI t))] → W p l e (rmR 3 65) s m ([.ref o, .int (nI w), .int (nI t)] : List Value).toArray below meth c H locs 0 0 (MQ below (postW G [(o, .inr (4, [.ref me, .ref h0, .ref im, .int (nI kp), .ref ta])), (me, .inr (1, [.ref et])), (et, aI G 2048 E), (h0, .inr (0, [.ref m0, .ref t0])), (t0, .inr (3, [.ref l0])), (l0, aI G 23 V), (ta, aI G 16 (flN E (flO V w C t) (1 <<< t)))] none A) ([.ref o, .int (nI w), .int (nI t)] : List Value).toArray s 0 0 A) (F0 m 12 ls []) := by
    intro fuel
    induction fuel with
    | zero => intro u j D h1 h2 h3 hf; exact absurd hf (Nat.not_lt_zero _)
    | succ fuel ih12 =>
      intro u j D h1 h2 h3 hf H locs hP hD hS ls hl
      have hu : u < 8388608 := by rw [h2]; exact tkN_lt V j
      refine lv_iload hx hb dX5_fillTries_12 (lv_at hl 0 rfl) ?_
      refine lv_iload_n hx hb dX5_fillTries_14 rfl (lv_at hl 4 rfl) ?_
      refine j_icmp_ge (tgt := 92) hx hb dX5_fillTries_15 (by decide) (fun c15 => ?_) (fun c15 => ?_)
      · skip
        refine lv_iconst (v := nI 0) hx hb dX5_fillTries_92 (by decide) ?_
        refine lv_istore (lv' := [(4, .int (nI 0)), (3, .int (nI u)), (0, .ref o), (1, .int (nI w)), (2, .int (nI t))]) hx hb dX5_fillTries_93 hl (by decide) rfl (fun ls hl => ?_)
        have loop95 : ∀ (fuel : Nat) (i : Nat) (D3 : Nat → Nat), (i ≤ 1 <<< t) → (D3 = flN E (flO V w C t) i) → 1 <<< t - i < fuel → ∀ (H : Heap) (locs : List Loc), va_P G.1 vwCl [(o, .inr (4, [.ref me, .ref h0, .ref im, .int (nI kp), .ref ta])), (me, .inr (1, [.ref et])), (et, aI G 2048 E), (h0, .inr (0, [.ref m0, .ref t0])), (t0, .inr (3, [.ref l0])), (l0, aI G 23 V), (ta, aI G 16 D3)] H → va_D A [(o, .inr (4, [.ref me, .ref h0, .ref im, .int (nI kp), .ref ta])), (me, .inr (1, [.ref et])), (et, aI G 2048 E), (h0, .inr (0, [.ref m0, .ref t0])), (t0, .inr (3, [.ref l0])), (l0, aI G 23 V), (ta, aI G 16 D3)] → va_S A s.heap H locs → ∀ ls : Array Slot, lv_has ls 8 [(4, .int (nI i)), (3, .int (nI u)), (0, .ref o), (1, .int (nI w)), (2, .int (nI t))] → W p l e (rmR 3 65) s m ([.ref o, .int (nI w), .int (nI t)] : List Value).toArray below meth c H locs 0 0 (MQ below (postW G [(o, .inr (4, [.ref me, .ref h0, .ref im, .int (nI kp), .ref ta])), (me, .inr (1, [.ref et])), (et, aI G 2048 E), (h0, .inr (0, [.ref m0, .ref t0])), (t0, .inr (3, [.ref l0])), (l0, aI G 23 V), (ta, aI G 16 (flN E (flO V w C t) (1 <<< t)))] none A) ([.ref o, .int (nI w), .int (nI t)] : List Value).toArray s 0 0 A) (F0 m 95 ls []) := by
          intro fuel
          induction fuel with
          | zero => intro i D3 k1 k2 hf; exact absurd hf (Nat.not_lt_zero _)
          | succ fuel ih95 =>
            intro i D3 k1 k2 hf H locs hP hD hS ls hl
            have h16 := shl16 ht
            refine lv_iload hx hb dX5_fillTries_95 (lv_at hl 0 rfl) ?_
            refine lv_iconst (v := nI 1) hx hb dX5_fillTries_97 (by decide) ?_
            refine lv_iload_n hx hb dX5_fillTries_98 rfl (lv_at hl 4 rfl) ?_
            refine j_shl hx hb dX5_fillTries_99 ?_
            refine j_icmp_ge (tgt := 137) hx hb dX5_fillTries_100 (by decide) (fun c100 => ?_) (fun c100 => ?_) (h1 := by omega) (h2 := by omega)
            · skip
              have eF : D3 = flN E (flO V w C t) (1 <<< t) := by rw [k2, show i = 1 <<< t by omega]
              rw [eF] at hP hD
              clear eF
              exact wr_vret hx hb hr hlocks dX5_fillTries_137 hP hD hS
            · skip
              refine lv_iload hx hb dX5_fillTries_103 (lv_at hl 0 rfl) ?_
              refine lv_bipush (v := nI 16) hx hb dX5_fillTries_105 (by decide) ?_
              refine j_icmp_ge (tgt := 137) hx hb dX5_fillTries_107 (by decide) (fun c107 => ?_) (fun c107 => ?_)
              · skip
                exact absurd c107 (by omega)
              · skip
                refine lv_aload_n hx hb dX5_fillTries_110 rfl (lv_at hl 2 rfl) ?_
                refine va_get (D := G.1) (ci := 4) (v := .ref ta) (C := RX5) (T := TX5) (N := 5) hx hb hts (fun w h => List.mem_cons_of_mem _ (List.mem_append_left _ (List.mem_append_left _ (List.mem_append_left _ (List.mem_append_right _ h))))) hown hE.1 hP 0 rfl rfl 4 (by decide) (hts (.fieldLink RX5 31 "TripleTrap" "tries" "[I") (List.mem_of_getElem? (i := 1) rfl)) (fun _ h9 => h9) rfl dX5_fillTries_111 ?_
                refine lv_iload hx hb dX5_fillTries_114 (lv_at hl 0 rfl) ?_
                refine lv_aload_n hx hb dX5_fillTries_116 rfl (lv_at hl 2 rfl) ?_
                refine va_get (D := G.1) (ci := 4) (v := .ref me) (C := RX5) (T := TX5) (N := 5) hx hb hts (fun w h => List.mem_cons_of_mem _ (List.mem_append_left _ (List.mem_append_left _ (List.mem_append_left _ (List.mem_append_right _ h))))) hown hE.1 hP 0 rfl rfl 0 (by decide) (hts (.fieldLink RX5 12 "TripleTrap" "mender" "LTripleTrap$Mender;") (List.mem_of_getElem? (i := 3) rfl)) (fun _ h9 => h9) rfl dX5_fillTries_117 ?_
                refine lv_aload_n hx hb dX5_fillTries_120 rfl (lv_at hl 2 rfl) ?_
                refine va_get (D := G.1) (ci := 4) (v := .ref ta) (C := RX5) (T := TX5) (N := 5) hx hb hts (fun w h => List.mem_cons_of_mem _ (List.mem_append_left _ (List.mem_append_left _ (List.mem_append_left _ (List.mem_append_right _ h))))) hown hE.1 hP 0 rfl rfl 4 (by decide) (hts (.fieldLink RX5 31 "TripleTrap" "tries" "[I") (List.mem_of_getElem? (i := 1) rfl)) (fun _ h9 => h9) rfl dX5_fillTries_121 ?_
                refine lv_iload hx hb dX5_fillTries_124 (lv_at hl 0 rfl) ?_
                refine j_iald hx hb hE hP 6 rfl dX5_fillTries_126 ?_ (hk := by omega) (hn := by decide)
                refine ro_VN 1 0 (rest := [.int (nI i), .ref ta]) (host := "TripleTrap") ⟨hx, hb, hml, hown, hts⟩ (c_X2_nearest l G me et E (D3 i) (by rw [k2]; exact flN_lt hEb (flO_lt hw hC t ht) i (by omega) i (by omega))) ⟨va_cnB 1 hts gX5_fillTries_X2_nearest_n54 rfl rfl rfl (hE.nest (w := .methodLinkNest RX5 54 yX2_nearest "TripleTrap") 14 rfl) (hts (.initialized RX2) (List.mem_of_getElem? (i := 10) rfl)) (by decide +kernel) ⟨Nat.le_of_ble_eq_true rfl, Nat.le_of_ble_eq_true rfl⟩, hts (.instanceMethod yX2_nearest) (List.mem_of_getElem? (i := 9) rfl), hts (.selects RX2 yX2_nearest yX2_nearest) (List.mem_of_getElem? (i := 11) rfl)⟩ hE (hP.sub [1, 2] rfl) rfl rfl rfl hl.1 rfl (Nat.le_of_ble_eq_true rfl) dX5_fillTries_127 ⟨Nat.zero_le _, Nat.zero_le _⟩ ?_
                refine j_iast hx hb hE hP hD hS 6 rfl dX5_fillTries_130 (fun H locs hP hD hS => ?_) (hk := by omega) (hn := by decide)
                have hP : va_P G.1 vwCl [(o, .inr (4, [.ref me, .ref h0, .ref im, .int (nI kp), .ref ta])), (me, .inr (1, [.ref et])), (et, aI G 2048 E), (h0, .inr (0, [.ref m0, .ref t0])), (t0, .inr (3, [.ref l0])), (l0, aI G 23 V), (ta, aI G 16 (va_up D3 i (nearE E (D3 i))))] H := hP
                have hD : va_D A [(o, .inr (4, [.ref me, .ref h0, .ref im, .int (nI kp), .ref ta])), (me, .inr (1, [.ref et])), (et, aI G 2048 E), (h0, .inr (0, [.ref m0, .ref t0])), (t0, .inr (3, [.ref l0])), (l0, aI G 23 V), (ta, aI G 16 (va_up D3 i (nearE E (D3 i))))] := hD
                obtain ⟨x131, ex131⟩ : ∃ y : Nat, y = i + 1 := ⟨_, rfl⟩
                refine lv_iinc (v := nI x131) (lv' := [(4, .int (nI x131)), (3, .int (nI u)), (0, .ref o), (1, .int (nI w)), (2, .int (nI t))]) hx hb dX5_fillTries_131 hl (k := 0) rfl (by rw [ex131]; exact nI_add _ _) (by decide) rfl (fun ls hl => ?_)
                refine lv_goto (tgt := 95) hx hb dX5_fillTries_134 (by decide) ?_
                exact ih95 x131 (va_up D3 i (nearE E (D3 i))) (by omega) (by rw [ex131, flN, ← k2]) (by omega) H locs hP hD hS ls (lv_sub hl [0, 1, 2, 3, 4] rfl)
        exact loop95 _ 0 D (Nat.zero_le _) (by rw [h3, show j = t by omega]; rfl) (Nat.lt_succ_self _) H locs hP hD hS ls (lv_sub hl [0, 1, 2, 3, 4] rfl)
      · skip
        refine lv_iload hx hb dX5_fillTries_18 (lv_at hl 0 rfl) ?_
        refine lv_iconst (v := nI 4) hx hb dX5_fillTries_20 (by decide) ?_
        refine j_icmp_ge (tgt := 92) hx hb dX5_fillTries_21 (by decide) (fun c21 => ?_) (fun c21 => ?_)
        · skip
          exact absurd c21 (by omega)
        · skip
          refine lv_iconst (v := nI 1) hx hb dX5_fillTries_24 (by decide) ?_
          refine lv_aload_n hx hb dX5_fillTries_25 rfl (lv_at hl 2 rfl) ?_
          refine va_get (D := G.1) (ci := 4) (v := .ref h0) (C := RX5) (T := TX5) (N := 5) hx hb hts (fun w h => List.mem_cons_of_mem _ (List.mem_append_left _ (List.mem_append_left _ (List.mem_append_left _ (List.mem_append_right _ h))))) hown hE.1 hP 0 rfl rfl 1 (by decide) (hts (.fieldLink RX5 19 "TripleTrap" "now" "LTripleTrap$Held;") (List.mem_of_getElem? (i := 2) rfl)) (fun _ h9 => h9) rfl dX5_fillTries_26 ?_
          refine va_getN (host := "TripleTrap") (D := G.1) (ci := 0) (v := .ref t0) (C := RX1) (T := TX1) (N := 2) hx hb hts (fun w h => List.mem_cons_of_mem _ (List.mem_append_left _ (List.mem_append_left _ (List.mem_append_right _ h)))) hown hE.1 hP 3 rfl rfl 1 (by decide) (hE.nestB (w := .fieldLinkNest RX5 124 "TripleTrap$Held" "trust" "LTripleTrap$Trust;" "TripleTrap") 11 rfl rfl) (fun _ h9 => h9) rfl dX5_fillTries_29 ?_
          refine lv_iload_n hx hb dX5_fillTries_32 rfl (lv_at hl 1 rfl) ?_
          refine ro_VN 3 0 (rest := [.int (nI 1)]) (host := "TripleTrap") ⟨hx, hb, hml, hown, hts⟩ (c_X4_weakestBut l G t0 l0 V hVb u (by omega)) ⟨va_cnB 1 hts gX5_fillTries_X4_weakestBut_n133 rfl rfl rfl (hE.nest (w := .methodLinkNest RX5 133 yX4_weakestBut "TripleTrap") 30 rfl) (hts (.initialized RX4) (List.mem_of_getElem? (i := 5) rfl)) (by decide +kernel) ⟨Nat.le_of_ble_eq_true rfl, Nat.le_of_ble_eq_true rfl⟩, hts (.instanceMethod yX4_weakestBut) (List.mem_of_getElem? (i := 4) rfl), hts (.selects RX4 yX4_weakestBut yX4_weakestBut) (List.mem_of_getElem? (i := 6) rfl)⟩ hE (hP.sub [4, 5] rfl) rfl rfl rfl hl.1 rfl (Nat.le_of_ble_eq_true rfl) dX5_fillTries_33 ⟨Nat.zero_le _, Nat.zero_le _⟩ ?_
          refine j_shl hx hb dX5_fillTries_36 ?_ (h := Nat.lt_trans (wbN_lt _ _) (by decide))
          refine j_top (fun x37 ex37 => ?_)
          refine lv_istore (lv' := [(5, .int (nI x37)), (4, .int (nI j)), (3, .int (nI u)), (0, .ref o), (1, .int (nI w)), (2, .int (nI t))]) hx hb dX5_fillTries_37 hl (by decide) rfl (fun ls hl => ?_)
          refine lv_iconst (v := nI 1) hx hb dX5_fillTries_39 (by decide) ?_
          refine lv_iload hx hb dX5_fillTries_40 (lv_at hl 1 rfl) ?_
          refine j_shl hx hb dX5_fillTries_42 ?_
          refine j_top (fun x43 ex43 => ?_)
          refine lv_istore (lv' := [(6, .int (nI x43)), (5, .int (nI x37)), (4, .int (nI j)), (3, .int (nI u)), (0, .ref o), (1, .int (nI w)), (2, .int (nI t))]) hx hb dX5_fillTries_43 hl (by decide) rfl (fun ls hl => ?_)
          refine lv_iconst (v := nI 0) hx hb dX5_fillTries_45 (by decide) ?_
          refine lv_istore (lv' := [(7, .int (nI 0)), (6, .int (nI x43)), (5, .int (nI x37)), (4, .int (nI j)), (3, .int (nI u)), (0, .ref o), (1, .int (nI w)), (2, .int (nI t))]) hx hb dX5_fillTries_46 hl (by decide) rfl (fun ls hl => ?_)
          have loop48 : ∀ (fuel : Nat) (k : Nat) (D2 : Nat → Nat), (k ≤ 1 <<< j) → (D2 = flI D x37 x43 k) → 1 <<< j - k < fuel → ∀ (H : Heap) (locs : List Loc), va_P G.1 vwCl [(o, .inr (4, [.ref me, .ref h0, .ref im, .int (nI kp), .ref ta])), (me, .inr (1, [.ref et])), (et, aI G 2048 E), (h0, .inr (0, [.ref m0, .ref t0])), (t0, .inr (3, [.ref l0])), (l0, aI G 23 V), (ta, aI G 16 D2)] H → va_D A [(o, .inr (4, [.ref me, .ref h0, .ref im, .int (nI kp), .ref ta])), (me, .inr (1, [.ref et])), (et, aI G 2048 E), (h0, .inr (0, [.ref m0, .ref t0])), (t0, .inr (3, [.ref l0])), (l0, aI G 23 V), (ta, aI G 16 D2)] → va_S A s.heap H locs → ∀ ls : Array Slot, lv_has ls 8 [(7, .int (nI k)), (6, .int (nI x43)), (5, .int (nI x37)), (4, .int (nI j)), (3, .int (nI u)), (0, .ref o), (1, .int (nI w)), (2, .int (nI t))] → W p l e (rmR 3 65) s m ([.ref o, .int (nI w), .int (nI t)] : List Value).toArray below meth c H locs 0 0 (MQ below (postW G [(o, .inr (4, [.ref me, .ref h0, .ref im, .int (nI kp), .ref ta])), (me, .inr (1, [.ref et])), (et, aI G 2048 E), (h0, .inr (0, [.ref m0, .ref t0])), (t0, .inr (3, [.ref l0])), (l0, aI G 23 V), (ta, aI G 16 (flN E (flO V w C t) (1 <<< t)))] none A) ([.ref o, .int (nI w), .int (nI t)] : List Value).toArray s 0 0 A) (F0 m 48 ls []) := by
            intro fuel
            induction fuel with
            | zero => intro k D2 g1 g2 hf; exact absurd hf (Nat.not_lt_zero _)
            | succ fuel ih48 =>
              intro k D2 g1 g2 hf H locs hP hD hS ls hl
              have hj8 : 1 <<< j ≤ 8 := by rw [Nat.shiftLeft_eq, Nat.one_mul]; exact (show 2 ^ j ≤ 2 ^ 3 from Nat.pow_le_pow_right (by decide) (by omega))
              refine lv_iload hx hb dX5_fillTries_48 (lv_at hl 0 rfl) ?_
              refine lv_iload hx hb dX5_fillTries_50 (lv_at hl 1 rfl) ?_
              refine j_icmp_ge (tgt := 81) hx hb dX5_fillTries_52 (by decide) (fun c52 => ?_) (fun c52 => ?_) (h1 := by omega) (h2 := by rw [ex43]; omega)
              · skip
                refine lv_iload_n hx hb dX5_fillTries_81 rfl (lv_at hl 4 rfl) ?_
                refine lv_iload hx hb dX5_fillTries_82 (lv_at hl 2 rfl) ?_
                refine j_or hx hb dX5_fillTries_84 ?_
                refine j_top (fun x85 ex85 => ?_)
                refine lv_istore_n (lv' := [(3, .int (nI x85)), (7, .int (nI k)), (6, .int (nI x43)), (5, .int (nI x37)), (4, .int (nI j)), (0, .ref o), (1, .int (nI w)), (2, .int (nI t))]) hx hb dX5_fillTries_85 rfl hl (by decide) rfl (fun ls hl => ?_)
                obtain ⟨x86, ex86⟩ : ∃ y : Nat, y = j + 1 := ⟨_, rfl⟩
                refine lv_iinc (v := nI x86) (lv' := [(4, .int (nI x86)), (3, .int (nI x85)), (7, .int (nI k)), (6, .int (nI x43)), (5, .int (nI x37)), (0, .ref o), (1, .int (nI w)), (2, .int (nI t))]) hx hb dX5_fillTries_86 hl (k := 4) rfl (by rw [ex86]; exact nI_add _ _) (by decide) rfl (fun ls hl => ?_)
                refine lv_goto (tgt := 12) hx hb dX5_fillTries_89 (by decide) ?_
                exact ih12 x85 x86 D2 (by omega) (by rw [ex85, ex86, tkN, ← h2, ex37]) (by rw [ex86, flO, ← h3, g2, show k = 1 <<< j by omega, ex37, ex43, wsN, ← h2]) (by omega) H locs hP hD hS ls (lv_sub hl [0, 1, 5, 6, 7] rfl)
              · skip
                refine lv_aload_n hx hb dX5_fillTries_55 rfl (lv_at hl 5 rfl) ?_
                refine va_get (D := G.1) (ci := 4) (v := .ref ta) (C := RX5) (T := TX5) (N := 5) hx hb hts (fun w h => List.mem_cons_of_mem _ (List.mem_append_left _ (List.mem_append_left _ (List.mem_append_left _ (List.mem_append_right _ h))))) hown hE.1 hP 0 rfl rfl 4 (by decide) (hts (.fieldLink RX5 31 "TripleTrap" "tries" "[I") (List.mem_of_getElem? (i := 1) rfl)) (fun _ h9 => h9) rfl dX5_fillTries_56 ?_
                refine lv_iload hx hb dX5_fillTries_59 (lv_at hl 1 rfl) ?_
                refine lv_iload hx hb dX5_fillTries_61 (lv_at hl 0 rfl) ?_
                refine j_add hx hb dX5_fillTries_63 ?_
                refine lv_aload_n hx hb dX5_fillTries_64 rfl (lv_at hl 5 rfl) ?_
                refine va_get (D := G.1) (ci := 4) (v := .ref ta) (C := RX5) (T := TX5) (N := 5) hx hb hts (fun w h => List.mem_cons_of_mem _ (List.mem_append_left _ (List.mem_append_left _ (List.mem_append_left _ (List.mem_append_right _ h))))) hown hE.1 hP 0 rfl rfl 4 (by decide) (hts (.fieldLink RX5 31 "TripleTrap" "tries" "[I") (List.mem_of_getElem? (i := 1) rfl)) (fun _ h9 => h9) rfl dX5_fillTries_65 ?_
                refine lv_iload hx hb dX5_fillTries_68 (lv_at hl 0 rfl) ?_
                refine j_iald hx hb hE hP 6 rfl dX5_fillTries_70 ?_ (hk := by rw [ex43] at c52; omega) (hn := by decide)
                refine lv_iload hx hb dX5_fillTries_71 (lv_at hl 2 rfl) ?_
                refine j_xor hx hb dX5_fillTries_73 ?_
                refine j_iast hx hb hE hP hD hS 6 rfl dX5_fillTries_74 (fun H locs hP hD hS => ?_) (hk := by rw [ex43] at c52 ⊢; omega) (hn := by decide)
                have hP : va_P G.1 vwCl [(o, .inr (4, [.ref me, .ref h0, .ref im, .int (nI kp), .ref ta])), (me, .inr (1, [.ref et])), (et, aI G 2048 E), (h0, .inr (0, [.ref m0, .ref t0])), (t0, .inr (3, [.ref l0])), (l0, aI G 23 V), (ta, aI G 16 (va_up D2 (x43 + k) ((D2 k) ^^^ x37)))] H := hP
                have hD : va_D A [(o, .inr (4, [.ref me, .ref h0, .ref im, .int (nI kp), .ref ta])), (me, .inr (1, [.ref et])), (et, aI G 2048 E), (h0, .inr (0, [.ref m0, .ref t0])), (t0, .inr (3, [.ref l0])), (l0, aI G 23 V), (ta, aI G 16 (va_up D2 (x43 + k) ((D2 k) ^^^ x37)))] := hD
                obtain ⟨x75, ex75⟩ : ∃ y : Nat, y = k + 1 := ⟨_, rfl⟩
                refine lv_iinc (v := nI x75) (lv' := [(7, .int (nI x75)), (6, .int (nI x43)), (5, .int (nI x37)), (4, .int (nI j)), (3, .int (nI u)), (0, .ref o), (1, .int (nI w)), (2, .int (nI t))]) hx hb dX5_fillTries_75 hl (k := 0) rfl (by rw [ex75]; exact nI_add _ _) (by decide) rfl (fun ls hl => ?_)
                refine lv_goto (tgt := 48) hx hb dX5_fillTries_78 (by decide) ?_
                exact ih48 x75 (va_up D2 (x43 + k) ((D2 k) ^^^ x37)) (by rw [ex43] at c52; omega) (by rw [ex75, flI, ← g2]) (by omega) H locs hP hD hS ls (lv_sub hl [0, 1, 2, 3, 4, 5, 6, 7] rfl)
          exact loop48 _ 0 D (Nat.zero_le _) rfl (Nat.lt_succ_self _) H locs hP hD hS ls (lv_sub hl [0, 1, 2, 3, 4, 5, 6, 7] rfl)
  exact loop12 _ 0 0 (va_up C 0 w) (by omega) rfl rfl (Nat.lt_succ_self _) H locs hP hD hS ls (lv_sub hl [0, 1, 2, 3, 4] rfl)
set_option maxHeartbeats 4000000 in
set_option maxRecDepth 100000 in
/-- bestTry -/
theorem c_X5_bestTry (l : Launch) (G : EG) (o : Nat) (me : Nat) (h0 : Nat) (im : Nat) (kp : Nat) (ta : Nat) (m0 : Nat) (t0 : Nat) (l0 : Nat) (V : Nat → Nat) (C : Nat → Nat) (hVb : ∀ q, q < 23 → V q ≤ 9) (hC : ∀ i, i < 16 → C i < 8388608) (w : Nat) (d : Nat) (hw : w < 8388608) (hd1 : 1 ≤ d) (hd : d ≤ 16) : RO l yX5_bestTry wsX5_bestTry (rmR 1 23) G [(o, .inr (4, [.ref me, .ref h0, .ref im, .int (nI kp), .ref ta])), (h0, .inr (0, [.ref m0, .ref t0])), (t0, .inr (3, [.ref l0])), (l0, aI G 23 V), (ta, aI G 16 C)] [.ref o, .int (nI w), .int (nI d)] (.int (nI ((btL V C w (d - 1)).1))) := by
  refine RO.start (by decide) rfl (Nat.le_of_ble_eq_true rfl) ?_
  intro p e s m below meth c hx hb hr hml hts hown hlocks hP hE ls hl
  have hown : s.vm.findClass RX5 = some m.cls := hown
  have hl : lv_has ls 7 [(0, .ref o), (1, .int (nI w)), (2, .int (nI d))] := hl
  refine lv_iconst (v := nI 0) hx hb dX5_bestTry_0 (by decide) ?_
  refine lv_istore_n (lv' := [(3, .int (nI 0)), (0, .ref o), (1, .int (nI w)), (2, .int (nI d))]) hx hb dX5_bestTry_1 rfl hl (by decide) rfl (fun ls hl => ?_)
  refine lv_aload_n hx hb dX5_bestTry_2 rfl (lv_at hl 1 rfl) ?_
  refine va_get (D := G.1) (ci := 4) (v := .ref h0) (C := RX5) (T := TX5) (N := 5) hx hb hts (fun w h => List.mem_cons_of_mem _ (List.mem_append_left _ (List.mem_append_left _ (List.mem_append_right _ h)))) hown hE.1 hP 0 rfl rfl 1 (by decide) (hts (.fieldLink RX5 19 "TripleTrap" "now" "LTripleTrap$Held;") (List.mem_of_getElem? (i := 1) rfl)) (fun _ h9 => h9) rfl dX5_bestTry_3 ?_
  refine va_getN (host := "TripleTrap") (D := G.1) (ci := 0) (v := .ref t0) (C := RX1) (T := TX1) (N := 2) hx hb hts (fun w h => List.mem_cons_of_mem _ (List.mem_append_left _ (List.mem_append_right _ h))) hown hE.1 hP 1 rfl rfl 1 (by decide) (hE.nestB (w := .fieldLinkNest RX5 124 "TripleTrap$Held" "trust" "LTripleTrap$Trust;" "TripleTrap") 11 rfl rfl) (fun _ h9 => h9) rfl dX5_bestTry_6 ?_
  refine lv_aload_n hx hb dX5_bestTry_9 rfl (lv_at hl 1 rfl) ?_
  refine va_get (D := G.1) (ci := 4) (v := .ref ta) (C := RX5) (T := TX5) (N := 5) hx hb hts (fun w h => List.mem_cons_of_mem _ (List.mem_append_left _ (List.mem_append_left _ (List.mem_append_right _ h)))) hown hE.1 hP 0 rfl rfl 4 (by decide) (hts (.fieldLink RX5 31 "TripleTrap" "tries" "[I") (List.mem_of_getElem? (i := 2) rfl)) (fun _ h9 => h9) rfl dX5_bestTry_10 ?_
  refine lv_iconst (v := nI 0) hx hb dX5_bestTry_13 (by decide) ?_
  refine j_iald hx hb hE hP 4 rfl dX5_bestTry_14 ?_
  refine lv_iload_n hx hb dX5_bestTry_15 rfl (lv_at hl 2 rfl) ?_
  refine j_xor hx hb dX5_bestTry_16 ?_
  refine ro_VN 3 0 (rest := []) (host := "TripleTrap") ⟨hx, hb, hml, hown, hts⟩ (c_X4_sum l G t0 l0 V ((C 0) ^^^ w) (Nat.lt_trans (bd_xor 23 (hC _ (by omega)) hw) (by decide))) ⟨va_cnB 1 hts gX5_bestTry_X4_sum_n145 rfl rfl rfl (hE.nest (w := .methodLinkNest RX5 145 yX4_sum "TripleTrap") 31 rfl) (hts (.initialized RX4) (List.mem_of_getElem? (i := 4) rfl)) (by decide +kernel) ⟨Nat.le_of_ble_eq_true rfl, Nat.le_of_ble_eq_true rfl⟩, hts (.instanceMethod yX4_sum) (List.mem_of_getElem? (i := 3) rfl), hts (.selects RX4 yX4_sum yX4_sum) (List.mem_of_getElem? (i := 5) rfl)⟩ hE (hP.sub [2, 3] rfl) rfl rfl rfl hl.1 rfl (Nat.le_of_ble_eq_true rfl) dX5_bestTry_17 ⟨Nat.zero_le _, Nat.zero_le _⟩ ?_
  refine j_top (fun x20 ex20 => ?_)
  refine lv_istore (lv' := [(4, .int (nI x20)), (3, .int (nI 0)), (0, .ref o), (1, .int (nI w)), (2, .int (nI d))]) hx hb dX5_bestTry_20 hl (by decide) rfl (fun ls hl => ?_)
  refine lv_iconst (v := nI 1) hx hb dX5_bestTry_22 (by decide) ?_
  refine lv_istore (lv' := [(5, .int (nI 1)), (4, .int (nI x20)), (3, .int (nI 0)), (0, .ref o), (1, .int (nI w)), (2, .int (nI d))]) hx hb dX5_bestTry_23 hl (by decide) rfl (fun ls hl => ?_)
  have loop25 : ∀ (fuel : Nat) (u : Nat) (t : Nat) (k : Nat), (1 ≤ k) → (k ≤ d) → (t ≤ 207) → ((u, t) = btL V C w (k - 1)) → d - k < fuel → ∀ ls : Array Slot, lv_has ls 7 [(5, .int (nI k)), (4, .int (nI t)), (3, .int (nI u)), (0, .ref o), (1, .int (nI w)), (2, .int (nI d))] → W p l e (rmR 1 23) s m ([.ref o, .int (nI w), .int (nI d)] : List Value).toArray below meth c s.heap [] 0 0 (MQ below (k2_QcV (.int (nI ((btL V C w (d - 1)).1)))) ([.ref o, .int (nI w), .int (nI d)] : List Value).toArray s 0 0 (fun _ => False)) (F0 m 25 ls []) := by
    intro fuel
    induction fuel with
    | zero => intro u t k h1 h2 h3 h4 hf; exact absurd hf (Nat.not_lt_zero _)
    | succ fuel ih25 =>
      intro u t k h1 h2 h3 h4 hf ls hl
      refine lv_iload hx hb dX5_bestTry_25 (lv_at hl 0 rfl) ?_
      refine lv_iload_n hx hb dX5_bestTry_27 rfl (lv_at hl 5 rfl) ?_
      refine j_icmp_ge (tgt := 79) hx hb dX5_bestTry_28 (by decide) (fun c28 => ?_) (fun c28 => ?_)
      · skip
        refine lv_iload_n hx hb dX5_bestTry_79 rfl (lv_at hl 2 rfl) ?_
        exact ro_ret hx hb hr hlocks dX5_bestTry_80 (by rw [show d - 1 = k - 1 by omega, ← h4])
      · skip
        refine lv_iload hx hb dX5_bestTry_31 (lv_at hl 0 rfl) ?_
        refine lv_bipush (v := nI 16) hx hb dX5_bestTry_33 (by decide) ?_
        refine j_icmp_ge (tgt := 79) hx hb dX5_bestTry_35 (by decide) (fun c35 => ?_) (fun c35 => ?_)
        · skip
          exact absurd c35 (by omega)
        · skip
          refine lv_aload_n hx hb dX5_bestTry_38 rfl (lv_at hl 3 rfl) ?_
          refine va_get (D := G.1) (ci := 4) (v := .ref h0) (C := RX5) (T := TX5) (N := 5) hx hb hts (fun w h => List.mem_cons_of_mem _ (List.mem_append_left _ (List.mem_append_left _ (List.mem_append_right _ h)))) hown hE.1 hP 0 rfl rfl 1 (by decide) (hts (.fieldLink RX5 19 "TripleTrap" "now" "LTripleTrap$Held;") (List.mem_of_getElem? (i := 1) rfl)) (fun _ h9 => h9) rfl dX5_bestTry_39 ?_
          refine va_getN (host := "TripleTrap") (D := G.1) (ci := 0) (v := .ref t0) (C := RX1) (T := TX1) (N := 2) hx hb hts (fun w h => List.mem_cons_of_mem _ (List.mem_append_left _ (List.mem_append_right _ h))) hown hE.1 hP 1 rfl rfl 1 (by decide) (hE.nestB (w := .fieldLinkNest RX5 124 "TripleTrap$Held" "trust" "LTripleTrap$Trust;" "TripleTrap") 11 rfl rfl) (fun _ h9 => h9) rfl dX5_bestTry_42 ?_
          refine lv_aload_n hx hb dX5_bestTry_45 rfl (lv_at hl 3 rfl) ?_
          refine va_get (D := G.1) (ci := 4) (v := .ref ta) (C := RX5) (T := TX5) (N := 5) hx hb hts (fun w h => List.mem_cons_of_mem _ (List.mem_append_left _ (List.mem_append_left _ (List.mem_append_right _ h)))) hown hE.1 hP 0 rfl rfl 4 (by decide) (hts (.fieldLink RX5 31 "TripleTrap" "tries" "[I") (List.mem_of_getElem? (i := 2) rfl)) (fun _ h9 => h9) rfl dX5_bestTry_46 ?_
          refine lv_iload hx hb dX5_bestTry_49 (lv_at hl 0 rfl) ?_
          refine j_iald hx hb hE hP 4 rfl dX5_bestTry_51 ?_
          refine lv_iload_n hx hb dX5_bestTry_52 rfl (lv_at hl 4 rfl) ?_
          refine j_xor hx hb dX5_bestTry_53 ?_
          refine ro_VN 3 0 (rest := []) (host := "TripleTrap") ⟨hx, hb, hml, hown, hts⟩ (c_X4_sum l G t0 l0 V ((C k) ^^^ w) (Nat.lt_trans (bd_xor 23 (hC _ (by omega)) hw) (by decide))) ⟨va_cnB 1 hts gX5_bestTry_X4_sum_n145 rfl rfl rfl (hE.nest (w := .methodLinkNest RX5 145 yX4_sum "TripleTrap") 31 rfl) (hts (.initialized RX4) (List.mem_of_getElem? (i := 4) rfl)) (by decide +kernel) ⟨Nat.le_of_ble_eq_true rfl, Nat.le_of_ble_eq_true rfl⟩, hts (.instanceMethod yX4_sum) (List.mem_of_getElem? (i := 3) rfl), hts (.selects RX4 yX4_sum yX4_sum) (List.mem_of_getElem? (i := 5) rfl)⟩ hE (hP.sub [2, 3] rfl) rfl rfl rfl hl.1 rfl (Nat.le_of_ble_eq_true rfl) dX5_bestTry_54 ⟨Nat.zero_le _, Nat.zero_le _⟩ ?_
          refine j_top (fun x57 ex57 => ?_)
          refine lv_istore (lv' := [(6, .int (nI x57)), (5, .int (nI k)), (4, .int (nI t)), (3, .int (nI u)), (0, .ref o), (1, .int (nI w)), (2, .int (nI d))]) hx hb dX5_bestTry_57 hl (by decide) rfl (fun ls hl => ?_)
          refine lv_iload hx hb dX5_bestTry_59 (lv_at hl 0 rfl) ?_
          refine lv_iload hx hb dX5_bestTry_61 (lv_at hl 2 rfl) ?_
          refine j_icmp_ge (tgt := 73) hx hb dX5_bestTry_63 (by decide) (fun c63 => ?_) (fun c63 => ?_) (h1 := by rw [ex57]; exact Nat.lt_of_le_of_lt (smL_le hVb _ 23 (by decide)) (by decide)) (h2 := by omega)
          · skip
            obtain ⟨x73, ex73⟩ : ∃ y : Nat, y = k + 1 := ⟨_, rfl⟩
            refine lv_iinc (v := nI x73) (lv' := [(5, .int (nI x73)), (6, .int (nI x57)), (4, .int (nI t)), (3, .int (nI u)), (0, .ref o), (1, .int (nI w)), (2, .int (nI d))]) hx hb dX5_bestTry_73 hl (k := 1) rfl (by rw [ex73]; exact nI_add _ _) (by decide) rfl (fun ls hl => ?_)
            refine lv_goto (tgt := 25) hx hb dX5_bestTry_76 (by decide) ?_
            exact ih25 u t x73 (by omega) (by omega) h3 (by rw [ex73, show k + 1 - 1 = (k - 1) + 1 by omega]; exact bt_f h4 (by rw [show k - 1 + 1 = k by omega, ← ex57]; exact c63)) (by omega) ls (lv_sub hl [0, 2, 3, 4, 5, 6] rfl)
          · skip
            refine lv_iload hx hb dX5_bestTry_66 (lv_at hl 0 rfl) ?_
            refine lv_istore (lv' := [(4, .int (nI x57)), (6, .int (nI x57)), (5, .int (nI k)), (3, .int (nI u)), (0, .ref o), (1, .int (nI w)), (2, .int (nI d))]) hx hb dX5_bestTry_68 hl (by decide) rfl (fun ls hl => ?_)
            refine lv_iload hx hb dX5_bestTry_70 (lv_at hl 2 rfl) ?_
            refine lv_istore_n (lv' := [(3, .int (nI k)), (4, .int (nI x57)), (6, .int (nI x57)), (5, .int (nI k)), (0, .ref o), (1, .int (nI w)), (2, .int (nI d))]) hx hb dX5_bestTry_72 rfl hl (by decide) rfl (fun ls hl => ?_)
            obtain ⟨x73, ex73⟩ : ∃ y : Nat, y = k + 1 := ⟨_, rfl⟩
            refine lv_iinc (v := nI x73) (lv' := [(5, .int (nI x73)), (3, .int (nI k)), (4, .int (nI x57)), (6, .int (nI x57)), (0, .ref o), (1, .int (nI w)), (2, .int (nI d))]) hx hb dX5_bestTry_73 hl (k := 3) rfl (by rw [ex73]; exact nI_add _ _) (by decide) rfl (fun ls hl => ?_)
            refine lv_goto (tgt := 25) hx hb dX5_bestTry_76 (by decide) ?_
            exact ih25 k x57 x73 (by omega) (by omega) (by rw [ex57]; exact smL_le hVb _ 23 (by decide)) (by rw [ex73, show k + 1 - 1 = (k - 1) + 1 by omega, ← bt_t h4 (by rw [show k - 1 + 1 = k by omega, ← ex57]; exact c63), show k - 1 + 1 = k by omega, ex57]) (by omega) ls (lv_sub hl [0, 2, 1, 4, 5, 6] rfl)
  exact loop25 _ 0 x20 1 (by omega) (by omega) (by rw [ex20]; exact smL_le hVb _ 23 (by decide)) (by rw [ex20]; rfl) (Nat.lt_succ_self _) ls (lv_sub hl [0, 1, 2, 3, 4, 5] rfl)
set_option maxHeartbeats 4000000 in
set_option maxRecDepth 100000 in
/-- isFirstOfItsWord -/
theorem c_X5_isFirstOfItsWord (l : Launch) (G : EG) (o : Nat) (me : Nat) (h0 : Nat) (im : Nat) (kp : Nat) (ta : Nat) (C : Nat → Nat) (hC : ∀ i, i < 16 → C i < 8388608) (k : Nat) (hk : k < 16) : RO l yX5_isFirstOfItsWord wsX5_isFirstOfItsWord (rmR 0 0) G [(o, .inr (4, [.ref me, .ref h0, .ref im, .int (nI kp), .ref ta])), (ta, aI G 16 C)] [.ref o, .int (nI k)] (.int (nI (uqN C k).toNat)) := by
  refine RO.start (by decide) rfl (Nat.le_of_ble_eq_true rfl) ?_
  intro p e s m below meth c hx hb hr hml hts hown hlocks hP hE ls hl
  have hown : s.vm.findClass RX5 = some m.cls := hown
  have hl : lv_has ls 3 [(0, .ref o), (1, .int (nI k))] := hl
  refine lv_iconst (v := nI 0) hx hb dX5_isFirstOfItsWord_0 (by decide) ?_
  refine lv_istore_n (lv' := [(2, .int (nI 0)), (0, .ref o), (1, .int (nI k))]) hx hb dX5_isFirstOfItsWord_1 rfl hl (by decide) rfl (fun ls hl => ?_)
  have loop2 : ∀ (fuel : Nat) (q : Nat), (q ≤ k) → (∀ i, i < q → ¬ C i = C k) → k - q < fuel → ∀ ls : Array Slot, lv_has ls 3 [(2, .int (nI q)), (0, .ref o), (1, .int (nI k))] → W p l e (rmR 0 0) s m ([.ref o, .int (nI k)] : List Value).toArray below meth c s.heap [] 0 0 (MQ below (k2_QcV (.int (nI (uqN C k).toNat))) ([.ref o, .int (nI k)] : List Value).toArray s 0 0 (fun _ => False)) (F0 m 2 ls []) := by
    intro fuel
    induction fuel with
    | zero => intro q h1 h2 hf; exact absurd hf (Nat.not_lt_zero _)
    | succ fuel ih2 =>
      intro q h1 h2 hf ls hl
      refine lv_iload_n hx hb dX5_isFirstOfItsWord_2 rfl (lv_at hl 0 rfl) ?_
      refine lv_iload_n hx hb dX5_isFirstOfItsWord_3 rfl (lv_at hl 2 rfl) ?_
      refine j_icmp_ge (tgt := 30) hx hb dX5_isFirstOfItsWord_4 (by decide) (fun c4 => ?_) (fun c4 => ?_)
      · skip
        refine lv_iconst (v := nI 1) hx hb dX5_isFirstOfItsWord_30 (by decide) ?_
        exact ro_zret hx hb hr hlocks dX5_isFirstOfItsWord_31 (by rw [uq_t (fun i hi => h2 i (by omega))]; rfl) rfl
      · skip
        refine lv_aload_n hx hb dX5_isFirstOfItsWord_7 rfl (lv_at hl 1 rfl) ?_
        refine va_get (D := G.1) (ci := 4) (v := .ref ta) (C := RX5) (T := TX5) (N := 5) hx hb hts (fun w h => List.mem_cons_of_mem _ (List.mem_append_right _ h)) hown hE.1 hP 0 rfl rfl 4 (by decide) (hts (.fieldLink RX5 31 "TripleTrap" "tries" "[I") (List.mem_of_getElem? (i := 1) rfl)) (fun _ h9 => h9) rfl dX5_isFirstOfItsWord_8 ?_
        refine lv_iload_n hx hb dX5_isFirstOfItsWord_11 rfl (lv_at hl 0 rfl) ?_
        refine j_iald hx hb hE hP 1 rfl dX5_isFirstOfItsWord_12 ?_
        refine lv_aload_n hx hb dX5_isFirstOfItsWord_13 rfl (lv_at hl 1 rfl) ?_
        refine va_get (D := G.1) (ci := 4) (v := .ref ta) (C := RX5) (T := TX5) (N := 5) hx hb hts (fun w h => List.mem_cons_of_mem _ (List.mem_append_right _ h)) hown hE.1 hP 0 rfl rfl 4 (by decide) (hts (.fieldLink RX5 31 "TripleTrap" "tries" "[I") (List.mem_of_getElem? (i := 1) rfl)) (fun _ h9 => h9) rfl dX5_isFirstOfItsWord_14 ?_
        refine lv_iload_n hx hb dX5_isFirstOfItsWord_17 rfl (lv_at hl 2 rfl) ?_
        refine j_iald hx hb hE hP 1 rfl dX5_isFirstOfItsWord_18 ?_
        refine j_icmp_ne (tgt := 24) hx hb dX5_isFirstOfItsWord_19 (by decide) (fun c19 => ?_) (fun c19 => ?_) (h1 := Nat.lt_trans (hC q (by omega)) (by decide)) (h2 := Nat.lt_trans (hC k (by omega)) (by decide))
        · skip
          obtain ⟨x24, ex24⟩ : ∃ y : Nat, y = q + 1 := ⟨_, rfl⟩
          refine lv_iinc (v := nI x24) (lv' := [(2, .int (nI x24)), (0, .ref o), (1, .int (nI k))]) hx hb dX5_isFirstOfItsWord_24 hl (k := 0) rfl (by rw [ex24]; exact nI_add _ _) (by decide) rfl (fun ls hl => ?_)
          refine lv_goto (tgt := 2) hx hb dX5_isFirstOfItsWord_27 (by decide) ?_
          exact ih2 x24 (by omega) (by rw [ex24]; exact lt_s h2 c19) (by omega) ls (lv_sub hl [0, 1, 2] rfl)
        · skip
          refine lv_iconst (v := nI 0) hx hb dX5_isFirstOfItsWord_22 (by decide) ?_
          exact ro_zret hx hb hr hlocks dX5_isFirstOfItsWord_23 (by rw [uq_f (i := q) (by omega) c19]; rfl) rfl
  exact loop2 _ 0 (by omega) (fun _ h => absurd h (Nat.not_lt_zero _)) (Nat.lt_succ_self _) ls (lv_sub hl [0, 1, 2] rfl)
set_option maxHeartbeats 4000000 in
set_option maxRecDepth 100000 in
/-- unlikeTries -/
theorem c_X5_unlikeTries (l : Launch) (G : EG) (o : Nat) (me : Nat) (h0 : Nat) (im : Nat) (kp : Nat) (ta : Nat) (C : Nat → Nat) (hC : ∀ i, i < 16 → C i < 8388608) (d : Nat) (hd : d ≤ 16) : RO l yX5_unlikeTries wsX5_unlikeTries (rmR 1 22) G [(o, .inr (4, [.ref me, .ref h0, .ref im, .int (nI kp), .ref ta])), (ta, aI G 16 C)] [.ref o, .int (nI d)] (.int (nI (unlL C d))) := by
  refine RO.start (by decide) rfl (Nat.le_of_ble_eq_true rfl) ?_
  intro p e s m below meth c hx hb hr hml hts hown hlocks hP hE ls hl
  have hown : s.vm.findClass RX5 = some m.cls := hown
  have hl : lv_has ls 4 [(0, .ref o), (1, .int (nI d))] := hl
  refine lv_iconst (v := nI 0) hx hb dX5_unlikeTries_0 (by decide) ?_
  refine lv_istore_n (lv' := [(2, .int (nI 0)), (0, .ref o), (1, .int (nI d))]) hx hb dX5_unlikeTries_1 rfl hl (by decide) rfl (fun ls hl => ?_)
  refine lv_iconst (v := nI 0) hx hb dX5_unlikeTries_2 (by decide) ?_
  refine lv_istore_n (lv' := [(3, .int (nI 0)), (2, .int (nI 0)), (0, .ref o), (1, .int (nI d))]) hx hb dX5_unlikeTries_3 rfl hl (by decide) rfl (fun ls hl => ?_)
  have loop4 : ∀ (fuel : Nat) (t : Nat) (k : Nat), (k ≤ d) → (t = unlL C k) → d - k < fuel → ∀ ls : Array Slot, lv_has ls 4 [(3, .int (nI k)), (2, .int (nI t)), (0, .ref o), (1, .int (nI d))] → W p l e (rmR 1 22) s m ([.ref o, .int (nI d)] : List Value).toArray below meth c s.heap [] 0 0 (MQ below (k2_QcV (.int (nI (unlL C d)))) ([.ref o, .int (nI d)] : List Value).toArray s 0 0 (fun _ => False)) (F0 m 4 ls []) := by
    intro fuel
    induction fuel with
    | zero => intro t k h1 h2 hf; exact absurd hf (Nat.not_lt_zero _)
    | succ fuel ih4 =>
      intro t k h1 h2 hf ls hl
      refine lv_iload_n hx hb dX5_unlikeTries_4 rfl (lv_at hl 0 rfl) ?_
      refine lv_iload_n hx hb dX5_unlikeTries_5 rfl (lv_at hl 3 rfl) ?_
      refine j_icmp_ge (tgt := 32) hx hb dX5_unlikeTries_6 (by decide) (fun c6 => ?_) (fun c6 => ?_)
      · skip
        refine lv_iload_n hx hb dX5_unlikeTries_32 rfl (lv_at hl 1 rfl) ?_
        exact ro_ret hx hb hr hlocks dX5_unlikeTries_33 (by rw [h2, show k = d by omega])
      · skip
        refine lv_iload_n hx hb dX5_unlikeTries_9 rfl (lv_at hl 0 rfl) ?_
        refine lv_bipush (v := nI 16) hx hb dX5_unlikeTries_10 (by decide) ?_
        refine j_icmp_ge (tgt := 32) hx hb dX5_unlikeTries_12 (by decide) (fun c12 => ?_) (fun c12 => ?_)
        · skip
          exact absurd c12 (by omega)
        · skip
          refine lv_aload_n hx hb dX5_unlikeTries_15 rfl (lv_at hl 2 rfl) ?_
          refine lv_iload_n hx hb dX5_unlikeTries_16 rfl (lv_at hl 0 rfl) ?_
          refine ro_V 4 0 (rest := []) ⟨hx, hb, hml, hown, hts⟩ (c_X5_isFirstOfItsWord l G o me h0 im kp ta C hC k (by omega)) (cwV 1 hts gX5_unlikeTries_X5_isFirstOfItsWord rfl rfl rfl (by decide +kernel) ⟨Nat.le_of_ble_eq_true rfl, Nat.le_of_ble_eq_true rfl⟩) hE (hP.sub [0, 1] rfl) rfl rfl rfl hl.1 rfl (Nat.le_of_ble_eq_true rfl) dX5_unlikeTries_17 ⟨Nat.zero_le _, Nat.zero_le _⟩ ?_
          refine j_bool (fun c17 => ?_) (fun c17 => ?_)
          · skip
            refine j_if_eq (tgt := 26) hx hb dX5_unlikeTries_20 (by decide) (fun q => absurd q (by decide)) (fun _ => ?_)
            obtain ⟨x23, ex23⟩ : ∃ y : Nat, y = t + 1 := ⟨_, rfl⟩
            refine lv_iinc (v := nI x23) (lv' := [(2, .int (nI x23)), (3, .int (nI k)), (0, .ref o), (1, .int (nI d))]) hx hb dX5_unlikeTries_23 hl (k := 1) rfl (by rw [ex23]; exact nI_add _ _) (by decide) rfl (fun ls hl => ?_)
            obtain ⟨x26, ex26⟩ : ∃ y : Nat, y = k + 1 := ⟨_, rfl⟩
            refine lv_iinc (v := nI x26) (lv' := [(3, .int (nI x26)), (2, .int (nI x23)), (0, .ref o), (1, .int (nI d))]) hx hb dX5_unlikeTries_26 hl (k := 1) rfl (by rw [ex26]; exact nI_add _ _) (by decide) rfl (fun ls hl => ?_)
            refine lv_goto (tgt := 4) hx hb dX5_unlikeTries_29 (by decide) ?_
            exact ih4 x23 x26 (by omega) (by rw [ex23, ex26, unlL, c17, ← h2]; rfl) (by omega) ls (lv_sub hl [0, 1, 2, 3] rfl)
          · skip
            refine j_if_eq (tgt := 26) hx hb dX5_unlikeTries_20 (by decide) (fun _ => ?_) (fun q => absurd q (by decide))
            obtain ⟨x26, ex26⟩ : ∃ y : Nat, y = k + 1 := ⟨_, rfl⟩
            refine lv_iinc (v := nI x26) (lv' := [(3, .int (nI x26)), (2, .int (nI t)), (0, .ref o), (1, .int (nI d))]) hx hb dX5_unlikeTries_26 hl (k := 0) rfl (by rw [ex26]; exact nI_add _ _) (by decide) rfl (fun ls hl => ?_)
            refine lv_goto (tgt := 4) hx hb dX5_unlikeTries_29 (by decide) ?_
            exact ih4 t x26 (by omega) (by rw [ex26, unlL, c17, ← h2]; rfl) (by omega) ls (lv_sub hl [0, 1, 2, 3] rfl)
  exact loop4 _ 0 0 (by omega) rfl (Nat.lt_succ_self _) ls (lv_sub hl [0, 1, 2, 3] rfl)
set_option maxHeartbeats 4000000 in
set_option maxRecDepth 100000 in
/-- chosen -/
theorem c_X5_chosen (l : Launch) (G : EG) (o : Nat) (me : Nat) (h0 : Nat) (im : Nat) (kp : Nat) (ta : Nat) (m0 : Nat) (t0 : Nat) (l0 : Nat) (et : Nat) (E : Nat → Nat) (hEb : ∀ i, i < 2048 → E i < 8388608) (V : Nat → Nat) (C : Nat → Nat) (hVb : ∀ q, q < 23 → V q ≤ 9) (hC : ∀ i, i < 16 → C i < 8388608) (x : Int32) (y : Int32) (z : Int32) (sz : Nat) : WR l yX5_chosen wsX5_chosen (rmR 4 92) G sz [(o, .inr (4, [.ref me, .ref h0, .ref im, .int (nI kp), .ref ta])), (me, .inr (1, [.ref et])), (et, aI G 2048 E), (h0, .inr (0, [.ref m0, .ref t0])), (t0, .inr (3, [.ref l0])), (l0, aI G 23 V), (ta, aI G 16 C)] [.ref o, .int x, .int y, .int z] [(o, .inr (4, [.ref me, .ref h0, .ref im, .int (nI kp), .ref ta])), (me, .inr (1, [.ref et])), (et, aI G 2048 E), (h0, .inr (0, [.ref m0, .ref t0])), (t0, .inr (3, [.ref l0])), (l0, aI G 23 V), (ta, aI G 16 (cChosenC E V C x y z))] (some (.int (cChosen E V C x y z))) := by
  refine WR.start (by decide) rfl (Nat.le_of_ble_eq_true rfl) ?_
  intro p e s m below meth c hx hb hr hml hts hown hlocks hE A hA H locs hP hD hS ls hl
  have hown : s.vm.findClass RX5 = some m.cls := hown
  have hl : lv_has ls 6 [(0, .ref o), (1, .int x), (2, .int y), (3, .int z)] := hl
  refine lv_iload_n hx hb dX5_chosen_0 rfl (lv_at hl 1 rfl) ?_
  refine lv_ldc (v := nI 8388608) hx hb hown (hts (.constant RX5 45 (nI 8388608)) (List.mem_of_getElem? (i := 1) rfl)) dX5_chosen_1 ?_
  refine ro_S (rest := []) ⟨hx, hb, hml, hown, hts⟩ (c_X5_isBelow l G x 8388608) (va_cwS 2 hts gX5_chosen_X5_isBelow rfl rfl rfl (by decide +kernel) ⟨Nat.le_of_ble_eq_true rfl, Nat.le_of_ble_eq_true rfl⟩) hE (hP.sub [] rfl) rfl hl.1 rfl (Nat.le_of_ble_eq_true rfl) dX5_chosen_3 ⟨Nat.zero_le _, Nat.zero_le _⟩ ?_
  refine j_bool (fun c3 => ?_) (fun c3 => ?_)
  · skip
    obtain ⟨w, hw, rfl⟩ := blw_ex c3 (by decide)
    refine j_if_eq (tgt := 25) hx hb dX5_chosen_6 (by decide) (fun q => absurd q (by decide)) (fun _ => ?_)
    refine lv_iload_n hx hb dX5_chosen_9 rfl (lv_at hl 2 rfl) ?_
    refine lv_iconst (v := nI 5) hx hb dX5_chosen_10 (by decide) ?_
    refine ro_S (rest := []) ⟨hx, hb, hml, hown, hts⟩ (c_X5_isBelow l G y 5) (va_cwS 2 hts gX5_chosen_X5_isBelow rfl rfl rfl (by decide +kernel) ⟨Nat.le_of_ble_eq_true rfl, Nat.le_of_ble_eq_true rfl⟩) hE (hP.sub [] rfl) rfl hl.1 rfl (Nat.le_of_ble_eq_true rfl) dX5_chosen_11 ⟨Nat.zero_le _, Nat.zero_le _⟩ ?_
    refine j_bool (fun c11 => ?_) (fun c11 => ?_)
    · skip
      obtain ⟨t, ht, rfl⟩ := blw_ex c11 (by decide)
      refine j_if_eq (tgt := 25) hx hb dX5_chosen_14 (by decide) (fun q => absurd q (by decide)) (fun _ => ?_)
      refine lv_iload_n hx hb dX5_chosen_17 rfl (lv_at hl 3 rfl) ?_
      refine lv_iconst (v := nI 4) hx hb dX5_chosen_18 (by decide) ?_
      refine ro_S (rest := []) ⟨hx, hb, hml, hown, hts⟩ (c_X5_isBelow l G z 4) (va_cwS 2 hts gX5_chosen_X5_isBelow rfl rfl rfl (by decide +kernel) ⟨Nat.le_of_ble_eq_true rfl, Nat.le_of_ble_eq_true rfl⟩) hE (hP.sub [] rfl) rfl hl.1 rfl (Nat.le_of_ble_eq_true rfl) dX5_chosen_19 ⟨Nat.zero_le _, Nat.zero_le _⟩ ?_
      refine j_bool (fun c19 => ?_) (fun c19 => ?_)
      · skip
        obtain ⟨j, hj, rfl⟩ := blw_ex c19 (by decide)
        refine j_if_ne (tgt := 28) hx hb dX5_chosen_22 (by decide) (fun _ => ?_) (fun q => absurd q (by decide))
        refine lv_iconst (v := nI 1) hx hb dX5_chosen_28 (by decide) ?_
        refine lv_iload_n hx hb dX5_chosen_29 rfl (lv_at hl 2 rfl) ?_
        refine j_shl hx hb dX5_chosen_30 ?_
        refine j_top (fun x31 ex31 => ?_)
        refine lv_istore (lv' := [(4, .int (nI x31)), (0, .ref o), (1, .int (nI w)), (2, .int (nI t)), (3, .int (nI j))]) hx hb dX5_chosen_31 hl (by decide) rfl (fun ls hl => ?_)
        refine lv_aload_n hx hb dX5_chosen_33 rfl (lv_at hl 1 rfl) ?_
        refine lv_iload_n hx hb dX5_chosen_34 rfl (lv_at hl 2 rfl) ?_
        refine lv_iload_n hx hb dX5_chosen_35 rfl (lv_at hl 3 rfl) ?_
        refine wr_V 4 0 (rest := []) (wr := []) ⟨hx, hb, hml, hown, hts⟩ (c_X5_fillTries l G o me h0 im kp ta m0 t0 l0 et E hEb V C hVb hC w t (by omega) (by omega) H.size) (cwV 2 hts gX5_chosen_X5_fillTries rfl rfl rfl (by decide +kernel) ⟨Nat.le_of_ble_eq_true rfl, Nat.le_of_ble_eq_true rfl⟩) hE hP hD hS hA [0, 1, 2, 3, 4, 5, 6] [] rfl rfl (by decide) (by decide) (by decide) rfl rfl rfl hl.1 rfl (Nat.le_of_ble_eq_true rfl) dX5_chosen_36 ⟨Nat.zero_le _, Nat.zero_le _⟩ (fun H locs hP hD hS => ?_)
        have hP : va_P G.1 vwCl [(o, .inr (4, [.ref me, .ref h0, .ref im, .int (nI kp), .ref ta])), (me, .inr (1, [.ref et])), (et, aI G 2048 E), (h0, .inr (0, [.ref m0, .ref t0])), (t0, .inr (3, [.ref l0])), (l0, aI G 23 V), (ta, aI G 16 (flN E (flO V w C t) (1 <<< t)))] H := hP.sub [0, 1, 2, 3, 4, 5, 6] rfl
        have hD : va_D A [(o, .inr (4, [.ref me, .ref h0, .ref im, .int (nI kp), .ref ta])), (me, .inr (1, [.ref et])), (et, aI G 2048 E), (h0, .inr (0, [.ref m0, .ref t0])), (t0, .inr (3, [.ref l0])), (l0, aI G 23 V), (ta, aI G 16 (flN E (flO V w C t) (1 <<< t)))] := hD.sub [0, 1, 2, 3, 4, 5, 6] (by decide) rfl
        obtain ⟨D, eD⟩ : ∃ z : Nat → Nat, z = flN E (flO V w C t) (1 <<< t) := ⟨_, rfl⟩
        rw [← eD] at hP hD
        have h16 := shl16 (show t ≤ 4 by omega)
        have hDb : ∀ i, i < 16 → D i < 8388608 := by rw [eD]; exact flN_lt hEb (flO_lt hw hC t (by omega)) _ h16
        have h01 : 1 ≤ 1 <<< t := by rw [Nat.shiftLeft_eq, Nat.one_mul]; exact Nat.one_le_two_pow
        refine lv_iload_n hx hb dX5_chosen_39 rfl (lv_at hl 4 rfl) ?_
        refine lv_iconst (v := nI 3) hx hb dX5_chosen_40 (by decide) ?_
        refine j_icmp_ne (tgt := 51) hx hb dX5_chosen_41 (by decide) (fun c41 => ?_) (fun c41 => ?_)
        · skip
          refine lv_aload_n hx hb dX5_chosen_51 rfl (lv_at hl 1 rfl) ?_
          refine lv_iload_n hx hb dX5_chosen_52 rfl (lv_at hl 2 rfl) ?_
          refine lv_iload hx hb dX5_chosen_53 (lv_at hl 0 rfl) ?_
          refine ro_V 4 0 (rest := []) ⟨hx, hb, hml, hown, hts⟩ (c_X5_bestTry l G o me h0 im kp ta m0 t0 l0 V D hVb hDb w x31 (by omega) (by rw [ex31]; exact h01) (by rw [ex31]; exact h16)) (cwV 2 hts gX5_chosen_X5_bestTry rfl rfl rfl (by decide +kernel) ⟨Nat.le_of_ble_eq_true rfl, Nat.le_of_ble_eq_true rfl⟩) hE (hP.sub [0, 3, 4, 5, 6] rfl) rfl rfl rfl hl.1 rfl (Nat.le_of_ble_eq_true rfl) dX5_chosen_55 ⟨Nat.zero_le _, Nat.zero_le _⟩ ?_
          refine j_top (fun x58 ex58 => ?_)
          refine lv_istore (lv' := [(5, .int (nI x58)), (4, .int (nI x31)), (0, .ref o), (1, .int (nI w)), (2, .int (nI t)), (3, .int (nI j))]) hx hb dX5_chosen_58 hl (by decide) rfl (fun ls hl => ?_)
          have hbb : x58 ≤ 1 <<< t - 1 := by rw [ex58, ex31]; exact btL_le _ _ _ _
          refine lv_iload_n hx hb dX5_chosen_60 rfl (lv_at hl 5 rfl) ?_
          refine lv_iconst (v := nI 2) hx hb dX5_chosen_61 (by decide) ?_
          refine j_icmp_ne (tgt := 68) hx hb dX5_chosen_62 (by decide) (fun c62 => ?_) (fun c62 => ?_)
          · skip
            refine lv_iload_n hx hb dX5_chosen_68 rfl (lv_at hl 5 rfl) ?_
            refine j_if_ne (tgt := 82) hx hb dX5_chosen_69 (by decide) (fun c69 => ?_) (fun c69 => ?_)
            · skip
              refine lv_aload_n hx hb dX5_chosen_82 rfl (lv_at hl 2 rfl) ?_
              refine va_get (D := G.1) (ci := 4) (v := .ref h0) (C := RX5) (T := TX5) (N := 5) hx hb hts (fun w h => List.mem_cons_of_mem _ (List.mem_append_left _ (List.mem_append_left _ (List.mem_append_left _ (List.mem_append_right _ h))))) hown hE.1 hP 0 rfl rfl 1 (by decide) (hts (.fieldLink RX5 19 "TripleTrap" "now" "LTripleTrap$Held;") (List.mem_of_getElem? (i := 3) rfl)) (fun _ h9 => h9) rfl dX5_chosen_83 ?_
              refine va_getN (host := "TripleTrap") (D := G.1) (ci := 0) (v := .ref t0) (C := RX1) (T := TX1) (N := 2) hx hb hts (fun w h => List.mem_cons_of_mem _ (List.mem_append_left _ (List.mem_append_left _ (List.mem_append_right _ h)))) hown hE.1 hP 3 rfl rfl 1 (by decide) (hE.nestB (w := .fieldLinkNest RX5 124 "TripleTrap$Held" "trust" "LTripleTrap$Trust;" "TripleTrap") 11 rfl rfl) (fun _ h9 => h9) rfl dX5_chosen_86 ?_
              refine lv_aload_n hx hb dX5_chosen_89 rfl (lv_at hl 2 rfl) ?_
              refine va_get (D := G.1) (ci := 4) (v := .ref ta) (C := RX5) (T := TX5) (N := 5) hx hb hts (fun w h => List.mem_cons_of_mem _ (List.mem_append_left _ (List.mem_append_left _ (List.mem_append_left _ (List.mem_append_right _ h))))) hown hE.1 hP 0 rfl rfl 4 (by decide) (hts (.fieldLink RX5 31 "TripleTrap" "tries" "[I") (List.mem_of_getElem? (i := 2) rfl)) (fun _ h9 => h9) rfl dX5_chosen_90 ?_
              refine lv_iload hx hb dX5_chosen_93 (lv_at hl 0 rfl) ?_
              refine j_iald hx hb hE hP 6 rfl dX5_chosen_95 ?_
              refine lv_iload_n hx hb dX5_chosen_96 rfl (lv_at hl 3 rfl) ?_
              refine j_xor hx hb dX5_chosen_97 ?_
              refine ro_VN 3 0 (rest := []) (host := "TripleTrap") ⟨hx, hb, hml, hown, hts⟩ (c_X4_sum l G t0 l0 V ((D x58) ^^^ w) (Nat.lt_trans (bd_xor 23 (hDb _ (by omega)) hw) (by decide))) ⟨va_cnB 1 hts gX5_chosen_X4_sum_n145 rfl rfl rfl (hE.nest (w := .methodLinkNest RX5 145 yX4_sum "TripleTrap") 31 rfl) (hts (.initialized RX4) (List.mem_of_getElem? (i := 14) rfl)) (by decide +kernel) ⟨Nat.le_of_ble_eq_true rfl, Nat.le_of_ble_eq_true rfl⟩, hts (.instanceMethod yX4_sum) (List.mem_of_getElem? (i := 42) rfl), hts (.selects RX4 yX4_sum yX4_sum) (List.mem_of_getElem? (i := 43) rfl)⟩ hE (hP.sub [4, 5] rfl) rfl rfl rfl hl.1 rfl (Nat.le_of_ble_eq_true rfl) dX5_chosen_98 ⟨Nat.zero_le _, Nat.zero_le _⟩ ?_
              have eF : D = cChosenC E V C (nI w) (nI t) (nI j) := by rw [cChosenC, if_pos ⟨c3, c11, c19⟩, cl_nI hw (by decide), cl_nI ht (by decide), eD]
              rw [eF] at hP hD
              clear eF
              exact wr_ret hx hb hr hlocks dX5_chosen_101 hP hD hS (by rw [cChosen, if_pos ⟨c3, c11, c19⟩, cl_nI hw (by decide), cl_nI ht (by decide), cl_nI hj (by decide), ← eD, chcV, if_neg c41, if_neg c62, if_neg c69, ex58, ex31])
            · skip
              refine lv_aload_n hx hb dX5_chosen_72 rfl (lv_at hl 2 rfl) ?_
              refine va_get (D := G.1) (ci := 4) (v := .ref ta) (C := RX5) (T := TX5) (N := 5) hx hb hts (fun w h => List.mem_cons_of_mem _ (List.mem_append_left _ (List.mem_append_left _ (List.mem_append_left _ (List.mem_append_right _ h))))) hown hE.1 hP 0 rfl rfl 4 (by decide) (hts (.fieldLink RX5 31 "TripleTrap" "tries" "[I") (List.mem_of_getElem? (i := 2) rfl)) (fun _ h9 => h9) rfl dX5_chosen_73 ?_
              refine lv_iload hx hb dX5_chosen_76 (lv_at hl 0 rfl) ?_
              refine j_iald hx hb hE hP 6 rfl dX5_chosen_78 ?_
              refine lv_goto (tgt := 101) hx hb dX5_chosen_79 (by decide) ?_
              have eF : D = cChosenC E V C (nI w) (nI t) (nI j) := by rw [cChosenC, if_pos ⟨c3, c11, c19⟩, cl_nI hw (by decide), cl_nI ht (by decide), eD]
              rw [eF] at hP hD
              clear eF
              exact wr_ret hx hb hr hlocks dX5_chosen_101 hP hD hS (by rw [cChosen, if_pos ⟨c3, c11, c19⟩, cl_nI hw (by decide), cl_nI ht (by decide), cl_nI hj (by decide), ← eD, chcV, if_neg c41, if_neg c62, if_pos c69, ex58, ex31])
          · skip
            refine lv_iload hx hb dX5_chosen_65 (lv_at hl 0 rfl) ?_
            have eF : D = cChosenC E V C (nI w) (nI t) (nI j) := by rw [cChosenC, if_pos ⟨c3, c11, c19⟩, cl_nI hw (by decide), cl_nI ht (by decide), eD]
            rw [eF] at hP hD
            clear eF
            exact wr_ret hx hb hr hlocks dX5_chosen_67 hP hD hS (by rw [cChosen, if_pos ⟨c3, c11, c19⟩, cl_nI hw (by decide), cl_nI ht (by decide), cl_nI hj (by decide), ← eD, chcV, if_neg c41, if_pos c62, ex58, ex31])
        · skip
          refine lv_aload_n hx hb dX5_chosen_44 rfl (lv_at hl 1 rfl) ?_
          refine lv_iload hx hb dX5_chosen_45 (lv_at hl 0 rfl) ?_
          refine ro_V 4 0 (rest := []) ⟨hx, hb, hml, hown, hts⟩ (c_X5_unlikeTries l G o me h0 im kp ta D hDb x31 (by rw [ex31]; exact h16)) (cwV 1 hts gX5_chosen_X5_unlikeTries rfl rfl rfl (by decide +kernel) ⟨Nat.le_of_ble_eq_true rfl, Nat.le_of_ble_eq_true rfl⟩) hE (hP.sub [0, 6] rfl) rfl rfl rfl hl.1 rfl (Nat.le_of_ble_eq_true rfl) dX5_chosen_47 ⟨Nat.zero_le _, Nat.zero_le _⟩ ?_
          have eF : D = cChosenC E V C (nI w) (nI t) (nI j) := by rw [cChosenC, if_pos ⟨c3, c11, c19⟩, cl_nI hw (by decide), cl_nI ht (by decide), eD]
          rw [eF] at hP hD
          clear eF
          exact wr_ret hx hb hr hlocks dX5_chosen_50 hP hD hS (by rw [cChosen, if_pos ⟨c3, c11, c19⟩, cl_nI hw (by decide), cl_nI ht (by decide), cl_nI hj (by decide), ← eD, chcV, if_pos c41, ex31])
      · skip
        refine j_if_ne (tgt := 28) hx hb dX5_chosen_22 (by decide) (fun q => absurd q (by decide)) (fun _ => ?_)
        refine lv_bipush (v := (-2)) hx hb dX5_chosen_25 (by decide) ?_
        have eF : C = cChosenC E V C (nI w) (nI t) z := by rw [cChosenC, if_neg (fun h => by rw [c19] at h; exact absurd h.2.2 (by decide))]
        rw [eF] at hP hD
        clear eF
        exact wr_ret hx hb hr hlocks dX5_chosen_27 hP hD hS (by rw [cChosen, if_neg (fun h => by rw [c19] at h; exact absurd h.2.2 (by decide))])
    · skip
      refine j_if_eq (tgt := 25) hx hb dX5_chosen_14 (by decide) (fun _ => ?_) (fun q => absurd q (by decide))
      refine lv_bipush (v := (-2)) hx hb dX5_chosen_25 (by decide) ?_
      have eF : C = cChosenC E V C (nI w) y z := by rw [cChosenC, if_neg (fun h => by rw [c11] at h; exact absurd h.2.1 (by decide))]
      rw [eF] at hP hD
      clear eF
      exact wr_ret hx hb hr hlocks dX5_chosen_27 hP hD hS (by rw [cChosen, if_neg (fun h => by rw [c11] at h; exact absurd h.2.1 (by decide))])
  · skip
    refine j_if_eq (tgt := 25) hx hb dX5_chosen_6 (by decide) (fun _ => ?_) (fun q => absurd q (by decide))
    refine lv_bipush (v := (-2)) hx hb dX5_chosen_25 (by decide) ?_
    have eF : C = cChosenC E V C x y z := by rw [cChosenC, if_neg (fun h => by rw [c3] at h; exact absurd h.1 (by decide))]
    rw [eF] at hP hD
    clear eF
    exact wr_ret hx hb hr hlocks dX5_chosen_27 hP hD hS (by rw [cChosen, if_neg (fun h => by rw [c3] at h; exact absurd h.1 (by decide))])
