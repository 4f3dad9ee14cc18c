set_option maxHeartbeats 4000000 in
set_option maxRecDepth 100000 in
/-- image 0 -/
theorem c_X5_image_0 (l : Launch) (G : EG) (o : Nat) (me : Nat) (h0 : Nat) (im : Nat) (kp : Nat) (ta : Nat) (h2 : Nat) (m0 : Nat) (n0 : Nat) (f0 : Nat) (s0 : Nat) (b0 : Nat) (t0 : Nat) (l0 : Nat) (h1 : Nat) (m1 : Nat) (n1 : Nat) (f1 : Nat) (s1 : Nat) (b1 : Nat) (t1 : Nat) (l1 : Nat) (F : Nat → Nat) (S : Nat → Nat) (B : Nat → Nat) (V : Nat → Nat) (F1 : Nat → Nat) (S1 : Nat → Nat) (B1 : Nat → Nat) (V1 : Nat → Nat) (sz : Nat) : WR l yX5_image wsX5_image (rmR 2 43) G sz [(o, .inr (4, [.ref me, .ref h0, .ref im, .int (nI kp), .ref ta])), (im, aO G 2 (imF h1 h2)), (h0, .inr (0, [.ref m0, .ref t0])), (m0, .inr (2, [.int (nI n0), .ref f0, .ref s0, .ref b0])), (f0, aI G 8 F), (s0, aI G 8 S), (b0, aI G 8 B), (t0, .inr (3, [.ref l0])), (l0, aI G 23 V), (h1, .inr (0, [.ref m1, .ref t1])), (m1, .inr (2, [.int (nI n1), .ref f1, .ref s1, .ref b1])), (f1, aI G 8 F1), (s1, aI G 8 S1), (b1, aI G 8 B1), (t1, .inr (3, [.ref l1])), (l1, aI G 23 V1)] [.ref o, .int (nI 0)] [(o, .inr (4, [.ref me, .ref h0, .ref im, .int (nI (kp ||| 1 <<< 0)), .ref ta])), (im, aO G 2 (imF h1 h2)), (h0, .inr (0, [.ref m0, .ref t0])), (m0, .inr (2, [.int (nI n0), .ref f0, .ref s0, .ref b0])), (f0, aI G 8 F), (s0, aI G 8 S), (b0, aI G 8 B), (t0, .inr (3, [.ref l0])), (l0, aI G 23 V), (h1, .inr (0, [.ref m1, .ref t1])), (m1, .inr (2, [.int (nI n0), .ref f1, .ref s1, .ref b1])), (f1, aI G 8 F), (s1, aI G 8 S), (b1, aI G 8 B), (t1, .inr (3, [.ref l1])), (l1, aI G 23 V)] (some (.int (nI 1))) := by
  refine WR.start (by decide) rfl (Nat.le_of_ble_eq_true rfl) ?_
  intro p e s m below meth c hx hb hr hml hts hown hlocks hE A hA H locs hP hD hS ls hl
  have hown : s.vm.findClass RX5 = some m.cls := hown
  have hl : lv_has ls 2 [(0, .ref o), (1, .int (nI 0))] := hl
  refine lv_iload_n hx hb dX5_image_0 rfl (lv_at hl 1 rfl) ?_
  refine lv_iconst (v := nI 2) hx hb dX5_image_1 (by decide) ?_
  refine ro_S (rest := []) ⟨hx, hb, hml, hown, hts⟩ (c_X5_isBelow l G (nI 0) 2) (va_cwS 2 hts gX5_image_X5_isBelow rfl rfl rfl (by decide +kernel) ⟨Nat.le_of_ble_eq_true rfl, Nat.le_of_ble_eq_true rfl⟩) hE (hP.sub [] rfl) rfl hl.1 rfl (Nat.le_of_ble_eq_true rfl) dX5_image_2 ⟨Nat.zero_le _, Nat.zero_le _⟩ ?_
  refine j_bool (fun c2 => ?_) (fun c2 => ?_)
  · skip
    refine j_if_ne (tgt := 11) hx hb dX5_image_5 (by decide) (fun _ => ?_) (fun q => absurd q (by decide))
    refine lv_aload_n hx hb dX5_image_11 rfl (lv_at hl 0 rfl) ?_
    refine va_get (D := G.1) (ci := 4) (v := .ref im) (C := RX5) (T := TX5) (N := 5) hx hb hts (fun w h => List.mem_cons_of_mem _ (List.mem_append_left _ (List.mem_append_left _ (List.mem_append_left _ (List.mem_append_right _ h))))) hown hE.1 hP 0 rfl rfl 2 (by decide) (hts (.fieldLink RX5 23 "TripleTrap" "images" "[LTripleTrap$Held;") (List.mem_of_getElem? (i := 1) rfl)) (fun _ h9 => h9) rfl dX5_image_12 ?_
    refine lv_iload_n hx hb dX5_image_15 rfl (lv_at hl 1 rfl) ?_
    refine va_aldq hx hb hE.1 hP 1 2 rfl rfl (vp_in_nI (by omega) (by omega)) dX5_image_16 ?_
    rw [nI_clamp (by omega), show (imF h1 h2) 0 = some h1 from rfl]
    refine lv_aload_n hx hb dX5_image_17 rfl (lv_at hl 0 rfl) ?_
    refine va_get (D := G.1) (ci := 4) (v := .ref h0) (C := RX5) (T := TX5) (N := 5) hx hb hts (fun w h => List.mem_cons_of_mem _ (List.mem_append_left _ (List.mem_append_left _ (List.mem_append_left _ (List.mem_append_right _ h))))) hown hE.1 hP 0 rfl rfl 1 (by decide) (hts (.fieldLink RX5 19 "TripleTrap" "now" "LTripleTrap$Held;") (List.mem_of_getElem? (i := 2) rfl)) (fun _ h9 => h9) rfl dX5_image_18 ?_
    refine wr_VN 0 0 (rest := []) (wr := [(o, .inr (4, [.ref me, .ref h0, .ref im, .int (nI kp), .ref ta])), (im, aO G 2 (imF h1 h2))]) (host := "TripleTrap") ⟨hx, hb, hml, hown, hts⟩ (c_X1_copyFrom l G h1 m1 n1 f1 s1 b1 t1 l1 h0 m0 n0 f0 s0 b0 t0 l0 F1 S1 B1 V1 F S B V H.size) ⟨va_cnB 1 hts gX5_image_X1_copyFrom_n148 rfl rfl rfl (hE.nest (w := .methodLinkNest RX5 148 yX1_copyFrom "TripleTrap") 32 rfl) (hts (.initialized RX1) (List.mem_of_getElem? (i := 9) rfl)) (by decide +kernel) ⟨Nat.le_of_ble_eq_true rfl, Nat.le_of_ble_eq_true rfl⟩, hts (.instanceMethod yX1_copyFrom) (List.mem_of_getElem? (i := 8) rfl), hts (.selects RX1 yX1_copyFrom yX1_copyFrom) (List.mem_of_getElem? (i := 10) rfl)⟩ hE hP hD hS hA [9, 10, 11, 12, 13, 14, 15, 2, 3, 4, 5, 6, 7, 8] [0, 1] rfl rfl (by decide) (by decide) (by decide) rfl rfl rfl hl.1 rfl (Nat.le_of_ble_eq_true rfl) dX5_image_21 ⟨Nat.zero_le _, Nat.zero_le _⟩ (fun H locs hP hD hS => ?_)
    have hP : va_P G.1 vwCl [(o, .inr (4, [.ref me, .ref h0, .ref im, .int (nI kp), .ref ta])), (im, aO G 2 (imF h1 h2)), (h0, .inr (0, [.ref m0, .ref t0])), (m0, .inr (2, [.int (nI n0), .ref f0, .ref s0, .ref b0])), (f0, aI G 8 F), (s0, aI G 8 S), (b0, aI G 8 B), (t0, .inr (3, [.ref l0])), (l0, aI G 23 V), (h1, .inr (0, [.ref m1, .ref t1])), (m1, .inr (2, [.int (nI n0), .ref f1, .ref s1, .ref b1])), (f1, aI G 8 F), (s1, aI G 8 S), (b1, aI G 8 B), (t1, .inr (3, [.ref l1])), (l1, aI G 23 V)] H := hP.sub [0, 1, 9, 10, 11, 12, 13, 14, 15, 2, 3, 4, 5, 6, 7, 8] rfl
    have hD : va_D A [(o, .inr (4, [.ref me, .ref h0, .ref im, .int (nI kp), .ref ta])), (im, aO G 2 (imF h1 h2)), (h0, .inr (0, [.ref m0, .ref t0])), (m0, .inr (2, [.int (nI n0), .ref f0, .ref s0, .ref b0])), (f0, aI G 8 F), (s0, aI G 8 S), (b0, aI G 8 B), (t0, .inr (3, [.ref l0])), (l0, aI G 23 V), (h1, .inr (0, [.ref m1, .ref t1])), (m1, .inr (2, [.int (nI n0), .ref f1, .ref s1, .ref b1])), (f1, aI G 8 F), (s1, aI G 8 S), (b1, aI G 8 B), (t1, .inr (3, [.ref l1])), (l1, aI G 23 V)] := hD.sub [0, 1, 9, 10, 11, 12, 13, 14, 15, 2, 3, 4, 5, 6, 7, 8] (by decide) rfl
    refine lv_aload_n hx hb dX5_image_24 rfl (lv_at hl 0 rfl) ?_
    refine lv_dup hx hb dX5_image_25 rfl ?_
    refine va_get (D := G.1) (ci := 4) (v := .int (nI kp)) (C := RX5) (T := TX5) (N := 5) hx hb hts (fun w h => List.mem_cons_of_mem _ (List.mem_append_left _ (List.mem_append_left _ (List.mem_append_left _ (List.mem_append_right _ h))))) hown hE.1 hP 0 rfl rfl 3 (by decide) (hts (.fieldLink RX5 27 "TripleTrap" "imagesKept" "I") (List.mem_of_getElem? (i := 3) rfl)) (fun _ h9 => h9) rfl dX5_image_26 ?_
    refine lv_iconst (v := nI 1) hx hb dX5_image_29 (by decide) ?_
    refine lv_iload_n hx hb dX5_image_30 rfl (lv_at hl 1 rfl) ?_
    refine j_shl hx hb dX5_image_31 ?_
    refine j_or hx hb dX5_image_32 ?_
    refine j_top (fun x33 ex33 => ?_)
    refine va_put (D := G.1) (ci := 4) (v := .int (nI x33)) (ty := .int) (C := RX5) (T := TX5) (N := 5) hx hb hts (fun w h => List.mem_cons_of_mem _ (List.mem_append_left _ (List.mem_append_left _ (List.mem_append_left _ (List.mem_append_right _ h))))) tyX5 tyX5_ok nmX5 hown hE.1 hP hD hS 0 rfl rfl 3 (by decide) (hts (.fieldLink RX5 27 "TripleTrap" "imagesKept" "I") (List.mem_of_getElem? (i := 3) rfl)) (fun _ h9 => h9) rfl (by decide +kernel) rfl rfl (Nat.le_of_ble_eq_true rfl) dX5_image_33 (fun H locs hP hD hS => ?_)
    have hP : va_P G.1 vwCl [(o, .inr (4, [.ref me, .ref h0, .ref im, .int (nI x33), .ref ta])), (im, aO G 2 (imF h1 h2)), (h0, .inr (0, [.ref m0, .ref t0])), (m0, .inr (2, [.int (nI n0), .ref f0, .ref s0, .ref b0])), (f0, aI G 8 F), (s0, aI G 8 S), (b0, aI G 8 B), (t0, .inr (3, [.ref l0])), (l0, aI G 23 V), (h1, .inr (0, [.ref m1, .ref t1])), (m1, .inr (2, [.int (nI n0), .ref f1, .ref s1, .ref b1])), (f1, aI G 8 F), (s1, aI G 8 S), (b1, aI G 8 B), (t1, .inr (3, [.ref l1])), (l1, aI G 23 V)] H := hP
    have hD : va_D A [(o, .inr (4, [.ref me, .ref h0, .ref im, .int (nI x33), .ref ta])), (im, aO G 2 (imF h1 h2)), (h0, .inr (0, [.ref m0, .ref t0])), (m0, .inr (2, [.int (nI n0), .ref f0, .ref s0, .ref b0])), (f0, aI G 8 F), (s0, aI G 8 S), (b0, aI G 8 B), (t0, .inr (3, [.ref l0])), (l0, aI G 23 V), (h1, .inr (0, [.ref m1, .ref t1])), (m1, .inr (2, [.int (nI n0), .ref f1, .ref s1, .ref b1])), (f1, aI G 8 F), (s1, aI G 8 S), (b1, aI G 8 B), (t1, .inr (3, [.ref l1])), (l1, aI G 23 V)] := hD
    refine lv_iconst (v := nI 1) hx hb dX5_image_36 (by decide) ?_
    rw [ex33] at hP hD
    exact wr_ret hx hb hr hlocks dX5_image_37 hP hD hS (rfl)
  · skip
    rw [blw_j (show 0 < 2 by decide) (by decide)] at c2; exact absurd c2 (by decide)
set_option maxHeartbeats 4000000 in
set_option maxRecDepth 100000 in
/-- image 1 -/
theorem c_X5_image_1 (l : Launch) (G : EG) (o : Nat) (me : Nat) (h0 : Nat) (im : Nat) (kp : Nat) (ta : Nat) (h1 : Nat) (m0 : Nat) (n0 : Nat) (f0 : Nat) (s0 : Nat) (b0 : Nat) (t0 : Nat) (l0 : Nat) (h2 : Nat) (m2 : Nat) (n2 : Nat) (f2 : Nat) (s2 : Nat) (b2 : Nat) (t2 : Nat) (l2 : Nat) (F : Nat → Nat) (S : Nat → Nat) (B : Nat → Nat) (V : Nat → Nat) (F2 : Nat → Nat) (S2 : Nat → Nat) (B2 : Nat → Nat) (V2 : Nat → Nat) (sz : Nat) : WR l yX5_image wsX5_image (rmR 2 43) G sz [(o, .inr (4, [.ref me, .ref h0, .ref im, .int (nI kp), .ref ta])), (im, aO G 2 (imF h1 h2)), (h0, .inr (0, [.ref m0, .ref t0])), (m0, .inr (2, [.int (nI n0), .ref f0, .ref s0, .ref b0])), (f0, aI G 8 F), (s0, aI G 8 S), (b0, aI G 8 B), (t0, .inr (3, [.ref l0])), (l0, aI G 23 V), (h2, .inr (0, [.ref m2, .ref t2])), (m2, .inr (2, [.int (nI n2), .ref f2, .ref s2, .ref b2])), (f2, aI G 8 F2), (s2, aI G 8 S2), (b2, aI G 8 B2), (t2, .inr (3, [.ref l2])), (l2, aI G 23 V2)] [.ref o, .int (nI 1)] [(o, .inr (4, [.ref me, .ref h0, .ref im, .int (nI (kp ||| 1 <<< 1)), .ref ta])), (im, aO G 2 (imF h1 h2)), (h0, .inr (0, [.ref m0, .ref t0])), (m0, .inr (2, [.int (nI n0), .ref f0, .ref s0, .ref b0])), (f0, aI G 8 F), (s0, aI G 8 S), (b0, aI G 8 B), (t0, .inr (3, [.ref l0])), (l0, aI G 23 V), (h2, .inr (0, [.ref m2, .ref t2])), (m2, .inr (2, [.int (nI n0), .ref f2, .ref s2, .ref b2])), (f2, aI G 8 F), (s2, aI G 8 S), (b2, aI G 8 B), (t2, .inr (3, [.ref l2])), (l2, aI G 23 V)] (some (.int (nI 1))) := by
  refine WR.start (by decide) rfl (Nat.le_of_ble_eq_true rfl) ?_
  intro p e s m below meth c hx hb hr hml hts hown hlocks hE A hA H locs hP hD hS ls hl
  have hown : s.vm.findClass RX5 = some m.cls := hown
  have hl : lv_has ls 2 [(0, .ref o), (1, .int (nI 1))] := hl
  refine lv_iload_n hx hb dX5_image_0 rfl (lv_at hl 1 rfl) ?_
  refine lv_iconst (v := nI 2) hx hb dX5_image_1 (by decide) ?_
  refine ro_S (rest := []) ⟨hx, hb, hml, hown, hts⟩ (c_X5_isBelow l G (nI 1) 2) (va_cwS 2 hts gX5_image_X5_isBelow rfl rfl rfl (by decide +kernel) ⟨Nat.le_of_ble_eq_true rfl, Nat.le_of_ble_eq_true rfl⟩) hE (hP.sub [] rfl) rfl hl.1 rfl (Nat.le_of_ble_eq_true rfl) dX5_image_2 ⟨Nat.zero_le _, Nat.zero_le _⟩ ?_
  refine j_bool (fun c2 => ?_) (fun c2 => ?_)
  · skip
    refine j_if_ne (tgt := 11) hx hb dX5_image_5 (by decide) (fun _ => ?_) (fun q => absurd q (by decide))
    refine lv_aload_n hx hb dX5_image_11 rfl (lv_at hl 0 rfl) ?_
    refine va_get (D := G.1) (ci := 4) (v := .ref im) (C := RX5) (T := TX5) (N := 5) hx hb hts (fun w h => List.mem_cons_of_mem _ (List.mem_append_left _ (List.mem_append_left _ (List.mem_append_left _ (List.mem_append_right _ h))))) hown hE.1 hP 0 rfl rfl 2 (by decide) (hts (.fieldLink RX5 23 "TripleTrap" "images" "[LTripleTrap$Held;") (List.mem_of_getElem? (i := 1) rfl)) (fun _ h9 => h9) rfl dX5_image_12 ?_
    refine lv_iload_n hx hb dX5_image_15 rfl (lv_at hl 1 rfl) ?_
    refine va_aldq hx hb hE.1 hP 1 2 rfl rfl (vp_in_nI (by omega) (by omega)) dX5_image_16 ?_
    rw [nI_clamp (by omega), show (imF h1 h2) 1 = some h2 from rfl]
    refine lv_aload_n hx hb dX5_image_17 rfl (lv_at hl 0 rfl) ?_
    refine va_get (D := G.1) (ci := 4) (v := .ref h0) (C := RX5) (T := TX5) (N := 5) hx hb hts (fun w h => List.mem_cons_of_mem _ (List.mem_append_left _ (List.mem_append_left _ (List.mem_append_left _ (List.mem_append_right _ h))))) hown hE.1 hP 0 rfl rfl 1 (by decide) (hts (.fieldLink RX5 19 "TripleTrap" "now" "LTripleTrap$Held;") (List.mem_of_getElem? (i := 2) rfl)) (fun _ h9 => h9) rfl dX5_image_18 ?_
    refine wr_VN 0 0 (rest := []) (wr := [(o, .inr (4, [.ref me, .ref h0, .ref im, .int (nI kp), .ref ta])), (im, aO G 2 (imF h1 h2))]) (host := "TripleTrap") ⟨hx, hb, hml, hown, hts⟩ (c_X1_copyFrom l G h2 m2 n2 f2 s2 b2 t2 l2 h0 m0 n0 f0 s0 b0 t0 l0 F2 S2 B2 V2 F S B V H.size) ⟨va_cnB 1 hts gX5_image_X1_copyFrom_n148 rfl rfl rfl (hE.nest (w := .methodLinkNest RX5 148 yX1_copyFrom "TripleTrap") 32 rfl) (hts (.initialized RX1) (List.mem_of_getElem? (i := 9) rfl)) (by decide +kernel) ⟨Nat.le_of_ble_eq_true rfl, Nat.le_of_ble_eq_true rfl⟩, hts (.instanceMethod yX1_copyFrom) (List.mem_of_getElem? (i := 8) rfl), hts (.selects RX1 yX1_copyFrom yX1_copyFrom) (List.mem_of_getElem? (i := 10) rfl)⟩ hE hP hD hS hA [9, 10, 11, 12, 13, 14, 15, 2, 3, 4, 5, 6, 7, 8] [0, 1] rfl rfl (by decide) (by decide) (by decide) rfl rfl rfl hl.1 rfl (Nat.le_of_ble_eq_true rfl) dX5_image_21 ⟨Nat.zero_le _, Nat.zero_le _⟩ (fun H locs hP hD hS => ?_)
    have hP : va_P G.1 vwCl [(o, .inr (4, [.ref me, .ref h0, .ref im, .int (nI kp), .ref ta])), (im, aO G 2 (imF h1 h2)), (h0, .inr (0, [.ref m0, .ref t0])), (m0, .inr (2, [.int (nI n0), .ref f0, .ref s0, .ref b0])), (f0, aI G 8 F), (s0, aI G 8 S), (b0, aI G 8 B), (t0, .inr (3, [.ref l0])), (l0, aI G 23 V), (h2, .inr (0, [.ref m2, .ref t2])), (m2, .inr (2, [.int (nI n0), .ref f2, .ref s2, .ref b2])), (f2, aI G 8 F), (s2, aI G 8 S), (b2, aI G 8 B), (t2, .inr (3, [.ref l2])), (l2, aI G 23 V)] H := hP.sub [0, 1, 9, 10, 11, 12, 13, 14, 15, 2, 3, 4, 5, 6, 7, 8] rfl
    have hD : va_D A [(o, .inr (4, [.ref me, .ref h0, .ref im, .int (nI kp), .ref ta])), (im, aO G 2 (imF h1 h2)), (h0, .inr (0, [.ref m0, .ref t0])), (m0, .inr (2, [.int (nI n0), .ref f0, .ref s0, .ref b0])), (f0, aI G 8 F), (s0, aI G 8 S), (b0, aI G 8 B), (t0, .inr (3, [.ref l0])), (l0, aI G 23 V), (h2, .inr (0, [.ref m2, .ref t2])), (m2, .inr (2, [.int (nI n0), .ref f2, .ref s2, .ref b2])), (f2, aI G 8 F), (s2, aI G 8 S), (b2, aI G 8 B), (t2, .inr (3, [.ref l2])), (l2, aI G 23 V)] := hD.sub [0, 1, 9, 10, 11, 12, 13, 14, 15, 2, 3, 4, 5, 6, 7, 8] (by decide) rfl
    refine lv_aload_n hx hb dX5_image_24 rfl (lv_at hl 0 rfl) ?_
    refine lv_dup hx hb dX5_image_25 rfl ?_
    refine va_get (D := G.1) (ci := 4) (v := .int (nI kp)) (C := RX5) (T := TX5) (N := 5) hx hb hts (fun w h => List.mem_cons_of_mem _ (List.mem_append_left _ (List.mem_append_left _ (List.mem_append_left _ (List.mem_append_right _ h))))) hown hE.1 hP 0 rfl rfl 3 (by decide) (hts (.fieldLink RX5 27 "TripleTrap" "imagesKept" "I") (List.mem_of_getElem? (i := 3) rfl)) (fun _ h9 => h9) rfl dX5_image_26 ?_
    refine lv_iconst (v := nI 1) hx hb dX5_image_29 (by decide) ?_
    refine lv_iload_n hx hb dX5_image_30 rfl (lv_at hl 1 rfl) ?_
    refine j_shl hx hb dX5_image_31 ?_
    refine j_or hx hb dX5_image_32 ?_
    refine j_top (fun x33 ex33 => ?_)
    refine va_put (D := G.1) (ci := 4) (v := .int (nI x33)) (ty := .int) (C := RX5) (T := TX5) (N := 5) hx hb hts (fun w h => List.mem_cons_of_mem _ (List.mem_append_left _ (List.mem_append_left _ (List.mem_append_left _ (List.mem_append_right _ h))))) tyX5 tyX5_ok nmX5 hown hE.1 hP hD hS 0 rfl rfl 3 (by decide) (hts (.fieldLink RX5 27 "TripleTrap" "imagesKept" "I") (List.mem_of_getElem? (i := 3) rfl)) (fun _ h9 => h9) rfl (by decide +kernel) rfl rfl (Nat.le_of_ble_eq_true rfl) dX5_image_33 (fun H locs hP hD hS => ?_)
    have hP : va_P G.1 vwCl [(o, .inr (4, [.ref me, .ref h0, .ref im, .int (nI x33), .ref ta])), (im, aO G 2 (imF h1 h2)), (h0, .inr (0, [.ref m0, .ref t0])), (m0, .inr (2, [.int (nI n0), .ref f0, .ref s0, .ref b0])), (f0, aI G 8 F), (s0, aI G 8 S), (b0, aI G 8 B), (t0, .inr (3, [.ref l0])), (l0, aI G 23 V), (h2, .inr (0, [.ref m2, .ref t2])), (m2, .inr (2, [.int (nI n0), .ref f2, .ref s2, .ref b2])), (f2, aI G 8 F), (s2, aI G 8 S), (b2, aI G 8 B), (t2, .inr (3, [.ref l2])), (l2, aI G 23 V)] H := hP
    have hD : va_D A [(o, .inr (4, [.ref me, .ref h0, .ref im, .int (nI x33), .ref ta])), (im, aO G 2 (imF h1 h2)), (h0, .inr (0, [.ref m0, .ref t0])), (m0, .inr (2, [.int (nI n0), .ref f0, .ref s0, .ref b0])), (f0, aI G 8 F), (s0, aI G 8 S), (b0, aI G 8 B), (t0, .inr (3, [.ref l0])), (l0, aI G 23 V), (h2, .inr (0, [.ref m2, .ref t2])), (m2, .inr (2, [.int (nI n0), .ref f2, .ref s2, .ref b2])), (f2, aI G 8 F), (s2, aI G 8 S), (b2, aI G 8 B), (t2, .inr (3, [.ref l2])), (l2, aI G 23 V)] := hD
    refine lv_iconst (v := nI 1) hx hb dX5_image_36 (by decide) ?_
    rw [ex33] at hP hD
    exact wr_ret hx hb hr hlocks dX5_image_37 hP hD hS (rfl)
  · skip
    rw [blw_j (show 1 < 2 by decide) (by decide)] at c2; exact absurd c2 (by decide)
set_option maxHeartbeats 4000000 in
set_option maxRecDepth 100000 in
/-- image, refused -/
theorem c_X5_image_n (l : Launch) (G : EG) (o : Nat) (me : Nat) (h0 : Nat) (im : Nat) (kp : Nat) (ta : Nat) (x : Int32) (hx0 : blw x 2 = false) : RO l yX5_image wsX5_image (rmR 2 43) G [(o, .inr (4, [.ref me, .ref h0, .ref im, .int (nI kp), .ref ta]))] [.ref o, .int x] (.int (-2)) := by
  refine RO.start (by decide) rfl (Nat.le_of_ble_eq_true rfl) ?_
  intro p e s m below meth c hx hb hr hml hts hown hlocks hP hE ls hl
  have hown : s.vm.findClass RX5 = some m.cls := hown
  have hl : lv_has ls 2 [(0, .ref o), (1, .int x)] := hl
  refine lv_iload_n hx hb dX5_image_0 rfl (lv_at hl 1 rfl) ?_
  refine lv_iconst (v := nI 2) hx hb dX5_image_1 (by decide) ?_
  refine ro_S (rest := []) ⟨hx, hb, hml, hown, hts⟩ (c_X5_isBelow l G x 2) (va_cwS 2 hts gX5_image_X5_isBelow rfl rfl rfl (by decide +kernel) ⟨Nat.le_of_ble_eq_true rfl, Nat.le_of_ble_eq_true rfl⟩) hE (hP.sub [] rfl) rfl hl.1 rfl (Nat.le_of_ble_eq_true rfl) dX5_image_2 ⟨Nat.zero_le _, Nat.zero_le _⟩ ?_
  refine j_bool (fun c2 => ?_) (fun c2 => ?_)
  · skip
    rw [hx0] at c2; exact absurd c2 (by decide)
  · skip
    refine j_if_ne (tgt := 11) hx hb dX5_image_5 (by decide) (fun q => absurd q (by decide)) (fun _ => ?_)
    refine lv_bipush (v := (-2)) hx hb dX5_image_8 (by decide) ?_
    exact ro_ret hx hb hr hlocks dX5_image_10 (rfl)
set_option maxHeartbeats 4000000 in
set_option maxRecDepth 100000 in
/-- restore 0 -/
theorem c_X5_restore_0 (l : Launch) (G : EG) (o : Nat) (me : Nat) (h0 : Nat) (im : Nat) (kp : Nat) (ta : Nat) (h2 : Nat) (m0 : Nat) (n0 : Nat) (f0 : Nat) (s0 : Nat) (b0 : Nat) (t0 : Nat) (l0 : Nat) (h1 : Nat) (m1 : Nat) (n1 : Nat) (f1 : Nat) (s1 : Nat) (b1 : Nat) (t1 : Nat) (l1 : Nat) (F : Nat → Nat) (S : Nat → Nat) (B : Nat → Nat) (V : Nat → Nat) (F1 : Nat → Nat) (S1 : Nat → Nat) (B1 : Nat → Nat) (V1 : Nat → Nat) (hkp : kp < 4) (hkd : ¬ kp >>> 0 &&& 1 = 0) (sz : Nat) : WR l yX5_restore wsX5_restore (rmR 2 43) G sz [(o, .inr (4, [.ref me, .ref h0, .ref im, .int (nI kp), .ref ta])), (im, aO G 2 (imF h1 h2)), (h0, .inr (0, [.ref m0, .ref t0])), (m0, .inr (2, [.int (nI n0), .ref f0, .ref s0, .ref b0])), (f0, aI G 8 F), (s0, aI G 8 S), (b0, aI G 8 B), (t0, .inr (3, [.ref l0])), (l0, aI G 23 V), (h1, .inr (0, [.ref m1, .ref t1])), (m1, .inr (2, [.int (nI n1), .ref f1, .ref s1, .ref b1])), (f1, aI G 8 F1), (s1, aI G 8 S1), (b1, aI G 8 B1), (t1, .inr (3, [.ref l1])), (l1, aI G 23 V1)] [.ref o, .int (nI 0)] [(o, .inr (4, [.ref me, .ref h0, .ref im, .int (nI kp), .ref ta])), (im, aO G 2 (imF h1 h2)), (h0, .inr (0, [.ref m0, .ref t0])), (m0, .inr (2, [.int (nI n1), .ref f0, .ref s0, .ref b0])), (f0, aI G 8 F1), (s0, aI G 8 S1), (b0, aI G 8 B1), (t0, .inr (3, [.ref l0])), (l0, aI G 23 V1), (h1, .inr (0, [.ref m1, .ref t1])), (m1, .inr (2, [.int (nI n1), .ref f1, .ref s1, .ref b1])), (f1, aI G 8 F1), (s1, aI G 8 S1), (b1, aI G 8 B1), (t1, .inr (3, [.ref l1])), (l1, aI G 23 V1)] (some (.int (nI 1))) := by
  refine WR.start (by decide) rfl (Nat.le_of_ble_eq_true rfl) ?_
  intro p e s m below meth c hx hb hr hml hts hown hlocks hE A hA H locs hP hD hS ls hl
  have hown : s.vm.findClass RX5 = some m.cls := hown
  have hl : lv_has ls 2 [(0, .ref o), (1, .int (nI 0))] := hl
  refine lv_iload_n hx hb dX5_restore_0 rfl (lv_at hl 1 rfl) ?_
  refine lv_iconst (v := nI 2) hx hb dX5_restore_1 (by decide) ?_
  refine ro_S (rest := []) ⟨hx, hb, hml, hown, hts⟩ (c_X5_isBelow l G (nI 0) 2) (va_cwS 2 hts gX5_restore_X5_isBelow rfl rfl rfl (by decide +kernel) ⟨Nat.le_of_ble_eq_true rfl, Nat.le_of_ble_eq_true rfl⟩) hE (hP.sub [] rfl) rfl hl.1 rfl (Nat.le_of_ble_eq_true rfl) dX5_restore_2 ⟨Nat.zero_le _, Nat.zero_le _⟩ ?_
  refine j_bool (fun c2 => ?_) (fun c2 => ?_)
  · skip
    refine j_if_ne (tgt := 11) hx hb dX5_restore_5 (by decide) (fun _ => ?_) (fun q => absurd q (by decide))
    refine lv_aload_n hx hb dX5_restore_11 rfl (lv_at hl 0 rfl) ?_
    refine va_get (D := G.1) (ci := 4) (v := .int (nI kp)) (C := RX5) (T := TX5) (N := 5) hx hb hts (fun w h => List.mem_cons_of_mem _ (List.mem_append_left _ (List.mem_append_left _ (List.mem_append_left _ (List.mem_append_right _ h))))) hown hE.1 hP 0 rfl rfl 3 (by decide) (hts (.fieldLink RX5 27 "TripleTrap" "imagesKept" "I") (List.mem_of_getElem? (i := 1) rfl)) (fun _ h9 => h9) rfl dX5_restore_12 ?_
    refine lv_iload_n hx hb dX5_restore_15 rfl (lv_at hl 1 rfl) ?_
    refine j_ushr hx hb dX5_restore_16 ?_
    refine lv_iconst (v := nI 1) hx hb dX5_restore_17 (by decide) ?_
    refine j_and hx hb dX5_restore_18 ?_
    refine j_if_ne (tgt := 25) hx hb dX5_restore_19 (by decide) (fun c19 => ?_) (fun c19 => ?_) (h1 := bd_and (by decide))
    · skip
      refine lv_aload_n hx hb dX5_restore_25 rfl (lv_at hl 0 rfl) ?_
      refine va_get (D := G.1) (ci := 4) (v := .ref h0) (C := RX5) (T := TX5) (N := 5) hx hb hts (fun w h => List.mem_cons_of_mem _ (List.mem_append_left _ (List.mem_append_left _ (List.mem_append_left _ (List.mem_append_right _ h))))) hown hE.1 hP 0 rfl rfl 1 (by decide) (hts (.fieldLink RX5 19 "TripleTrap" "now" "LTripleTrap$Held;") (List.mem_of_getElem? (i := 2) rfl)) (fun _ h9 => h9) rfl dX5_restore_26 ?_
      refine lv_aload_n hx hb dX5_restore_29 rfl (lv_at hl 0 rfl) ?_
      refine va_get (D := G.1) (ci := 4) (v := .ref im) (C := RX5) (T := TX5) (N := 5) hx hb hts (fun w h => List.mem_cons_of_mem _ (List.mem_append_left _ (List.mem_append_left _ (List.mem_append_left _ (List.mem_append_right _ h))))) hown hE.1 hP 0 rfl rfl 2 (by decide) (hts (.fieldLink RX5 23 "TripleTrap" "images" "[LTripleTrap$Held;") (List.mem_of_getElem? (i := 3) rfl)) (fun _ h9 => h9) rfl dX5_restore_30 ?_
      refine lv_iload_n hx hb dX5_restore_33 rfl (lv_at hl 1 rfl) ?_
      refine va_aldq hx hb hE.1 hP 1 2 rfl rfl (vp_in_nI (by omega) (by omega)) dX5_restore_34 ?_
      rw [nI_clamp (by omega), show (imF h1 h2) 0 = some h1 from rfl]
      refine wr_VN 0 0 (rest := []) (wr := [(o, .inr (4, [.ref me, .ref h0, .ref im, .int (nI kp), .ref ta])), (im, aO G 2 (imF h1 h2))]) (host := "TripleTrap") ⟨hx, hb, hml, hown, hts⟩ (c_X1_copyFrom l G h0 m0 n0 f0 s0 b0 t0 l0 h1 m1 n1 f1 s1 b1 t1 l1 F S B V F1 S1 B1 V1 H.size) ⟨va_cnB 1 hts gX5_restore_X1_copyFrom_n148 rfl rfl rfl (hE.nest (w := .methodLinkNest RX5 148 yX1_copyFrom "TripleTrap") 32 rfl) (hts (.initialized RX1) (List.mem_of_getElem? (i := 9) rfl)) (by decide +kernel) ⟨Nat.le_of_ble_eq_true rfl, Nat.le_of_ble_eq_true rfl⟩, hts (.instanceMethod yX1_copyFrom) (List.mem_of_getElem? (i := 8) rfl), hts (.selects RX1 yX1_copyFrom yX1_copyFrom) (List.mem_of_getElem? (i := 10) rfl)⟩ hE hP hD hS hA [2, 3, 4, 5, 6, 7, 8, 9, 10, 11, 12, 13, 14, 15] [0, 1] rfl rfl (by decide) (by decide) (by decide) rfl rfl rfl hl.1 rfl (Nat.le_of_ble_eq_true rfl) dX5_restore_35 ⟨Nat.zero_le _, Nat.zero_le _⟩ (fun H locs hP hD hS => ?_)
      have hP : va_P G.1 vwCl [(o, .inr (4, [.ref me, .ref h0, .ref im, .int (nI kp), .ref ta])), (im, aO G 2 (imF h1 h2)), (h0, .inr (0, [.ref m0, .ref t0])), (m0, .inr (2, [.int (nI n1), .ref f0, .ref s0, .ref b0])), (f0, aI G 8 F1), (s0, aI G 8 S1), (b0, aI G 8 B1), (t0, .inr (3, [.ref l0])), (l0, aI G 23 V1), (h1, .inr (0, [.ref m1, .ref t1])), (m1, .inr (2, [.int (nI n1), .ref f1, .ref s1, .ref b1])), (f1, aI G 8 F1), (s1, aI G 8 S1), (b1, aI G 8 B1), (t1, .inr (3, [.ref l1])), (l1, aI G 23 V1)] H := hP.sub [0, 1, 2, 3, 4, 5, 6, 7, 8, 9, 10, 11, 12, 13, 14, 15] rfl
      have hD : va_D A [(o, .inr (4, [.ref me, .ref h0, .ref im, .int (nI kp), .ref ta])), (im, aO G 2 (imF h1 h2)), (h0, .inr (0, [.ref m0, .ref t0])), (m0, .inr (2, [.int (nI n1), .ref f0, .ref s0, .ref b0])), (f0, aI G 8 F1), (s0, aI G 8 S1), (b0, aI G 8 B1), (t0, .inr (3, [.ref l0])), (l0, aI G 23 V1), (h1, .inr (0, [.ref m1, .ref t1])), (m1, .inr (2, [.int (nI n1), .ref f1, .ref s1, .ref b1])), (f1, aI G 8 F1), (s1, aI G 8 S1), (b1, aI G 8 B1), (t1, .inr (3, [.ref l1])), (l1, aI G 23 V1)] := hD.sub [0, 1, 2, 3, 4, 5, 6, 7, 8, 9, 10, 11, 12, 13, 14, 15] (by decide) rfl
      refine lv_iconst (v := nI 1) hx hb dX5_restore_38 (by decide) ?_
      exact wr_ret hx hb hr hlocks dX5_restore_39 hP hD hS (rfl)
    · skip
      exact absurd c19 hkd
  · skip
    rw [blw_j (show 0 < 2 by decide) (by decide)] at c2; exact absurd c2 (by decide)
set_option maxHeartbeats 4000000 in
set_option maxRecDepth 100000 in
/-- restore 1 -/
theorem c_X5_restore_1 (l : Launch) (G : EG) (o : Nat) (me : Nat) (h0 : Nat) (im : Nat) (kp : Nat) (ta : Nat) (h1 : Nat) (m0 : Nat) (n0 : Nat) (f0 : Nat) (s0 : Nat) (b0 : Nat) (t0 : Nat) (l0 : Nat) (h2 : Nat) (m2 : Nat) (n2 : Nat) (f2 : Nat) (s2 : Nat) (b2 : Nat) (t2 : Nat) (l2 : Nat) (F : Nat → Nat) (S : Nat → Nat) (B : Nat → Nat) (V : Nat → Nat) (F2 : Nat → Nat) (S2 : Nat → Nat) (B2 : Nat → Nat) (V2 : Nat → Nat) (hkp : kp < 4) (hkd : ¬ kp >>> 1 &&& 1 = 0) (sz : Nat) : WR l yX5_restore wsX5_restore (rmR 2 43) G sz [(o, .inr (4, [.ref me, .ref h0, .ref im, .int (nI kp), .ref ta])), (im, aO G 2 (imF h1 h2)), (h0, .inr (0, [.ref m0, .ref t0])), (m0, .inr (2, [.int (nI n0), .ref f0, .ref s0, .ref b0])), (f0, aI G 8 F), (s0, aI G 8 S), (b0, aI G 8 B), (t0, .inr (3, [.ref l0])), (l0, aI G 23 V), (h2, .inr (0, [.ref m2, .ref t2])), (m2, .inr (2, [.int (nI n2), .ref f2, .ref s2, .ref b2])), (f2, aI G 8 F2), (s2, aI G 8 S2), (b2, aI G 8 B2), (t2, .inr (3, [.ref l2])), (l2, aI G 23 V2)] [.ref o, .int (nI 1)] [(o, .inr (4, [.ref me, .ref h0, .ref im, .int (nI kp), .ref ta])), (im, aO G 2 (imF h1 h2)), (h0, .inr (0, [.ref m0, .ref t0])), (m0, .inr (2, [.int (nI n2), .ref f0, .ref s0, .ref b0])), (f0, aI G 8 F2), (s0, aI G 8 S2), (b0, aI G 8 B2), (t0, .inr (3, [.ref l0])), (l0, aI G 23 V2), (h2, .inr (0, [.ref m2, .ref t2])), (m2, .inr (2, [.int (nI n2), .ref f2, .ref s2, .ref b2])), (f2, aI G 8 F2), (s2, aI G 8 S2), (b2, aI G 8 B2), (t2, .inr (3, [.ref l2])), (l2, aI G 23 V2)] (some (.int (nI 1))) := by
  refine WR.start (by decide) rfl (Nat.le_of_ble_eq_true rfl) ?_
  intro p e s m below meth c hx hb hr hml hts hown hlocks hE A hA H locs hP hD hS ls hl
  have hown : s.vm.findClass RX5 = some m.cls := hown
  have hl : lv_has ls 2 [(0, .ref o), (1, .int (nI 1))] := hl
  refine lv_iload_n hx hb dX5_restore_0 rfl (lv_at hl 1 rfl) ?_
  refine lv_iconst (v := nI 2) hx hb dX5_restore_1 (by decide) ?_
  refine ro_S (rest := []) ⟨hx, hb, hml, hown, hts⟩ (c_X5_isBelow l G (nI 1) 2) (va_cwS 2 hts gX5_restore_X5_isBelow rfl rfl rfl (by decide +kernel) ⟨Nat.le_of_ble_eq_true rfl, Nat.le_of_ble_eq_true rfl⟩) hE (hP.sub [] rfl) rfl hl.1 rfl (Nat.le_of_ble_eq_true rfl) dX5_restore_2 ⟨Nat.zero_le _, Nat.zero_le _⟩ ?_
  refine j_bool (fun c2 => ?_) (fun c2 => ?_)
  · skip
    refine j_if_ne (tgt := 11) hx hb dX5_restore_5 (by decide) (fun _ => ?_) (fun q => absurd q (by decide))
    refine lv_aload_n hx hb dX5_restore_11 rfl (lv_at hl 0 rfl) ?_
    refine va_get (D := G.1) (ci := 4) (v := .int (nI kp)) (C := RX5) (T := TX5) (N := 5) hx hb hts (fun w h => List.mem_cons_of_mem _ (List.mem_append_left _ (List.mem_append_left _ (List.mem_append_left _ (List.mem_append_right _ h))))) hown hE.1 hP 0 rfl rfl 3 (by decide) (hts (.fieldLink RX5 27 "TripleTrap" "imagesKept" "I") (List.mem_of_getElem? (i := 1) rfl)) (fun _ h9 => h9) rfl dX5_restore_12 ?_
    refine lv_iload_n hx hb dX5_restore_15 rfl (lv_at hl 1 rfl) ?_
    refine j_ushr hx hb dX5_restore_16 ?_
    refine lv_iconst (v := nI 1) hx hb dX5_restore_17 (by decide) ?_
    refine j_and hx hb dX5_restore_18 ?_
    refine j_if_ne (tgt := 25) hx hb dX5_restore_19 (by decide) (fun c19 => ?_) (fun c19 => ?_) (h1 := bd_and (by decide))
    · skip
      refine lv_aload_n hx hb dX5_restore_25 rfl (lv_at hl 0 rfl) ?_
      refine va_get (D := G.1) (ci := 4) (v := .ref h0) (C := RX5) (T := TX5) (N := 5) hx hb hts (fun w h => List.mem_cons_of_mem _ (List.mem_append_left _ (List.mem_append_left _ (List.mem_append_left _ (List.mem_append_right _ h))))) hown hE.1 hP 0 rfl rfl 1 (by decide) (hts (.fieldLink RX5 19 "TripleTrap" "now" "LTripleTrap$Held;") (List.mem_of_getElem? (i := 2) rfl)) (fun _ h9 => h9) rfl dX5_restore_26 ?_
      refine lv_aload_n hx hb dX5_restore_29 rfl (lv_at hl 0 rfl) ?_
      refine va_get (D := G.1) (ci := 4) (v := .ref im) (C := RX5) (T := TX5) (N := 5) hx hb hts (fun w h => List.mem_cons_of_mem _ (List.mem_append_left _ (List.mem_append_left _ (List.mem_append_left _ (List.mem_append_right _ h))))) hown hE.1 hP 0 rfl rfl 2 (by decide) (hts (.fieldLink RX5 23 "TripleTrap" "images" "[LTripleTrap$Held;") (List.mem_of_getElem? (i := 3) rfl)) (fun _ h9 => h9) rfl dX5_restore_30 ?_
      refine lv_iload_n hx hb dX5_restore_33 rfl (lv_at hl 1 rfl) ?_
      refine va_aldq hx hb hE.1 hP 1 2 rfl rfl (vp_in_nI (by omega) (by omega)) dX5_restore_34 ?_
      rw [nI_clamp (by omega), show (imF h1 h2) 1 = some h2 from rfl]
      refine wr_VN 0 0 (rest := []) (wr := [(o, .inr (4, [.ref me, .ref h0, .ref im, .int (nI kp), .ref ta])), (im, aO G 2 (imF h1 h2))]) (host := "TripleTrap") ⟨hx, hb, hml, hown, hts⟩ (c_X1_copyFrom l G h0 m0 n0 f0 s0 b0 t0 l0 h2 m2 n2 f2 s2 b2 t2 l2 F S B V F2 S2 B2 V2 H.size) ⟨va_cnB 1 hts gX5_restore_X1_copyFrom_n148 rfl rfl rfl (hE.nest (w := .methodLinkNest RX5 148 yX1_copyFrom "TripleTrap") 32 rfl) (hts (.initialized RX1) (List.mem_of_getElem? (i := 9) rfl)) (by decide +kernel) ⟨Nat.le_of_ble_eq_true rfl, Nat.le_of_ble_eq_true rfl⟩, hts (.instanceMethod yX1_copyFrom) (List.mem_of_getElem? (i := 8) rfl), hts (.selects RX1 yX1_copyFrom yX1_copyFrom) (List.mem_of_getElem? (i := 10) rfl)⟩ hE hP hD hS hA [2, 3, 4, 5, 6, 7, 8, 9, 10, 11, 12, 13, 14, 15] [0, 1] rfl rfl (by decide) (by decide) (by decide) rfl rfl rfl hl.1 rfl (Nat.le_of_ble_eq_true rfl) dX5_restore_35 ⟨Nat.zero_le _, Nat.zero_le _⟩ (fun H locs hP hD hS => ?_)
      have hP : va_P G.1 vwCl [(o, .inr (4, [.ref me, .ref h0, .ref im, .int (nI kp), .ref ta])), (im, aO G 2 (imF h1 h2)), (h0, .inr (0, [.ref m0, .ref t0])), (m0, .inr (2, [.int (nI n2), .ref f0, .ref s0, .ref b0])), (f0, aI G 8 F2), (s0, aI G 8 S2), (b0, aI G 8 B2), (t0, .inr (3, [.ref l0])), (l0, aI G 23 V2), (h2, .inr (0, [.ref m2, .ref t2])), (m2, .inr (2, [.int (nI n2), .ref f2, .ref s2, .ref b2])), (f2, aI G 8 F2), (s2, aI G 8 S2), (b2, aI G 8 B2), (t2, .inr (3, [.ref l2])), (l2, aI G 23 V2)] H := hP.sub [0, 1, 2, 3, 4, 5, 6, 7, 8, 9, 10, 11, 12, 13, 14, 15] rfl
      have hD : va_D A [(o, .inr (4, [.ref me, .ref h0, .ref im, .int (nI kp), .ref ta])), (im, aO G 2 (imF h1 h2)), (h0, .inr (0, [.ref m0, .ref t0])), (m0, .inr (2, [.int (nI n2), .ref f0, .ref s0, .ref b0])), (f0, aI G 8 F2), (s0, aI G 8 S2), (b0, aI G 8 B2), (t0, .inr (3, [.ref l0])), (l0, aI G 23 V2), (h2, .inr (0, [.ref m2, .ref t2])), (m2, .inr (2, [.int (nI n2), .ref f2, .ref s2, .ref b2])), (f2, aI G 8 F2), (s2, aI G 8 S2), (b2, aI G 8 B2), (t2, .inr (3, [.ref l2])), (l2, aI G 23 V2)] := hD.sub [0, 1, 2, 3, 4, 5, 6, 7, 8, 9, 10, 11, 12, 13, 14, 15] (by decide) rfl
      refine lv_iconst (v := nI 1) hx hb dX5_restore_38 (by decide) ?_
      exact wr_ret hx hb hr hlocks dX5_restore_39 hP hD hS (rfl)
    · skip
      exact absurd c19 hkd
  · skip
    rw [blw_j (show 1 < 2 by decide) (by decide)] at c2; exact absurd c2 (by decide)
set_option maxHeartbeats 4000000 in
set_option maxRecDepth 100000 in
/-- restore, refused -/
theorem c_X5_restore_n (l : Launch) (G : EG) (o : Nat) (me : Nat) (h0 : Nat) (im : Nat) (kp : Nat) (ta : Nat) (x : Int32) (hx0 : blw x 2 = false) : RO l yX5_restore wsX5_restore (rmR 2 43) G [(o, .inr (4, [.ref me, .ref h0, .ref im, .int (nI kp), .ref ta]))] [.ref o, .int x] (.int (-2)) := by
  refine RO.start (by decide) rfl (Nat.le_of_ble_eq_true rfl) ?_
  intro p e s m below meth c hx hb hr hml hts hown hlocks hP hE ls hl
  have hown : s.vm.findClass RX5 = some m.cls := hown
  have hl : lv_has ls 2 [(0, .ref o), (1, .int x)] := hl
  refine lv_iload_n hx hb dX5_restore_0 rfl (lv_at hl 1 rfl) ?_
  refine lv_iconst (v := nI 2) hx hb dX5_restore_1 (by decide) ?_
  refine ro_S (rest := []) ⟨hx, hb, hml, hown, hts⟩ (c_X5_isBelow l G x 2) (va_cwS 2 hts gX5_restore_X5_isBelow rfl rfl rfl (by decide +kernel) ⟨Nat.le_of_ble_eq_true rfl, Nat.le_of_ble_eq_true rfl⟩) hE (hP.sub [] rfl) rfl hl.1 rfl (Nat.le_of_ble_eq_true rfl) dX5_restore_2 ⟨Nat.zero_le _, Nat.zero_le _⟩ ?_
  refine j_bool (fun c2 => ?_) (fun c2 => ?_)
  · skip
    rw [hx0] at c2; exact absurd c2 (by decide)
  · skip
    refine j_if_ne (tgt := 11) hx hb dX5_restore_5 (by decide) (fun q => absurd q (by decide)) (fun _ => ?_)
    refine lv_bipush (v := (-2)) hx hb dX5_restore_8 (by decide) ?_
    exact ro_ret hx hb hr hlocks dX5_restore_10 (rfl)
set_option maxHeartbeats 4000000 in
set_option maxRecDepth 100000 in
/-- restore, nothing kept -/
theorem c_X5_restore_s (l : Launch) (G : EG) (o : Nat) (me : Nat) (h0 : Nat) (im : Nat) (kp : Nat) (ta : Nat) (d : Nat) (hd : d < 2) (hkp : kp < 4) (hkd : kp >>> d &&& 1 = 0) : RO l yX5_restore wsX5_restore (rmR 2 43) G [(o, .inr (4, [.ref me, .ref h0, .ref im, .int (nI kp), .ref ta]))] [.ref o, .int (nI d)] (.int (-3)) := by
  refine RO.start (by decide) rfl (Nat.le_of_ble_eq_true rfl) ?_
  intro p e s m below meth c hx hb hr hml hts hown hlocks hP hE ls hl
  have hown : s.vm.findClass RX5 = some m.cls := hown
  have hl : lv_has ls 2 [(0, .ref o), (1, .int (nI d))] := hl
  refine lv_iload_n hx hb dX5_restore_0 rfl (lv_at hl 1 rfl) ?_
  refine lv_iconst (v := nI 2) hx hb dX5_restore_1 (by decide) ?_
  refine ro_S (rest := []) ⟨hx, hb, hml, hown, hts⟩ (c_X5_isBelow l G (nI d) 2) (va_cwS 2 hts gX5_restore_X5_isBelow rfl rfl rfl (by decide +kernel) ⟨Nat.le_of_ble_eq_true rfl, Nat.le_of_ble_eq_true rfl⟩) hE (hP.sub [] rfl) rfl hl.1 rfl (Nat.le_of_ble_eq_true rfl) dX5_restore_2 ⟨Nat.zero_le _, Nat.zero_le _⟩ ?_
  refine j_bool (fun c2 => ?_) (fun c2 => ?_)
  · skip
    refine j_if_ne (tgt := 11) hx hb dX5_restore_5 (by decide) (fun _ => ?_) (fun q => absurd q (by decide))
    refine lv_aload_n hx hb dX5_restore_11 rfl (lv_at hl 0 rfl) ?_
    refine va_get (D := G.1) (ci := 4) (v := .int (nI kp)) (C := RX5) (T := TX5) (N := 5) hx hb hts (fun w h => List.mem_cons_of_mem _ (List.mem_append_left _ (List.mem_append_left _ (List.mem_append_left _ (List.mem_append_right _ h))))) hown hE.1 hP 0 rfl rfl 3 (by decide) (hts (.fieldLink RX5 27 "TripleTrap" "imagesKept" "I") (List.mem_of_getElem? (i := 1) rfl)) (fun _ h9 => h9) rfl dX5_restore_12 ?_
    refine lv_iload_n hx hb dX5_restore_15 rfl (lv_at hl 1 rfl) ?_
    refine j_ushr hx hb dX5_restore_16 ?_
    refine lv_iconst (v := nI 1) hx hb dX5_restore_17 (by decide) ?_
    refine j_and hx hb dX5_restore_18 ?_
    refine j_if_ne (tgt := 25) hx hb dX5_restore_19 (by decide) (fun c19 => ?_) (fun c19 => ?_) (h1 := bd_and (by decide))
    · skip
      exact absurd hkd c19
    · skip
      refine lv_bipush (v := (-3)) hx hb dX5_restore_22 (by decide) ?_
      exact ro_ret hx hb hr hlocks dX5_restore_24 (rfl)
  · skip
    rw [blw_j hd (by decide)] at c2; exact absurd c2 (by decide)
set_option maxHeartbeats 4000000 in
set_option maxRecDepth 100000 in
/-- count -/
theorem c_X5_count (l : Launch) (G : EG) (at0 : Nat) (o : Nat) (me : Nat) (h0 : Nat) (im : Nat) (kp : Nat) (ta : Nat) (m0 : Nat) (t0 : Nat) (n0 : Nat) (f0 : Nat) (s0 : Nat) (b0 : Nat) (l0 : Nat) (V : Nat → Nat) (x : Int32) : RA l yX5_count wsX5_count (rmR 2 42) G at0 [(o, .inr (4, [.ref me, .ref h0, .ref im, .int (nI kp), .ref ta])), (h0, .inr (0, [.ref m0, .ref t0])), (m0, .inr (2, [.int (nI n0), .ref f0, .ref s0, .ref b0])), (t0, .inr (3, [.ref l0])), (l0, aI G 23 V)] [.ref o, .int x] (.int (cCount n0 kp V x)) := by
  refine RA.start (by decide) rfl (Nat.le_of_ble_eq_true rfl) ?_
  intro p e s m below meth c hx hb hr hml hts hown hlocks hP hE hAr ls hl
  have hown : s.vm.findClass RX5 = some m.cls := hown
  have hl : lv_has ls 2 [(0, .ref o), (1, .int x)] := hl
  refine lv_iload_n hx hb dX5_count_0 rfl (lv_at hl 1 rfl) ?_
  refine lv_if_ne (tgt := 15) hx hb dX5_count_1 (by decide) (fun c1 => ?_) (fun c1 => ?_)
  · skip
    refine lv_iload_n hx hb dX5_count_15 rfl (lv_at hl 1 rfl) ?_
    refine lv_iconst (v := nI 1) hx hb dX5_count_16 (by decide) ?_
    refine lv_icmp_ne (tgt := 33) hx hb dX5_count_17 (by decide) (fun c17 => ?_) (fun c17 => ?_)
    · skip
      refine lv_iload_n hx hb dX5_count_33 rfl (lv_at hl 1 rfl) ?_
      refine lv_iconst (v := nI 2) hx hb dX5_count_34 (by decide) ?_
      refine lv_icmp_ne (tgt := 43) hx hb dX5_count_35 (by decide) (fun c35 => ?_) (fun c35 => ?_)
      · skip
        refine lv_iload_n hx hb dX5_count_43 rfl (lv_at hl 1 rfl) ?_
        refine lv_bipush (v := nI 10) hx hb dX5_count_44 (by decide) ?_
        refine lv_icmp_lt (tgt := 64) hx hb dX5_count_46 (by decide) (fun c46 => ?_) (fun c46 => ?_)
        · skip
          refine lv_iload_n hx hb dX5_count_64 rfl (lv_at hl 1 rfl) ?_
          refine lv_bipush (v := nI 40) hx hb dX5_count_65 (by decide) ?_
          refine lv_icmp_lt (tgt := 92) hx hb dX5_count_67 (by decide) (fun c67 => ?_) (fun c67 => ?_)
          · skip
            refine lv_bipush (v := (-2)) hx hb dX5_count_92 (by decide) ?_
            exact ro_ret hx hb hr hlocks dX5_count_94 (by rw [cCount, if_neg c1, if_neg c17, if_neg c35, if_neg (inI_lo c46), if_neg (inI_lo (lt_nI_trans c46 (by decide) (by decide)))])
          · skip
            exact absurd (lt_nI_trans c46 (by decide) (by decide)) c67
        · skip
          refine lv_iload_n hx hb dX5_count_49 rfl (lv_at hl 1 rfl) ?_
          refine lv_bipush (v := nI 34) hx hb dX5_count_50 (by decide) ?_
          refine lv_icmp_ge (tgt := 64) hx hb dX5_count_52 (by decide) (fun c52 => ?_) (fun c52 => ?_)
          · skip
            refine lv_iload_n hx hb dX5_count_64 rfl (lv_at hl 1 rfl) ?_
            refine lv_bipush (v := nI 40) hx hb dX5_count_65 (by decide) ?_
            refine lv_icmp_lt (tgt := 92) hx hb dX5_count_67 (by decide) (fun c67 => ?_) (fun c67 => ?_)
            · skip
              refine lv_bipush (v := (-2)) hx hb dX5_count_92 (by decide) ?_
              exact ro_ret hx hb hr hlocks dX5_count_94 (by rw [cCount, if_neg c1, if_neg c17, if_neg c35, if_neg (inI_up c52 (by decide) (by decide)), if_neg (inI_lo c67)])
            · skip
              refine lv_iload_n hx hb dX5_count_70 rfl (lv_at hl 1 rfl) ?_
              refine lv_bipush (v := nI 63) hx hb dX5_count_71 (by decide) ?_
              refine lv_icmp_ge (tgt := 92) hx hb dX5_count_73 (by decide) (fun c73 => ?_) (fun c73 => ?_)
              · skip
                refine lv_bipush (v := (-2)) hx hb dX5_count_92 (by decide) ?_
                exact ro_ret hx hb hr hlocks dX5_count_94 (by rw [cCount, if_neg c1, if_neg c17, if_neg c35, if_neg (inI_up c52 (by decide) (by decide)), if_neg (inI_up c73 (by decide) (by decide))])
              · skip
                obtain ⟨j, hj1, hj2, rfl⟩ := rng_ex c67 c73 (by decide) (by decide)
                refine lv_aload_n hx hb dX5_count_76 rfl (lv_at hl 0 rfl) ?_
                refine va_get (D := G.1) (ci := 4) (v := .ref h0) (C := RX5) (T := TX5) (N := 5) hx hb hts (fun w h => List.mem_cons_of_mem _ (List.mem_append_left _ (List.mem_append_left _ (List.mem_append_left _ (List.mem_append_right _ h))))) hown hE.1 hP 0 rfl rfl 1 (by decide) (hts (.fieldLink RX5 19 "TripleTrap" "now" "LTripleTrap$Held;") (List.mem_of_getElem? (i := 1) rfl)) (fun _ h9 => h9) rfl dX5_count_77 ?_
                refine va_getN (host := "TripleTrap") (D := G.1) (ci := 0) (v := .ref t0) (C := RX1) (T := TX1) (N := 2) hx hb hts (fun w h => List.mem_cons_of_mem _ (List.mem_append_left _ (List.mem_append_left _ (List.mem_append_right _ h)))) hown hE.1 hP 1 rfl rfl 1 (by decide) (hE.nestB (w := .fieldLinkNest RX5 124 "TripleTrap$Held" "trust" "LTripleTrap$Trust;" "TripleTrap") 11 rfl rfl) (fun _ h9 => h9) rfl dX5_count_80 ?_
                refine va_getN (host := "TripleTrap") (D := G.1) (ci := 3) (v := .ref l0) (C := RX4) (T := TX4) (N := 1) hx hb hts (fun w h => List.mem_cons_of_mem _ (List.mem_append_right _ h)) hown hE.1 hP 3 rfl rfl 0 (by decide) (hE.nestB (w := .fieldLinkNest RX5 128 "TripleTrap$Trust" "levels" "[I" "TripleTrap") 9 rfl rfl) (fun _ h9 => h9) rfl dX5_count_83 ?_
                refine lv_iload_n hx hb dX5_count_86 rfl (lv_at hl 1 rfl) ?_
                refine lv_bipush (v := nI 40) hx hb dX5_count_87 (by decide) ?_
                refine j_sub hx hb dX5_count_89 ?_
                refine j_iald hx hb hE hP 4 rfl dX5_count_90 ?_
                exact ro_ret hx hb hr hlocks dX5_count_91 (by rw [cCount, if_neg c1, if_neg c17, if_neg c35, if_neg (inI_hi (by decide) hj1 (by decide) (by omega)), if_pos (inI_nI hj1 (by omega) (by decide) (by decide)), cl_nI (N := 63) hj2 (by decide)])
          · skip
            obtain ⟨j, hj1, hj2, rfl⟩ := rng_ex c46 c52 (by decide) (by decide)
            refine lv_iconst (v := nI 0) hx hb dX5_count_55 (by decide) ?_
            refine lv_iload_n hx hb dX5_count_56 rfl (lv_at hl 1 rfl) ?_
            refine lv_bipush (v := nI 10) hx hb dX5_count_57 (by decide) ?_
            refine j_sub hx hb dX5_count_59 ?_
            refine ra_S (rest := []) ⟨hx, hb, hml, hown, hts⟩ (c_X5_codeWordsAt l G at0 0 (j - 10) (by omega) (by omega)) (va_cwS 2 hts gX5_count_X5_codeWordsAt rfl rfl rfl (by decide +kernel) ⟨Nat.le_of_ble_eq_true rfl, Nat.le_of_ble_eq_true rfl⟩) hE (hP.sub [] rfl) hAr rfl hl.1 rfl (Nat.le_of_ble_eq_true rfl) dX5_count_60 ⟨Nat.zero_le _, Nat.zero_le _⟩ ?_
            exact ro_ret hx hb hr hlocks dX5_count_63 (by rw [cCount, if_neg c1, if_neg c17, if_neg c35, if_pos (inI_nI hj1 (by omega) (by decide) (by decide)), cl_nI (N := 34) hj2 (by decide)]; exact congrArg (fun z => Value.int (nI (arT z))) (by omega))
      · skip
        refine lv_aload_n hx hb dX5_count_38 rfl (lv_at hl 0 rfl) ?_
        refine va_get (D := G.1) (ci := 4) (v := .int (nI kp)) (C := RX5) (T := TX5) (N := 5) hx hb hts (fun w h => List.mem_cons_of_mem _ (List.mem_append_left _ (List.mem_append_left _ (List.mem_append_left _ (List.mem_append_right _ h))))) hown hE.1 hP 0 rfl rfl 3 (by decide) (hts (.fieldLink RX5 27 "TripleTrap" "imagesKept" "I") (List.mem_of_getElem? (i := 3) rfl)) (fun _ h9 => h9) rfl dX5_count_39 ?_
        exact ro_ret hx hb hr hlocks dX5_count_42 (by rw [cCount, if_neg c1, if_neg c17, if_pos c35])
    · skip
      refine lv_aload_n hx hb dX5_count_20 rfl (lv_at hl 0 rfl) ?_
      refine va_get (D := G.1) (ci := 4) (v := .ref h0) (C := RX5) (T := TX5) (N := 5) hx hb hts (fun w h => List.mem_cons_of_mem _ (List.mem_append_left _ (List.mem_append_left _ (List.mem_append_left _ (List.mem_append_right _ h))))) hown hE.1 hP 0 rfl rfl 1 (by decide) (hts (.fieldLink RX5 19 "TripleTrap" "now" "LTripleTrap$Held;") (List.mem_of_getElem? (i := 1) rfl)) (fun _ h9 => h9) rfl dX5_count_21 ?_
      refine va_getN (host := "TripleTrap") (D := G.1) (ci := 0) (v := .ref t0) (C := RX1) (T := TX1) (N := 2) hx hb hts (fun w h => List.mem_cons_of_mem _ (List.mem_append_left _ (List.mem_append_left _ (List.mem_append_right _ h)))) hown hE.1 hP 1 rfl rfl 1 (by decide) (hE.nestB (w := .fieldLinkNest RX5 124 "TripleTrap$Held" "trust" "LTripleTrap$Trust;" "TripleTrap") 11 rfl rfl) (fun _ h9 => h9) rfl dX5_count_24 ?_
      refine lv_ldc (v := nI 8388607) hx hb hown (hts (.constant RX5 80 (nI 8388607)) (List.mem_of_getElem? (i := 2) rfl)) dX5_count_27 ?_
      refine ro_VN 3 0 (rest := []) (host := "TripleTrap") ⟨hx, hb, hml, hown, hts⟩ (c_X4_sum l G t0 l0 V 8388607 (by omega)) ⟨va_cnB 1 hts gX5_count_X4_sum_n145 rfl rfl rfl (hE.nest (w := .methodLinkNest RX5 145 yX4_sum "TripleTrap") 31 rfl) (hts (.initialized RX4) (List.mem_of_getElem? (i := 5) rfl)) (by decide +kernel) ⟨Nat.le_of_ble_eq_true rfl, Nat.le_of_ble_eq_true rfl⟩, hts (.instanceMethod yX4_sum) (List.mem_of_getElem? (i := 4) rfl), hts (.selects RX4 yX4_sum yX4_sum) (List.mem_of_getElem? (i := 6) rfl)⟩ hE (hP.sub [3, 4] rfl) rfl rfl rfl hl.1 rfl (Nat.le_of_ble_eq_true rfl) dX5_count_29 ⟨Nat.zero_le _, Nat.zero_le _⟩ ?_
      exact ro_ret hx hb hr hlocks dX5_count_32 (by rw [cCount, if_neg c1, if_pos c17])
  · skip
    refine lv_aload_n hx hb dX5_count_4 rfl (lv_at hl 0 rfl) ?_
    refine va_get (D := G.1) (ci := 4) (v := .ref h0) (C := RX5) (T := TX5) (N := 5) hx hb hts (fun w h => List.mem_cons_of_mem _ (List.mem_append_left _ (List.mem_append_left _ (List.mem_append_left _ (List.mem_append_right _ h))))) hown hE.1 hP 0 rfl rfl 1 (by decide) (hts (.fieldLink RX5 19 "TripleTrap" "now" "LTripleTrap$Held;") (List.mem_of_getElem? (i := 1) rfl)) (fun _ h9 => h9) rfl dX5_count_5 ?_
    refine va_getN (host := "TripleTrap") (D := G.1) (ci := 0) (v := .ref m0) (C := RX1) (T := TX1) (N := 2) hx hb hts (fun w h => List.mem_cons_of_mem _ (List.mem_append_left _ (List.mem_append_left _ (List.mem_append_right _ h)))) hown hE.1 hP 1 rfl rfl 0 (by decide) (hE.nestB (w := .fieldLinkNest RX5 91 "TripleTrap$Held" "moves" "LTripleTrap$Moves;" "TripleTrap") 10 rfl rfl) (fun _ h9 => h9) rfl dX5_count_8 ?_
    refine va_getN (host := "TripleTrap") (D := G.1) (ci := 2) (v := .int (nI n0)) (C := RX3) (T := TX3) (N := 4) hx hb hts (fun w h => List.mem_cons_of_mem _ (List.mem_append_left _ (List.mem_append_right _ h))) hown hE.1 hP 2 rfl rfl 0 (by decide) (hE.nestB (w := .fieldLinkNest RX5 95 "TripleTrap$Moves" "size" "I" "TripleTrap") 5 rfl rfl) (fun _ h9 => h9) rfl dX5_count_11 ?_
    exact ro_ret hx hb hr hlocks dX5_count_14 (by rw [cCount, if_pos c1])
