set_option maxHeartbeats 4000000 in
set_option maxRecDepth 100000 in
/-- isThere -/
theorem c_X6_isThere (l : Launch) (G : EG) (o : Nat) (sa : Nat) (ia : Nat) (ka : Nat) (ea : Nat) (ca : Nat) (tr : Nat) (fi : Int32) (X : Nat → Nat) (hX0 : X 0 ≤ 8) (x : Int32) : RO l yX6_isThere wsX6_isThere (rmR 1 22) G [(o, .inr (5, [.ref sa, .ref ia, .ref ka, .ref ea, .int (nI tr), .int fi, .ref ca])), (sa, aI G 40 X)] [.ref o, .int x] (.int (nI (blw x (X 0)).toNat)) := by
  refine RO.start (by decide) rfl (Nat.le_of_ble_eq_true rfl) ?_
  intro p e s m below meth c hx hb hr hml hts hown hlocks hP hE ls hl
  have hown : s.vm.findClass RX6 = some m.cls := hown
  have hl : lv_has ls 2 [(0, .ref o), (1, .int x)] := hl
  refine lv_iload_n hx hb dX6_isThere_0 rfl (lv_at hl 1 rfl) ?_
  refine lv_iconst (v := nI 0) hx hb dX6_isThere_1 (by decide) ?_
  refine lv_aload_n hx hb dX6_isThere_2 rfl (lv_at hl 0 rfl) ?_
  refine va_get (D := G.1) (ci := 5) (v := .ref sa) (C := RX6) (T := TX6) (N := 7) hx hb hts (fun w h => List.mem_cons_of_mem _ (List.mem_append_right _ h)) hown hE.1 hP 0 rfl rfl 0 (by decide) (hts (.fieldLink RX6 7 "TripleTrapModel" "state" "[I") (List.mem_of_getElem? (i := 1) rfl)) (fun _ h9 => h9) rfl dX6_isThere_3 ?_
  refine lv_iconst (v := nI 0) hx hb dX6_isThere_6 (by decide) ?_
  refine j_iald hx hb hE hP 1 rfl dX6_isThere_7 ?_
  refine lv_iconst (v := nI 1) hx hb dX6_isThere_8 (by decide) ?_
  refine lv_isub hx hb dX6_isThere_9 ?_
  refine ro_S (rest := []) ⟨hx, hb, hml, hown, hts⟩ (c_X6_in l G x (nI 0) ((nI (X 0)) - (nI 1))) (va_cwS 3 hts gX6_isThere_X6_in rfl rfl rfl (by decide +kernel) ⟨Nat.le_of_ble_eq_true rfl, Nat.le_of_ble_eq_true rfl⟩) hE (hP.sub [] rfl) rfl hl.1 rfl (Nat.le_of_ble_eq_true rfl) dX6_isThere_10 ⟨Nat.zero_le _, Nat.zero_le _⟩ ?_
  refine j_bool (fun c10 => ?_) (fun c10 => ?_)
  · skip
    exact ro_zret hx hb hr hlocks dX6_isThere_13 (by rw [← inI_sub x (by omega), c10]; rfl) rfl
  · skip
    exact ro_zret hx hb hr hlocks dX6_isThere_13 (by rw [← inI_sub x (by omega), c10]; rfl) rfl
set_option maxHeartbeats 4000000 in
set_option maxRecDepth 100000 in
/-- move -/
theorem c_X6_move (l : Launch) (G : EG) (o : Nat) (sa : Nat) (ia : Nat) (ka : Nat) (ea : Nat) (ca : Nat) (tr : Nat) (fi : Int32) (X : Nat → Nat) (hX0 : X 0 ≤ 8) (x : Int32) (y : Int32) (sz : Nat) : WR l yX6_move wsX6_move (rmR 3 69) G sz [(o, .inr (5, [.ref sa, .ref ia, .ref ka, .ref ea, .int (nI tr), .int fi, .ref ca])), (sa, aI G 40 X)] [.ref o, .int x, .int y] [(o, .inr (5, [.ref sa, .ref ia, .ref ka, .ref ea, .int (nI tr), .int fi, .ref ca])), (sa, aI G 40 (mMoveX X x y))] (some (.int (mMoveR X x y))) := by
  refine WR.start (by decide) rfl (Nat.le_of_ble_eq_true rfl) ?_
  intro p e s m below meth c hx hb hr hml hts hown hlocks hE A hA H locs hP hD hS ls hl
  have hown : s.vm.findClass RX6 = some m.cls := hown
  have hl : lv_has ls 4 [(0, .ref o), (1, .int x), (2, .int y)] := hl
  refine lv_iload_n hx hb dX6_move_0 rfl (lv_at hl 1 rfl) ?_
  refine lv_iload_n hx hb dX6_move_1 rfl (lv_at hl 2 rfl) ?_
  refine ro_S (rest := []) ⟨hx, hb, hml, hown, hts⟩ (c_X6_isMove l G x y) (va_cwS 2 hts gX6_move_X6_isMove rfl rfl rfl (by decide +kernel) ⟨Nat.le_of_ble_eq_true rfl, Nat.le_of_ble_eq_true rfl⟩) hE (hP.sub [] rfl) rfl hl.1 rfl (Nat.le_of_ble_eq_true rfl) dX6_move_2 ⟨Nat.zero_le _, Nat.zero_le _⟩ ?_
  refine j_bool (fun c2 => ?_) (fun c2 => ?_)
  · skip
    obtain ⟨a, d, ha0, ha, hd, rfl, rfl⟩ := mv_ex c2
    refine j_if_ne (tgt := 11) hx hb dX6_move_5 (by decide) (fun _ => ?_) (fun q => absurd q (by decide))
    refine lv_iload_n hx hb dX6_move_11 rfl (lv_at hl 1 rfl) ?_
    refine lv_iload_n hx hb dX6_move_12 rfl (lv_at hl 2 rfl) ?_
    refine ro_S (rest := []) ⟨hx, hb, hml, hown, hts⟩ (c_X6_keepsCode l G a d (by omega) (by omega)) (va_cwS 2 hts gX6_move_X6_keepsCode rfl rfl rfl (by decide +kernel) ⟨Nat.le_of_ble_eq_true rfl, Nat.le_of_ble_eq_true rfl⟩) hE (hP.sub [] rfl) rfl hl.1 rfl (Nat.le_of_ble_eq_true rfl) dX6_move_13 ⟨Nat.zero_le _, Nat.zero_le _⟩ ?_
    refine j_bool (fun c13 => ?_) (fun c13 => ?_)
    · skip
      refine j_if_ne (tgt := 22) hx hb dX6_move_16 (by decide) (fun _ => ?_) (fun q => absurd q (by decide))
      refine lv_aload_n hx hb dX6_move_22 rfl (lv_at hl 0 rfl) ?_
      refine va_get (D := G.1) (ci := 5) (v := .ref sa) (C := RX6) (T := TX6) (N := 7) hx hb hts (fun w h => List.mem_cons_of_mem _ (List.mem_append_right _ h)) hown hE.1 hP 0 rfl rfl 0 (by decide) (hts (.fieldLink RX6 7 "TripleTrapModel" "state" "[I") (List.mem_of_getElem? (i := 1) rfl)) (fun _ h9 => h9) rfl dX6_move_23 ?_
      refine lv_iconst (v := nI 0) hx hb dX6_move_26 (by decide) ?_
      refine j_iald hx hb hE hP 1 rfl dX6_move_27 ?_
      refine j_top (fun x28 ex28 => ?_)
      refine lv_istore_n (lv' := [(3, .int (nI x28)), (0, .ref o), (1, .int (nI a)), (2, .int (nI d))]) hx hb dX6_move_28 rfl hl (by decide) rfl (fun ls hl => ?_)
      refine lv_iload_n hx hb dX6_move_29 rfl (lv_at hl 0 rfl) ?_
      refine lv_bipush (v := nI 8) hx hb dX6_move_30 (by decide) ?_
      refine j_icmp_ne (tgt := 38) hx hb dX6_move_32 (by decide) (fun c32 => ?_) (fun c32 => ?_)
      · skip
        refine lv_aload_n hx hb dX6_move_38 rfl (lv_at hl 1 rfl) ?_
        refine va_get (D := G.1) (ci := 5) (v := .ref sa) (C := RX6) (T := TX6) (N := 7) hx hb hts (fun w h => List.mem_cons_of_mem _ (List.mem_append_right _ h)) hown hE.1 hP 0 rfl rfl 0 (by decide) (hts (.fieldLink RX6 7 "TripleTrapModel" "state" "[I") (List.mem_of_getElem? (i := 1) rfl)) (fun _ h9 => h9) rfl dX6_move_39 ?_
        refine lv_iconst (v := nI 1) hx hb dX6_move_42 (by decide) ?_
        refine lv_iload_n hx hb dX6_move_43 rfl (lv_at hl 0 rfl) ?_
        refine j_add hx hb dX6_move_44 ?_
        refine lv_iload_n hx hb dX6_move_45 rfl (lv_at hl 2 rfl) ?_
        refine j_iast hx hb hE hP hD hS 1 rfl dX6_move_46 (fun H locs hP hD hS => ?_)
        have hP : va_P G.1 vwCl [(o, .inr (5, [.ref sa, .ref ia, .ref ka, .ref ea, .int (nI tr), .int fi, .ref ca])), (sa, aI G 40 (va_up X (1 + x28) a))] H := hP
        have hD : va_D A [(o, .inr (5, [.ref sa, .ref ia, .ref ka, .ref ea, .int (nI tr), .int fi, .ref ca])), (sa, aI G 40 (va_up X (1 + x28) a))] := hD
        refine lv_aload_n hx hb dX6_move_47 rfl (lv_at hl 1 rfl) ?_
        refine va_get (D := G.1) (ci := 5) (v := .ref sa) (C := RX6) (T := TX6) (N := 7) hx hb hts (fun w h => List.mem_cons_of_mem _ (List.mem_append_right _ h)) hown hE.1 hP 0 rfl rfl 0 (by decide) (hts (.fieldLink RX6 7 "TripleTrapModel" "state" "[I") (List.mem_of_getElem? (i := 1) rfl)) (fun _ h9 => h9) rfl dX6_move_48 ?_
        refine lv_bipush (v := nI 9) hx hb dX6_move_51 (by decide) ?_
        refine lv_iload_n hx hb dX6_move_53 rfl (lv_at hl 0 rfl) ?_
        refine j_add hx hb dX6_move_54 ?_
        refine lv_iload_n hx hb dX6_move_55 rfl (lv_at hl 3 rfl) ?_
        refine j_iast hx hb hE hP hD hS 1 rfl dX6_move_56 (fun H locs hP hD hS => ?_)
        have hP : va_P G.1 vwCl [(o, .inr (5, [.ref sa, .ref ia, .ref ka, .ref ea, .int (nI tr), .int fi, .ref ca])), (sa, aI G 40 (va_up (va_up X (1 + x28) a) (9 + x28) d))] H := hP
        have hD : va_D A [(o, .inr (5, [.ref sa, .ref ia, .ref ka, .ref ea, .int (nI tr), .int fi, .ref ca])), (sa, aI G 40 (va_up (va_up X (1 + x28) a) (9 + x28) d))] := hD
        refine lv_aload_n hx hb dX6_move_57 rfl (lv_at hl 1 rfl) ?_
        refine va_get (D := G.1) (ci := 5) (v := .ref sa) (C := RX6) (T := TX6) (N := 7) hx hb hts (fun w h => List.mem_cons_of_mem _ (List.mem_append_right _ h)) hown hE.1 hP 0 rfl rfl 0 (by decide) (hts (.fieldLink RX6 7 "TripleTrapModel" "state" "[I") (List.mem_of_getElem? (i := 1) rfl)) (fun _ h9 => h9) rfl dX6_move_58 ?_
        refine lv_iconst (v := nI 0) hx hb dX6_move_61 (by decide) ?_
        refine lv_dup2_11 hx hb dX6_move_62 rfl rfl ?_
        refine j_iald hx hb hE hP 1 rfl dX6_move_63 ?_
        refine lv_iconst (v := nI 1) hx hb dX6_move_64 (by decide) ?_
        refine j_add hx hb dX6_move_65 ?_
        refine j_iast hx hb hE hP hD hS 1 rfl dX6_move_66 (fun H locs hP hD hS => ?_)
        have hP : va_P G.1 vwCl [(o, .inr (5, [.ref sa, .ref ia, .ref ka, .ref ea, .int (nI tr), .int fi, .ref ca])), (sa, aI G 40 (va_up (va_up (va_up X (1 + x28) a) (9 + x28) d) 0 (((va_up (va_up X (1 + x28) a) (9 + x28) d) 0) + 1)))] H := hP
        have hD : va_D A [(o, .inr (5, [.ref sa, .ref ia, .ref ka, .ref ea, .int (nI tr), .int fi, .ref ca])), (sa, aI G 40 (va_up (va_up (va_up X (1 + x28) a) (9 + x28) d) 0 (((va_up (va_up X (1 + x28) a) (9 + x28) d) 0) + 1)))] := hD
        refine lv_iload_n hx hb dX6_move_67 rfl (lv_at hl 0 rfl) ?_
        have eF : va_up (va_up (va_up X (1 + x28) a) (9 + x28) d) 0 (((va_up (va_up X (1 + x28) a) (9 + x28) d) 0) + 1) = mMoveX X (nI a) (nI d) := by rw [mMoveX, cl_nI ha (by decide), cl_nI hd (by decide), if_pos ⟨c2, c13, fun h => c32 (by rw [ex28]; exact h)⟩, up_ne (by omega), up_ne (by omega), ex28]
        rw [eF] at hP hD
        clear eF
        exact wr_ret hx hb hr hlocks dX6_move_68 hP hD hS (by rw [mMoveR, if_pos c2, cl_nI ha (by decide), cl_nI hd (by decide), if_pos c13, if_neg (fun h => c32 (by rw [ex28]; exact h)), ex28])
      · skip
        refine lv_bipush (v := (-4)) hx hb dX6_move_35 (by decide) ?_
        have eF : X = mMoveX X (nI a) (nI d) := by rw [mMoveX, if_neg (fun h => h.2.2 (by rw [← ex28]; exact c32))]
        rw [eF] at hP hD
        clear eF
        exact wr_ret hx hb hr hlocks dX6_move_37 hP hD hS (by rw [mMoveR, if_pos c2, cl_nI ha (by decide), cl_nI hd (by decide), if_pos c13, if_pos (by rw [← ex28]; exact c32)])
    · skip
      refine j_if_ne (tgt := 22) hx hb dX6_move_16 (by decide) (fun q => absurd q (by decide)) (fun _ => ?_)
      refine lv_bipush (v := (-5)) hx hb dX6_move_19 (by decide) ?_
      have eF : X = mMoveX X (nI a) (nI d) := by rw [mMoveX, if_neg (fun h => by rw [cl_nI ha (by decide), cl_nI hd (by decide), c13] at h; exact absurd h.2.1 (by decide))]
      rw [eF] at hP hD
      clear eF
      exact wr_ret hx hb hr hlocks dX6_move_21 hP hD hS (by rw [mMoveR, if_pos c2, cl_nI ha (by decide), cl_nI hd (by decide), if_neg (by rw [c13]; decide)])
  · skip
    refine j_if_ne (tgt := 11) hx hb dX6_move_5 (by decide) (fun q => absurd q (by decide)) (fun _ => ?_)
    refine lv_bipush (v := (-2)) hx hb dX6_move_8 (by decide) ?_
    have eF : X = mMoveX X x y := by rw [mMoveX, if_neg (fun h => by rw [c2] at h; exact absurd h.1 (by decide))]
    rw [eF] at hP hD
    clear eF
    exact wr_ret hx hb hr hlocks dX6_move_10 hP hD hS (by rw [mMoveR, if_neg (by rw [c2]; decide)])
set_option maxHeartbeats 4000000 in
set_option maxRecDepth 100000 in
/-- drop -/
theorem c_X6_drop (l : Launch) (G : EG) (o : Nat) (sa : Nat) (ia : Nat) (ka : Nat) (ea : Nat) (ca : Nat) (tr : Nat) (fi : Int32) (X : Nat → Nat) (hX0 : X 0 ≤ 8) (x : Int32) (sz : Nat) : WR l yX6_drop wsX6_drop (rmR 2 43) G sz [(o, .inr (5, [.ref sa, .ref ia, .ref ka, .ref ea, .int (nI tr), .int fi, .ref ca])), (sa, aI G 40 X)] [.ref o, .int x] [(o, .inr (5, [.ref sa, .ref ia, .ref ka, .ref ea, .int (nI tr), .int fi, .ref ca])), (sa, aI G 40 (mDropX X x))] (some (.int (mDropR X x))) := by
  refine WR.start (by decide) rfl (Nat.le_of_ble_eq_true rfl) ?_
  intro p e s m below meth c hx hb hr hml hts hown hlocks hE A hA H locs hP hD hS ls hl
  have hown : s.vm.findClass RX6 = some m.cls := hown
  have hl : lv_has ls 3 [(0, .ref o), (1, .int x)] := hl
  refine lv_aload_n hx hb dX6_drop_0 rfl (lv_at hl 0 rfl) ?_
  refine lv_iload_n hx hb dX6_drop_1 rfl (lv_at hl 1 rfl) ?_
  refine ro_V 5 0 (rest := []) ⟨hx, hb, hml, hown, hts⟩ (c_X6_isThere l G o sa ia ka ea ca tr fi X hX0 x) (cwV 1 hts gX6_drop_X6_isThere rfl rfl rfl (by decide +kernel) ⟨Nat.le_of_ble_eq_true rfl, Nat.le_of_ble_eq_true rfl⟩) hE (hP.sub [0, 1] rfl) rfl rfl rfl hl.1 rfl (Nat.le_of_ble_eq_true rfl) dX6_drop_2 ⟨Nat.zero_le _, Nat.zero_le _⟩ ?_
  refine j_bool (fun c2 => ?_) (fun c2 => ?_)
  · skip
    obtain ⟨d, hd, rfl⟩ := blw_ex c2 (by omega)
    refine j_if_ne (tgt := 10) hx hb dX6_drop_5 (by decide) (fun _ => ?_) (fun q => absurd q (by decide))
    refine lv_iload_n hx hb dX6_drop_10 rfl (lv_at hl 1 rfl) ?_
    refine lv_istore_n (lv' := [(2, .int (nI d)), (0, .ref o), (1, .int (nI d))]) hx hb dX6_drop_11 rfl hl (by decide) rfl (fun ls hl => ?_)
    have loop12 : ∀ (fuel : Nat) (q : Nat) (F : Nat → Nat), (d ≤ q) → (q < X 0) → (F = drpF X d (q - d)) → X 0 - q < fuel → ∀ (H : Heap) (locs : List Loc), va_P G.1 vwCl [(o, .inr (5, [.ref sa, .ref ia, .ref ka, .ref ea, .int (nI tr), .int fi, .ref ca])), (sa, aI G 40 F)] H → va_D A [(o, .inr (5, [.ref sa, .ref ia, .ref ka, .ref ea, .int (nI tr), .int fi, .ref ca])), (sa, aI G 40 F)] → va_S A s.heap H locs → ∀ ls : Array Slot, lv_has ls 3 [(2, .int (nI q)), (0, .ref o), (1, .int (nI d))] → W p l e (rmR 2 43) s m ([.ref o, .int (nI d)] : List Value).toArray below meth c H locs 0 0 (MQ below (postW G [(o, .inr (5, [.ref sa, .ref ia, .ref ka, .ref ea, .int (nI tr), .int fi, .ref ca])), (sa, aI G 40 (mDropX X (nI d)))] (some (.int (mDropR X (nI d)))) A) ([.ref o, .int (nI d)] : List Value).toArray s 0 0 A) (F0 m 12 ls []) := by
      intro fuel
      induction fuel with
      | zero => intro q F h1 h2 h3 hf; exact absurd hf (Nat.not_lt_zero _)
      | succ fuel ih12 =>
        intro q F h1 h2 h3 hf H locs hP hD hS ls hl
        have hF0 : F 0 = X 0 := by rw [h3, drpF_0]
        refine lv_iload_n hx hb dX6_drop_12 rfl (lv_at hl 0 rfl) ?_
        refine lv_iconst (v := nI 1) hx hb dX6_drop_13 (by decide) ?_
        refine j_add hx hb dX6_drop_14 ?_
        refine lv_aload_n hx hb dX6_drop_15 rfl (lv_at hl 1 rfl) ?_
        refine va_get (D := G.1) (ci := 5) (v := .ref sa) (C := RX6) (T := TX6) (N := 7) hx hb hts (fun w h => List.mem_cons_of_mem _ (List.mem_append_right _ h)) hown hE.1 hP 0 rfl rfl 0 (by decide) (hts (.fieldLink RX6 7 "TripleTrapModel" "state" "[I") (List.mem_of_getElem? (i := 1) rfl)) (fun _ h9 => h9) rfl dX6_drop_16 ?_
        refine lv_iconst (v := nI 0) hx hb dX6_drop_19 (by decide) ?_
        refine j_iald hx hb hE hP 1 rfl dX6_drop_20 ?_
        refine j_icmp_ge (tgt := 68) hx hb dX6_drop_21 (by decide) (fun c21 => ?_) (fun c21 => ?_)
        · skip
          refine lv_aload_n hx hb dX6_drop_68 rfl (lv_at hl 1 rfl) ?_
          refine va_get (D := G.1) (ci := 5) (v := .ref sa) (C := RX6) (T := TX6) (N := 7) hx hb hts (fun w h => List.mem_cons_of_mem _ (List.mem_append_right _ h)) hown hE.1 hP 0 rfl rfl 0 (by decide) (hts (.fieldLink RX6 7 "TripleTrapModel" "state" "[I") (List.mem_of_getElem? (i := 1) rfl)) (fun _ h9 => h9) rfl dX6_drop_69 ?_
          refine lv_iconst (v := nI 0) hx hb dX6_drop_72 (by decide) ?_
          refine lv_dup2_11 hx hb dX6_drop_73 rfl rfl ?_
          refine j_iald hx hb hE hP 1 rfl dX6_drop_74 ?_
          refine lv_iconst (v := nI 1) hx hb dX6_drop_75 (by decide) ?_
          refine j_sub hx hb dX6_drop_76 ?_
          refine j_iast hx hb hE hP hD hS 1 rfl dX6_drop_77 (fun H locs hP hD hS => ?_)
          have hP : va_P G.1 vwCl [(o, .inr (5, [.ref sa, .ref ia, .ref ka, .ref ea, .int (nI tr), .int fi, .ref ca])), (sa, aI G 40 (va_up F 0 ((F 0) - 1)))] H := hP
          have hD : va_D A [(o, .inr (5, [.ref sa, .ref ia, .ref ka, .ref ea, .int (nI tr), .int fi, .ref ca])), (sa, aI G 40 (va_up F 0 ((F 0) - 1)))] := hD
          refine lv_aload_n hx hb dX6_drop_78 rfl (lv_at hl 1 rfl) ?_
          refine va_get (D := G.1) (ci := 5) (v := .ref sa) (C := RX6) (T := TX6) (N := 7) hx hb hts (fun w h => List.mem_cons_of_mem _ (List.mem_append_right _ h)) hown hE.1 hP 0 rfl rfl 0 (by decide) (hts (.fieldLink RX6 7 "TripleTrapModel" "state" "[I") (List.mem_of_getElem? (i := 1) rfl)) (fun _ h9 => h9) rfl dX6_drop_79 ?_
          refine lv_iconst (v := nI 0) hx hb dX6_drop_82 (by decide) ?_
          refine j_iald hx hb hE hP 1 rfl dX6_drop_83 ?_
          have eF : va_up F 0 ((F 0) - 1) = mDropX X (nI d) := by rw [mDropX, if_pos c2, cl_nI hd (by omega), hF0, h3, show q - d = X 0 - 1 - d by omega]
          rw [eF] at hP hD
          clear eF
          exact wr_ret hx hb hr hlocks dX6_drop_84 hP hD hS (by rw [mDropR, if_pos c2, up_eq, hF0])
        · skip
          refine lv_aload_n hx hb dX6_drop_24 rfl (lv_at hl 1 rfl) ?_
          refine va_get (D := G.1) (ci := 5) (v := .ref sa) (C := RX6) (T := TX6) (N := 7) hx hb hts (fun w h => List.mem_cons_of_mem _ (List.mem_append_right _ h)) hown hE.1 hP 0 rfl rfl 0 (by decide) (hts (.fieldLink RX6 7 "TripleTrapModel" "state" "[I") (List.mem_of_getElem? (i := 1) rfl)) (fun _ h9 => h9) rfl dX6_drop_25 ?_
          refine lv_iconst (v := nI 1) hx hb dX6_drop_28 (by decide) ?_
          refine lv_iload_n hx hb dX6_drop_29 rfl (lv_at hl 0 rfl) ?_
          refine j_add hx hb dX6_drop_30 ?_
          refine lv_aload_n hx hb dX6_drop_31 rfl (lv_at hl 1 rfl) ?_
          refine va_get (D := G.1) (ci := 5) (v := .ref sa) (C := RX6) (T := TX6) (N := 7) hx hb hts (fun w h => List.mem_cons_of_mem _ (List.mem_append_right _ h)) hown hE.1 hP 0 rfl rfl 0 (by decide) (hts (.fieldLink RX6 7 "TripleTrapModel" "state" "[I") (List.mem_of_getElem? (i := 1) rfl)) (fun _ h9 => h9) rfl dX6_drop_32 ?_
          refine lv_iconst (v := nI 1) hx hb dX6_drop_35 (by decide) ?_
          refine lv_iload_n hx hb dX6_drop_36 rfl (lv_at hl 0 rfl) ?_
          refine j_add hx hb dX6_drop_37 ?_
          refine lv_iconst (v := nI 1) hx hb dX6_drop_38 (by decide) ?_
          refine j_add hx hb dX6_drop_39 ?_
          refine j_iald hx hb hE hP 1 rfl dX6_drop_40 ?_
          refine j_iast hx hb hE hP hD hS 1 rfl dX6_drop_41 (fun H locs hP hD hS => ?_)
          have hP : va_P G.1 vwCl [(o, .inr (5, [.ref sa, .ref ia, .ref ka, .ref ea, .int (nI tr), .int fi, .ref ca])), (sa, aI G 40 (va_up F (1 + q) (F ((1 + q) + 1))))] H := hP
          have hD : va_D A [(o, .inr (5, [.ref sa, .ref ia, .ref ka, .ref ea, .int (nI tr), .int fi, .ref ca])), (sa, aI G 40 (va_up F (1 + q) (F ((1 + q) + 1))))] := hD
          refine lv_aload_n hx hb dX6_drop_42 rfl (lv_at hl 1 rfl) ?_
          refine va_get (D := G.1) (ci := 5) (v := .ref sa) (C := RX6) (T := TX6) (N := 7) hx hb hts (fun w h => List.mem_cons_of_mem _ (List.mem_append_right _ h)) hown hE.1 hP 0 rfl rfl 0 (by decide) (hts (.fieldLink RX6 7 "TripleTrapModel" "state" "[I") (List.mem_of_getElem? (i := 1) rfl)) (fun _ h9 => h9) rfl dX6_drop_43 ?_
          refine lv_bipush (v := nI 9) hx hb dX6_drop_46 (by decide) ?_
          refine lv_iload_n hx hb dX6_drop_48 rfl (lv_at hl 0 rfl) ?_
          refine j_add hx hb dX6_drop_49 ?_
          refine lv_aload_n hx hb dX6_drop_50 rfl (lv_at hl 1 rfl) ?_
          refine va_get (D := G.1) (ci := 5) (v := .ref sa) (C := RX6) (T := TX6) (N := 7) hx hb hts (fun w h => List.mem_cons_of_mem _ (List.mem_append_right _ h)) hown hE.1 hP 0 rfl rfl 0 (by decide) (hts (.fieldLink RX6 7 "TripleTrapModel" "state" "[I") (List.mem_of_getElem? (i := 1) rfl)) (fun _ h9 => h9) rfl dX6_drop_51 ?_
          refine lv_bipush (v := nI 9) hx hb dX6_drop_54 (by decide) ?_
          refine lv_iload_n hx hb dX6_drop_56 rfl (lv_at hl 0 rfl) ?_
          refine j_add hx hb dX6_drop_57 ?_
          refine lv_iconst (v := nI 1) hx hb dX6_drop_58 (by decide) ?_
          refine j_add hx hb dX6_drop_59 ?_
          refine j_iald hx hb hE hP 1 rfl dX6_drop_60 ?_
          refine j_iast hx hb hE hP hD hS 1 rfl dX6_drop_61 (fun H locs hP hD hS => ?_)
          have hP : va_P G.1 vwCl [(o, .inr (5, [.ref sa, .ref ia, .ref ka, .ref ea, .int (nI tr), .int fi, .ref ca])), (sa, aI G 40 (va_up (va_up F (1 + q) (F ((1 + q) + 1))) (9 + q) ((va_up F (1 + q) (F ((1 + q) + 1))) ((9 + q) + 1))))] H := hP
          have hD : va_D A [(o, .inr (5, [.ref sa, .ref ia, .ref ka, .ref ea, .int (nI tr), .int fi, .ref ca])), (sa, aI G 40 (va_up (va_up F (1 + q) (F ((1 + q) + 1))) (9 + q) ((va_up F (1 + q) (F ((1 + q) + 1))) ((9 + q) + 1))))] := hD
          obtain ⟨x62, ex62⟩ : ∃ y : Nat, y = q + 1 := ⟨_, rfl⟩
          refine lv_iinc (v := nI x62) (lv' := [(2, .int (nI x62)), (0, .ref o), (1, .int (nI d))]) hx hb dX6_drop_62 hl (k := 0) rfl (by rw [ex62]; exact nI_add _ _) (by decide) rfl (fun ls hl => ?_)
          refine lv_goto (tgt := 12) hx hb dX6_drop_65 (by decide) ?_
          exact ih12 x62 (va_up (va_up F (1 + q) (F ((1 + q) + 1))) (9 + q) ((va_up F (1 + q) (F ((1 + q) + 1))) ((9 + q) + 1))) (by omega) (by omega) (by rw [ex62, show q + 1 - d = (q - d) + 1 by omega, drpF, ← h3, show d + (q - d) = q by omega]; rfl) (by omega) H locs hP hD hS ls (lv_sub hl [0, 1, 2] rfl)
    exact loop12 _ d X (by omega) (by omega) (by rw [Nat.sub_self]; rfl) (Nat.lt_succ_self _) H locs hP hD hS ls (lv_sub hl [0, 1, 2] rfl)
  · skip
    refine j_if_ne (tgt := 10) hx hb dX6_drop_5 (by decide) (fun q => absurd q (by decide)) (fun _ => ?_)
    refine lv_iconst (v := (-1)) hx hb dX6_drop_8 (by decide) ?_
    have eF : X = mDropX X x := by rw [mDropX, if_neg (by rw [c2]; decide)]
    rw [eF] at hP hD
    clear eF
    exact wr_ret hx hb hr hlocks dX6_drop_9 hP hD hS (by rw [mDropR, if_neg (by rw [c2]; decide)])
set_option maxHeartbeats 4000000 in
set_option maxRecDepth 100000 in
/-- bringsTo -/
theorem c_X6_bringsTo (l : Launch) (G : EG) (o : Nat) (sa : Nat) (ia : Nat) (ka : Nat) (ea : Nat) (ca : Nat) (tr : Nat) (fi : Int32) (X : Nat → Nat) (k : Nat) (q : Nat) (hk : k < 8) (hpl : X (1 + k) * q + X (9 + k) < 2147483648) : RO l yX6_bringsTo wsX6_bringsTo (rmR 1 22) G [(o, .inr (5, [.ref sa, .ref ia, .ref ka, .ref ea, .int (nI tr), .int fi, .ref ca])), (sa, aI G 40 X)] [.ref o, .int (nI k), .int (nI q)] (.int (nI (brX X k q).toNat)) := by
  refine RO.start (by decide) rfl (Nat.le_of_ble_eq_true rfl) ?_
  intro p e s m below meth c hx hb hr hml hts hown hlocks hP hE ls hl
  have hown : s.vm.findClass RX6 = some m.cls := hown
  have hl : lv_has ls 3 [(0, .ref o), (1, .int (nI k)), (2, .int (nI q))] := hl
  refine lv_iload_n hx hb dX6_bringsTo_0 rfl (lv_at hl 2 rfl) ?_
  refine lv_aload_n hx hb dX6_bringsTo_1 rfl (lv_at hl 0 rfl) ?_
  refine va_get (D := G.1) (ci := 5) (v := .ref sa) (C := RX6) (T := TX6) (N := 7) hx hb hts (fun w h => List.mem_cons_of_mem _ (List.mem_append_right _ h)) hown hE.1 hP 0 rfl rfl 0 (by decide) (hts (.fieldLink RX6 7 "TripleTrapModel" "state" "[I") (List.mem_of_getElem? (i := 1) rfl)) (fun _ h9 => h9) rfl dX6_bringsTo_2 ?_
  refine lv_iconst (v := nI 1) hx hb dX6_bringsTo_5 (by decide) ?_
  refine lv_iload_n hx hb dX6_bringsTo_6 rfl (lv_at hl 1 rfl) ?_
  refine j_add hx hb dX6_bringsTo_7 ?_
  refine j_iald hx hb hE hP 1 rfl dX6_bringsTo_8 ?_
  refine lv_aload_n hx hb dX6_bringsTo_9 rfl (lv_at hl 0 rfl) ?_
  refine va_get (D := G.1) (ci := 5) (v := .ref sa) (C := RX6) (T := TX6) (N := 7) hx hb hts (fun w h => List.mem_cons_of_mem _ (List.mem_append_right _ h)) hown hE.1 hP 0 rfl rfl 0 (by decide) (hts (.fieldLink RX6 7 "TripleTrapModel" "state" "[I") (List.mem_of_getElem? (i := 1) rfl)) (fun _ h9 => h9) rfl dX6_bringsTo_10 ?_
  refine lv_bipush (v := nI 9) hx hb dX6_bringsTo_13 (by decide) ?_
  refine lv_iload_n hx hb dX6_bringsTo_15 rfl (lv_at hl 1 rfl) ?_
  refine j_add hx hb dX6_bringsTo_16 ?_
  refine j_iald hx hb hE hP 1 rfl dX6_bringsTo_17 ?_
  refine ro_S (rest := []) ⟨hx, hb, hml, hown, hts⟩ (c_X6_place l G q (X (1 + k)) (X (9 + k)) hpl) (va_cwS 3 hts gX6_bringsTo_X6_place rfl rfl rfl (by decide +kernel) ⟨Nat.le_of_ble_eq_true rfl, Nat.le_of_ble_eq_true rfl⟩) hE (hP.sub [] rfl) rfl hl.1 rfl (Nat.le_of_ble_eq_true rfl) dX6_bringsTo_18 ⟨Nat.zero_le _, Nat.zero_le _⟩ ?_
  refine lv_bipush (v := nI 11) hx hb dX6_bringsTo_21 (by decide) ?_
  refine j_icmp_ge (tgt := 30) hx hb dX6_bringsTo_23 (by decide) (fun c23 => ?_) (fun c23 => ?_) (h1 := Nat.lt_trans (tgtN_lt _ _ _) (by decide)) (h2 := by decide)
  · skip
    refine lv_iconst (v := nI 0) hx hb dX6_bringsTo_30 (by decide) ?_
    exact ro_zret hx hb hr hlocks dX6_bringsTo_31 (by rw [brX, decide_eq_false (Nat.not_lt.mpr c23)]; rfl) rfl
  · skip
    refine lv_iconst (v := nI 1) hx hb dX6_bringsTo_26 (by decide) ?_
    refine lv_goto (tgt := 31) hx hb dX6_bringsTo_27 (by decide) ?_
    exact ro_zret hx hb hr hlocks dX6_bringsTo_31 (by rw [brX, decide_eq_true c23]; rfl) rfl
set_option maxHeartbeats 4000000 in
set_option maxRecDepth 100000 in
/-- coveredBy -/
theorem c_X6_coveredBy (l : Launch) (G : EG) (o : Nat) (sa : Nat) (ia : Nat) (ka : Nat) (ea : Nat) (ca : Nat) (tr : Nat) (fi : Int32) (X : Nat → Nat) (hX0 : X 0 ≤ 8) (hX : ∀ k, k < X 0 → X (1 + k) < 23 ∧ X (9 + k) < 23) (a : Nat) (b : Nat) (d : Nat) (ha : a < 23) (hb0 : b < 23) (hd : d < 23) : RO l yX6_coveredBy wsX6_coveredBy (rmR 2 44) G [(o, .inr (5, [.ref sa, .ref ia, .ref ka, .ref ea, .int (nI tr), .int fi, .ref ca])), (sa, aI G 40 X)] [.ref o, .int (nI a), .int (nI b), .int (nI d)] (.int (nI (covX X a b d))) := by
  refine RO.start (by decide) rfl (Nat.le_of_ble_eq_true rfl) ?_
  intro p e s m below meth c hx hb hr hml hts hown hlocks hP hE ls hl
  have hown : s.vm.findClass RX6 = some m.cls := hown
  have hl : lv_has ls 5 [(0, .ref o), (1, .int (nI a)), (2, .int (nI b)), (3, .int (nI d))] := hl
  refine lv_iconst (v := nI 0) hx hb dX6_coveredBy_0 (by decide) ?_
  refine lv_istore (lv' := [(4, .int (nI 0)), (0, .ref o), (1, .int (nI a)), (2, .int (nI b)), (3, .int (nI d))]) hx hb dX6_coveredBy_1 hl (by decide) rfl (fun ls hl => ?_)
  have loop3 : ∀ (fuel : Nat) (k : Nat), (k ≤ X 0) → (covF X a b d (X 0 - k) = covX X a b d) → X 0 - k < fuel → ∀ ls : Array Slot, lv_has ls 5 [(4, .int (nI k)), (0, .ref o), (1, .int (nI a)), (2, .int (nI b)), (3, .int (nI d))] → W p l e (rmR 2 44) s m ([.ref o, .int (nI a), .int (nI b), .int (nI d)] : List Value).toArray below meth c s.heap [] 0 0 (MQ below (k2_QcV (.int (nI (covX X a b d)))) ([.ref o, .int (nI a), .int (nI b), .int (nI d)] : List Value).toArray s 0 0 (fun _ => False)) (F0 m 3 ls []) := by
    intro fuel
    induction fuel with
    | zero => intro k h1 h2 hf; exact absurd hf (Nat.not_lt_zero _)
    | succ fuel ih3 =>
      intro k h1 h2 hf ls hl
      refine lv_iload hx hb dX6_coveredBy_3 (lv_at hl 0 rfl) ?_
      refine lv_aload_n hx hb dX6_coveredBy_5 rfl (lv_at hl 1 rfl) ?_
      refine va_get (D := G.1) (ci := 5) (v := .ref sa) (C := RX6) (T := TX6) (N := 7) hx hb hts (fun w h => List.mem_cons_of_mem _ (List.mem_append_right _ h)) hown hE.1 hP 0 rfl rfl 0 (by decide) (hts (.fieldLink RX6 7 "TripleTrapModel" "state" "[I") (List.mem_of_getElem? (i := 1) rfl)) (fun _ h9 => h9) rfl dX6_coveredBy_6 ?_
      refine lv_iconst (v := nI 0) hx hb dX6_coveredBy_9 (by decide) ?_
      refine j_iald hx hb hE hP 1 rfl dX6_coveredBy_10 ?_
      refine j_icmp_ge (tgt := 50) hx hb dX6_coveredBy_11 (by decide) (fun c11 => ?_) (fun c11 => ?_)
      · skip
        refine lv_iload hx hb dX6_coveredBy_50 (lv_at hl 0 rfl) ?_
        exact ro_ret hx hb hr hlocks dX6_coveredBy_52 (by rw [← h2, show X 0 - k = 0 by omega, covF, show X 0 = k by omega])
      · skip
        refine lv_aload_n hx hb dX6_coveredBy_14 rfl (lv_at hl 1 rfl) ?_
        refine lv_iload hx hb dX6_coveredBy_15 (lv_at hl 0 rfl) ?_
        refine lv_iload_n hx hb dX6_coveredBy_17 rfl (lv_at hl 2 rfl) ?_
        refine ro_V 5 0 (rest := []) ⟨hx, hb, hml, hown, hts⟩ (c_X6_bringsTo l G o sa ia ka ea ca tr fi X k a (by omega) (tg_bd (by omega) (by have := hX k (by omega); omega) (by have := hX k (by omega); omega))) (cwV 2 hts gX6_coveredBy_X6_bringsTo rfl rfl rfl (by decide +kernel) ⟨Nat.le_of_ble_eq_true rfl, Nat.le_of_ble_eq_true rfl⟩) hE (hP.sub [0, 1] rfl) rfl rfl rfl hl.1 rfl (Nat.le_of_ble_eq_true rfl) dX6_coveredBy_18 ⟨Nat.zero_le _, Nat.zero_le _⟩ ?_
        refine j_bool (fun c18 => ?_) (fun c18 => ?_)
        · skip
          refine j_if_eq (tgt := 44) hx hb dX6_coveredBy_21 (by decide) (fun q => absurd q (by decide)) (fun _ => ?_)
          refine lv_aload_n hx hb dX6_coveredBy_24 rfl (lv_at hl 1 rfl) ?_
          refine lv_iload hx hb dX6_coveredBy_25 (lv_at hl 0 rfl) ?_
          refine lv_iload_n hx hb dX6_coveredBy_27 rfl (lv_at hl 3 rfl) ?_
          refine ro_V 5 0 (rest := []) ⟨hx, hb, hml, hown, hts⟩ (c_X6_bringsTo l G o sa ia ka ea ca tr fi X k b (by omega) (tg_bd (by omega) (by have := hX k (by omega); omega) (by have := hX k (by omega); omega))) (cwV 2 hts gX6_coveredBy_X6_bringsTo rfl rfl rfl (by decide +kernel) ⟨Nat.le_of_ble_eq_true rfl, Nat.le_of_ble_eq_true rfl⟩) hE (hP.sub [0, 1] rfl) rfl rfl rfl hl.1 rfl (Nat.le_of_ble_eq_true rfl) dX6_coveredBy_28 ⟨Nat.zero_le _, Nat.zero_le _⟩ ?_
          refine j_bool (fun c28 => ?_) (fun c28 => ?_)
          · skip
            refine j_if_eq (tgt := 44) hx hb dX6_coveredBy_31 (by decide) (fun q => absurd q (by decide)) (fun _ => ?_)
            refine lv_aload_n hx hb dX6_coveredBy_34 rfl (lv_at hl 1 rfl) ?_
            refine lv_iload hx hb dX6_coveredBy_35 (lv_at hl 0 rfl) ?_
            refine lv_iload_n hx hb dX6_coveredBy_37 rfl (lv_at hl 4 rfl) ?_
            refine ro_V 5 0 (rest := []) ⟨hx, hb, hml, hown, hts⟩ (c_X6_bringsTo l G o sa ia ka ea ca tr fi X k d (by omega) (tg_bd (by omega) (by have := hX k (by omega); omega) (by have := hX k (by omega); omega))) (cwV 2 hts gX6_coveredBy_X6_bringsTo rfl rfl rfl (by decide +kernel) ⟨Nat.le_of_ble_eq_true rfl, Nat.le_of_ble_eq_true rfl⟩) hE (hP.sub [0, 1] rfl) rfl rfl rfl hl.1 rfl (Nat.le_of_ble_eq_true rfl) dX6_coveredBy_38 ⟨Nat.zero_le _, Nat.zero_le _⟩ ?_
            refine j_bool (fun c38 => ?_) (fun c38 => ?_)
            · skip
              refine j_if_ne (tgt := 50) hx hb dX6_coveredBy_41 (by decide) (fun _ => ?_) (fun q => absurd q (by decide))
              refine lv_iload hx hb dX6_coveredBy_50 (lv_at hl 0 rfl) ?_
              exact ro_ret hx hb hr hlocks dX6_coveredBy_52 (by rw [← h2, show X 0 - k = (X 0 - k - 1) + 1 by omega, covF, show X 0 - (X 0 - k - 1 + 1) = k by omega, if_pos ⟨c18, c28, c38⟩])
            · skip
              refine j_if_ne (tgt := 50) hx hb dX6_coveredBy_41 (by decide) (fun q => absurd q (by decide)) (fun _ => ?_)
              obtain ⟨x44, ex44⟩ : ∃ y : Nat, y = k + 1 := ⟨_, rfl⟩
              refine lv_iinc (v := nI x44) (lv' := [(4, .int (nI x44)), (0, .ref o), (1, .int (nI a)), (2, .int (nI b)), (3, .int (nI d))]) hx hb dX6_coveredBy_44 hl (k := 0) rfl (by rw [ex44]; exact nI_add _ _) (by decide) rfl (fun ls hl => ?_)
              refine lv_goto (tgt := 3) hx hb dX6_coveredBy_47 (by decide) ?_
              exact ih3 x44 (by omega) (by rw [← h2, show X 0 - k = (X 0 - x44) + 1 by omega, covF, show X 0 - (X 0 - x44 + 1) = k by omega, if_neg (fun h => by rw [c38] at h; exact absurd h.2.2 (by decide))]) (by omega) ls (lv_sub hl [0, 1, 2, 3, 4] rfl)
          · skip
            refine j_if_eq (tgt := 44) hx hb dX6_coveredBy_31 (by decide) (fun _ => ?_) (fun q => absurd q (by decide))
            obtain ⟨x44, ex44⟩ : ∃ y : Nat, y = k + 1 := ⟨_, rfl⟩
            refine lv_iinc (v := nI x44) (lv' := [(4, .int (nI x44)), (0, .ref o), (1, .int (nI a)), (2, .int (nI b)), (3, .int (nI d))]) hx hb dX6_coveredBy_44 hl (k := 0) rfl (by rw [ex44]; exact nI_add _ _) (by decide) rfl (fun ls hl => ?_)
            refine lv_goto (tgt := 3) hx hb dX6_coveredBy_47 (by decide) ?_
            exact ih3 x44 (by omega) (by rw [← h2, show X 0 - k = (X 0 - x44) + 1 by omega, covF, show X 0 - (X 0 - x44 + 1) = k by omega, if_neg (fun h => by rw [c28] at h; exact absurd h.2.1 (by decide))]) (by omega) ls (lv_sub hl [0, 1, 2, 3, 4] rfl)
        · skip
          refine j_if_eq (tgt := 44) hx hb dX6_coveredBy_21 (by decide) (fun _ => ?_) (fun q => absurd q (by decide))
          obtain ⟨x44, ex44⟩ : ∃ y : Nat, y = k + 1 := ⟨_, rfl⟩
          refine lv_iinc (v := nI x44) (lv' := [(4, .int (nI x44)), (0, .ref o), (1, .int (nI a)), (2, .int (nI b)), (3, .int (nI d))]) hx hb dX6_coveredBy_44 hl (k := 0) rfl (by rw [ex44]; exact nI_add _ _) (by decide) rfl (fun ls hl => ?_)
          refine lv_goto (tgt := 3) hx hb dX6_coveredBy_47 (by decide) ?_
          exact ih3 x44 (by omega) (by rw [← h2, show X 0 - k = (X 0 - x44) + 1 by omega, covF, show X 0 - (X 0 - x44 + 1) = k by omega, if_neg (fun h => by rw [c18] at h; exact absurd h.1 (by decide))]) (by omega) ls (lv_sub hl [0, 1, 2, 3, 4] rfl)
  exact loop3 _ 0 (by omega) rfl (Nat.lt_succ_self _) ls (lv_sub hl [0, 1, 2, 3, 4] rfl)
set_option maxHeartbeats 4000000 in
set_option maxRecDepth 100000 in
/-- layTriples -/
theorem c_X6_layTriples (l : Launch) (G : EG) (o : Nat) (sa : Nat) (ia : Nat) (ka : Nat) (ea : Nat) (ca : Nat) (tr : Nat) (fi : Int32) (X : Nat → Nat) (hX0 : X 0 ≤ 8) (hX : ∀ k, k < X 0 → X (1 + k) < 23 ∧ X (9 + k) < 23) (mv : Nat) (hmv : mv ≤ 8) (sz : Nat) : WR l yX6_layTriples wsX6_layTriples (rmR 3 68) G sz [(o, .inr (5, [.ref sa, .ref ia, .ref ka, .ref ea, .int (nI tr), .int fi, .ref ca])), (sa, aI G 40 X)] [.ref o, .int (nI mv)] [(o, .inr (5, [.ref sa, .ref ia, .ref ka, .ref ea, .int (nI ((triA X mv).1)), .int ((triA X mv).2), .ref ca])), (sa, aI G 40 X)] none := by
  refine WR.start (by decide) rfl (Nat.le_of_ble_eq_true rfl) ?_
  intro p e s m below meth c hx hb hr hml hts hown hlocks hE A hA H locs hP hD hS ls hl
  have hown : s.vm.findClass RX6 = some m.cls := hown
  have hl : lv_has ls 5 [(0, .ref o), (1, .int (nI mv))] := hl
  refine lv_aload_n hx hb dX6_layTriples_0 rfl (lv_at hl 0 rfl) ?_
  refine lv_iconst (v := nI 0) hx hb dX6_layTriples_1 (by decide) ?_
  refine va_put (D := G.1) (ci := 5) (v := .int (nI 0)) (ty := .int) (C := RX6) (T := TX6) (N := 7) hx hb hts (fun w h => List.mem_cons_of_mem _ (List.mem_append_right _ h)) tyX6 tyX6_ok nmX6 hown hE.1 hP hD hS 0 rfl rfl 4 (by decide) (hts (.fieldLink RX6 87 "TripleTrapModel" "triples" "I") (List.mem_of_getElem? (i := 1) rfl)) (fun _ h9 => h9) rfl (by decide +kernel) rfl rfl (Nat.le_of_ble_eq_true rfl) dX6_layTriples_2 (fun H locs hP hD hS => ?_)
  have hP : va_P G.1 vwCl [(o, .inr (5, [.ref sa, .ref ia, .ref ka, .ref ea, .int (nI 0), .int fi, .ref ca])), (sa, aI G 40 X)] H := hP
  have hD : va_D A [(o, .inr (5, [.ref sa, .ref ia, .ref ka, .ref ea, .int (nI 0), .int fi, .ref ca])), (sa, aI G 40 X)] := hD
  refine lv_aload_n hx hb dX6_layTriples_5 rfl (lv_at hl 0 rfl) ?_
  refine lv_bipush (v := (-6)) hx hb dX6_layTriples_6 (by decide) ?_
  refine va_put (D := G.1) (ci := 5) (v := .int (-6)) (ty := .int) (C := RX6) (T := TX6) (N := 7) hx hb hts (fun w h => List.mem_cons_of_mem _ (List.mem_append_right _ h)) tyX6 tyX6_ok nmX6 hown hE.1 hP hD hS 0 rfl rfl 5 (by decide) (hts (.fieldLink RX6 91 "TripleTrapModel" "firstTriple" "I") (List.mem_of_getElem? (i := 2) rfl)) (fun _ h9 => h9) rfl (by decide +kernel) rfl rfl (Nat.le_of_ble_eq_true rfl) dX6_layTriples_8 (fun H locs hP hD hS => ?_)
  have hP : va_P G.1 vwCl [(o, .inr (5, [.ref sa, .ref ia, .ref ka, .ref ea, .int (nI 0), .int (-6), .ref ca])), (sa, aI G 40 X)] H := hP
  have hD : va_D A [(o, .inr (5, [.ref sa, .ref ia, .ref ka, .ref ea, .int (nI 0), .int (-6), .ref ca])), (sa, aI G 40 X)] := hD
  refine lv_iconst (v := nI 0) hx hb dX6_layTriples_11 (by decide) ?_
  refine lv_istore_n (lv' := [(2, .int (nI 0)), (0, .ref o), (1, .int (nI mv))]) hx hb dX6_layTriples_12 rfl hl (by decide) rfl (fun ls hl => ?_)
  have loop13 : ∀ (fuel : Nat) (a : Nat) (t : Nat) (f : Int32), (a ≤ 23) → (t ≤ 529 * a) → (triP X mv (23 - a) (t, f) = triA X mv) → 23 - a < fuel → ∀ (H : Heap) (locs : List Loc), va_P G.1 vwCl [(o, .inr (5, [.ref sa, .ref ia, .ref ka, .ref ea, .int (nI t), .int f, .ref ca])), (sa, aI G 40 X)] H → va_D A [(o, .inr (5, [.ref sa, .ref ia, .ref ka, .ref ea, .int (nI t), .int f, .ref ca])), (sa, aI G 40 X)] → va_S A s.heap H locs → ∀ ls : Array Slot, lv_has ls 5 [(2, .int (nI a)), (0, .ref o), (1, .int (nI mv))] → W p l e (rmR 3 68) s m ([.ref o, .int (nI mv)] : List Value).toArray below meth c H locs 0 0 (MQ below (postW G [(o, .inr (5, [.ref sa, .ref ia, .ref ka, .ref ea, .int (nI ((triA X mv).1)), .int ((triA X mv).2), .ref ca])), (sa, aI G 40 X)] none A) ([.ref o, .int (nI mv)] : List Value).toArray s 0 0 A) (F0 m 13 ls []) := by
    intro fuel
    induction fuel with
    | zero => intro a t f h1 h2 h3 hf; exact absurd hf (Nat.not_lt_zero _)
    | succ fuel ih13 =>
      intro a t f h1 h2 h3 hf H locs hP hD hS ls hl
      refine lv_iload_n hx hb dX6_layTriples_13 rfl (lv_at hl 0 rfl) ?_
      refine lv_bipush (v := nI 23) hx hb dX6_layTriples_14 (by decide) ?_
      refine j_icmp_ge (tgt := 112) hx hb dX6_layTriples_16 (by decide) (fun c16 => ?_) (fun c16 => ?_)
      · skip
        have e3 : (t, f) = triA X mv := by rw [← h3, show 23 - a = 0 by omega]; rfl
        have e4 : t = (triA X mv).1 := by rw [← e3]
        have e5 : f = (triA X mv).2 := by rw [← e3]
        rw [e4, e5] at hP hD
        exact wr_vret hx hb hr hlocks dX6_layTriples_112 hP hD hS
      · skip
        refine lv_iload_n hx hb dX6_layTriples_19 rfl (lv_at hl 0 rfl) ?_
        refine lv_iconst (v := nI 1) hx hb dX6_layTriples_20 (by decide) ?_
        refine j_add hx hb dX6_layTriples_21 ?_
        refine j_top (fun x22 ex22 => ?_)
        refine lv_istore_n (lv' := [(3, .int (nI x22)), (2, .int (nI a)), (0, .ref o), (1, .int (nI mv))]) hx hb dX6_layTriples_22 rfl hl (by decide) rfl (fun ls hl => ?_)
        have loop23 : ∀ (fuel : Nat) (b : Nat) (t1 : Nat) (f1 : Int32), (b ≤ 23) → (t1 ≤ 529 * a + 23 * b) → (triP X mv (22 - a) (triQ X mv a (23 - b) (t1, f1)) = triA X mv) → 23 - b < fuel → ∀ (H : Heap) (locs : List Loc), va_P G.1 vwCl [(o, .inr (5, [.ref sa, .ref ia, .ref ka, .ref ea, .int (nI t1), .int f1, .ref ca])), (sa, aI G 40 X)] H → va_D A [(o, .inr (5, [.ref sa, .ref ia, .ref ka, .ref ea, .int (nI t1), .int f1, .ref ca])), (sa, aI G 40 X)] → va_S A s.heap H locs → ∀ ls : Array Slot, lv_has ls 5 [(3, .int (nI b)), (2, .int (nI a)), (0, .ref o), (1, .int (nI mv))] → W p l e (rmR 3 68) s m ([.ref o, .int (nI mv)] : List Value).toArray below meth c H locs 0 0 (MQ below (postW G [(o, .inr (5, [.ref sa, .ref ia, .ref ka, .ref ea, .int (nI ((triA X mv).1)), .int ((triA X mv).2), .ref ca])), (sa, aI G 40 X)] none A) ([.ref o, .int (nI mv)] : List Value).toArray s 0 0 A) (F0 m 23 ls []) := by
          intro fuel
          induction fuel with
          | zero => intro b t1 f1 g1 g2 g3 hf; exact absurd hf (Nat.not_lt_zero _)
          | succ fuel ih23 =>
            intro b t1 f1 g1 g2 g3 hf H locs hP hD hS ls hl
            refine lv_iload_n hx hb dX6_layTriples_23 rfl (lv_at hl 0 rfl) ?_
            refine lv_bipush (v := nI 23) hx hb dX6_layTriples_24 (by decide) ?_
            refine j_icmp_ge (tgt := 106) hx hb dX6_layTriples_26 (by decide) (fun c26 => ?_) (fun c26 => ?_)
            · skip
              obtain ⟨x106, ex106⟩ : ∃ y : Nat, y = a + 1 := ⟨_, rfl⟩
              refine lv_iinc (v := nI x106) (lv' := [(2, .int (nI x106)), (3, .int (nI b)), (0, .ref o), (1, .int (nI mv))]) hx hb dX6_layTriples_106 hl (k := 1) rfl (by rw [ex106]; exact nI_add _ _) (by decide) rfl (fun ls hl => ?_)
              refine lv_goto (tgt := 13) hx hb dX6_layTriples_109 (by decide) ?_
              exact ih13 x106 t1 f1 (by omega) (by omega) (by rw [← g3, show 23 - b = 0 by omega, triQ, show 23 - x106 = 22 - a by omega]) (by omega) H locs hP hD hS ls (lv_sub hl [0, 2, 3] rfl)
            · skip
              refine lv_iload_n hx hb dX6_layTriples_29 rfl (lv_at hl 0 rfl) ?_
              refine lv_iconst (v := nI 1) hx hb dX6_layTriples_30 (by decide) ?_
              refine j_add hx hb dX6_layTriples_31 ?_
              refine j_top (fun x32 ex32 => ?_)
              refine lv_istore (lv' := [(4, .int (nI x32)), (3, .int (nI b)), (2, .int (nI a)), (0, .ref o), (1, .int (nI mv))]) hx hb dX6_layTriples_32 hl (by decide) rfl (fun ls hl => ?_)
              have loop34 : ∀ (fuel : Nat) (d : Nat) (t2 : Nat) (f2 : Int32), (d ≤ 23) → (t2 ≤ 529 * a + 23 * b + d) → (triP X mv (22 - a) (triQ X mv a (22 - b) (triR X mv a b (23 - d) (t2, f2))) = triA X mv) → 23 - d < fuel → ∀ (H : Heap) (locs : List Loc), va_P G.1 vwCl [(o, .inr (5, [.ref sa, .ref ia, .ref ka, .ref ea, .int (nI t2), .int f2, .ref ca])), (sa, aI G 40 X)] H → va_D A [(o, .inr (5, [.ref sa, .ref ia, .ref ka, .ref ea, .int (nI t2), .int f2, .ref ca])), (sa, aI G 40 X)] → va_S A s.heap H locs → ∀ ls : Array Slot, lv_has ls 5 [(4, .int (nI d)), (3, .int (nI b)), (2, .int (nI a)), (0, .ref o), (1, .int (nI mv))] → W p l e (rmR 3 68) s m ([.ref o, .int (nI mv)] : List Value).toArray below meth c H locs 0 0 (MQ below (postW G [(o, .inr (5, [.ref sa, .ref ia, .ref ka, .ref ea, .int (nI ((triA X mv).1)), .int ((triA X mv).2), .ref ca])), (sa, aI G 40 X)] none A) ([.ref o, .int (nI mv)] : List Value).toArray s 0 0 A) (F0 m 34 ls []) := by
                intro fuel
                induction fuel with
                | zero => intro d t2 f2 k1 k2 k3 hf; exact absurd hf (Nat.not_lt_zero _)
                | succ fuel ih34 =>
                  intro d t2 f2 k1 k2 k3 hf H locs hP hD hS ls hl
                  refine lv_iload hx hb dX6_layTriples_34 (lv_at hl 0 rfl) ?_
                  refine lv_bipush (v := nI 23) hx hb dX6_layTriples_36 (by decide) ?_
                  refine j_icmp_ge (tgt := 100) hx hb dX6_layTriples_38 (by decide) (fun c38 => ?_) (fun c38 => ?_)
                  · skip
                    obtain ⟨x100, ex100⟩ : ∃ y : Nat, y = b + 1 := ⟨_, rfl⟩
                    refine lv_iinc (v := nI x100) (lv' := [(3, .int (nI x100)), (4, .int (nI d)), (2, .int (nI a)), (0, .ref o), (1, .int (nI mv))]) hx hb dX6_layTriples_100 hl (k := 1) rfl (by rw [ex100]; exact nI_add _ _) (by decide) rfl (fun ls hl => ?_)
                    refine lv_goto (tgt := 23) hx hb dX6_layTriples_103 (by decide) ?_
                    exact ih23 x100 t2 f2 (by omega) (by omega) (by rw [← k3, show 23 - d = 0 by omega, triR, show 23 - x100 = 22 - b by omega]) (by omega) H locs hP hD hS ls (lv_sub hl [0, 2, 3, 4] rfl)
                  · skip
                    refine lv_aload_n hx hb dX6_layTriples_41 rfl (lv_at hl 3 rfl) ?_
                    refine lv_iload_n hx hb dX6_layTriples_42 rfl (lv_at hl 2 rfl) ?_
                    refine lv_iload_n hx hb dX6_layTriples_43 rfl (lv_at hl 1 rfl) ?_
                    refine lv_iload hx hb dX6_layTriples_44 (lv_at hl 0 rfl) ?_
                    refine ro_V 5 0 (rest := []) ⟨hx, hb, hml, hown, hts⟩ (c_X6_coveredBy l G o sa ia ka ea ca t2 f2 X hX0 hX a b d (by omega) (by omega) (by omega)) (cwV 3 hts gX6_layTriples_X6_coveredBy rfl rfl rfl (by decide +kernel) ⟨Nat.le_of_ble_eq_true rfl, Nat.le_of_ble_eq_true rfl⟩) hE (hP.sub [0, 1] rfl) rfl rfl rfl hl.1 rfl (Nat.le_of_ble_eq_true rfl) dX6_layTriples_46 ⟨Nat.zero_le _, Nat.zero_le _⟩ ?_
                    refine lv_iload_n hx hb dX6_layTriples_49 rfl (lv_at hl 4 rfl) ?_
                    refine j_icmp_ne (tgt := 94) hx hb dX6_layTriples_50 (by decide) (fun c50 => ?_) (fun c50 => ?_) (h1 := Nat.lt_of_le_of_lt (Nat.le_trans (covF_le _ _ _ _ _) hX0) (by decide)) (h2 := by omega)
                    · skip
                      obtain ⟨x94, ex94⟩ : ∃ y : Nat, y = d + 1 := ⟨_, rfl⟩
                      refine lv_iinc (v := nI x94) (lv' := [(4, .int (nI x94)), (3, .int (nI b)), (2, .int (nI a)), (0, .ref o), (1, .int (nI mv))]) hx hb dX6_layTriples_94 hl (k := 0) rfl (by rw [ex94]; exact nI_add _ _) (by decide) rfl (fun ls hl => ?_)
                      refine lv_goto (tgt := 34) hx hb dX6_layTriples_97 (by decide) ?_
                      exact ih34 x94 t2 f2 (by omega) (by omega) (by rw [← k3, show 23 - d = (23 - x94) + 1 by omega, triR, show 22 - (23 - x94) = d by omega, triS_n c50]) (by omega) H locs hP hD hS ls (lv_sub hl [0, 1, 2, 3, 4] rfl)
                    · skip
                      refine lv_aload_n hx hb dX6_layTriples_53 rfl (lv_at hl 3 rfl) ?_
                      refine lv_aload_n hx hb dX6_layTriples_54 rfl (lv_at hl 3 rfl) ?_
                      refine va_get (D := G.1) (ci := 5) (v := .int (nI t2)) (C := RX6) (T := TX6) (N := 7) hx hb hts (fun w h => List.mem_cons_of_mem _ (List.mem_append_right _ h)) hown hE.1 hP 0 rfl rfl 4 (by decide) (hts (.fieldLink RX6 87 "TripleTrapModel" "triples" "I") (List.mem_of_getElem? (i := 1) rfl)) (fun _ h9 => h9) rfl dX6_layTriples_55 ?_
                      refine j_if_ne (tgt := 77) hx hb dX6_layTriples_58 (by decide) (fun c58 => ?_) (fun c58 => ?_)
                      · skip
                        refine lv_aload_n hx hb dX6_layTriples_77 rfl (lv_at hl 3 rfl) ?_
                        refine va_get (D := G.1) (ci := 5) (v := .int f2) (C := RX6) (T := TX6) (N := 7) hx hb hts (fun w h => List.mem_cons_of_mem _ (List.mem_append_right _ h)) hown hE.1 hP 0 rfl rfl 5 (by decide) (hts (.fieldLink RX6 91 "TripleTrapModel" "firstTriple" "I") (List.mem_of_getElem? (i := 2) rfl)) (fun _ h9 => h9) rfl dX6_layTriples_78 ?_
                        refine va_put (D := G.1) (ci := 5) (v := .int f2) (ty := .int) (C := RX6) (T := TX6) (N := 7) hx hb hts (fun w h => List.mem_cons_of_mem _ (List.mem_append_right _ h)) tyX6 tyX6_ok nmX6 hown hE.1 hP hD hS 0 rfl rfl 5 (by decide) (hts (.fieldLink RX6 91 "TripleTrapModel" "firstTriple" "I") (List.mem_of_getElem? (i := 2) rfl)) (fun _ h9 => h9) rfl (by decide +kernel) rfl rfl (Nat.le_of_ble_eq_true rfl) dX6_layTriples_81 (fun H locs hP hD hS => ?_)
                        have hP : va_P G.1 vwCl [(o, .inr (5, [.ref sa, .ref ia, .ref ka, .ref ea, .int (nI t2), .int f2, .ref ca])), (sa, aI G 40 X)] H := hP
                        have hD : va_D A [(o, .inr (5, [.ref sa, .ref ia, .ref ka, .ref ea, .int (nI t2), .int f2, .ref ca])), (sa, aI G 40 X)] := hD
                        refine lv_aload_n hx hb dX6_layTriples_84 rfl (lv_at hl 3 rfl) ?_
                        refine lv_dup hx hb dX6_layTriples_85 rfl ?_
                        refine va_get (D := G.1) (ci := 5) (v := .int (nI t2)) (C := RX6) (T := TX6) (N := 7) hx hb hts (fun w h => List.mem_cons_of_mem _ (List.mem_append_right _ h)) hown hE.1 hP 0 rfl rfl 4 (by decide) (hts (.fieldLink RX6 87 "TripleTrapModel" "triples" "I") (List.mem_of_getElem? (i := 1) rfl)) (fun _ h9 => h9) rfl dX6_layTriples_86 ?_
                        refine lv_iconst (v := nI 1) hx hb dX6_layTriples_89 (by decide) ?_
                        refine j_add hx hb dX6_layTriples_90 ?_
                        refine j_top (fun x91 ex91 => ?_)
                        refine va_put (D := G.1) (ci := 5) (v := .int (nI x91)) (ty := .int) (C := RX6) (T := TX6) (N := 7) hx hb hts (fun w h => List.mem_cons_of_mem _ (List.mem_append_right _ h)) tyX6 tyX6_ok nmX6 hown hE.1 hP hD hS 0 rfl rfl 4 (by decide) (hts (.fieldLink RX6 87 "TripleTrapModel" "triples" "I") (List.mem_of_getElem? (i := 1) rfl)) (fun _ h9 => h9) rfl (by decide +kernel) rfl rfl (Nat.le_of_ble_eq_true rfl) dX6_layTriples_91 (fun H locs hP hD hS => ?_)
                        have hP : va_P G.1 vwCl [(o, .inr (5, [.ref sa, .ref ia, .ref ka, .ref ea, .int (nI x91), .int f2, .ref ca])), (sa, aI G 40 X)] H := hP
                        have hD : va_D A [(o, .inr (5, [.ref sa, .ref ia, .ref ka, .ref ea, .int (nI x91), .int f2, .ref ca])), (sa, aI G 40 X)] := hD
                        obtain ⟨x94, ex94⟩ : ∃ y : Nat, y = d + 1 := ⟨_, rfl⟩
                        refine lv_iinc (v := nI x94) (lv' := [(4, .int (nI x94)), (3, .int (nI b)), (2, .int (nI a)), (0, .ref o), (1, .int (nI mv))]) hx hb dX6_layTriples_94 hl (k := 0) rfl (by rw [ex94]; exact nI_add _ _) (by decide) rfl (fun ls hl => ?_)
                        refine lv_goto (tgt := 34) hx hb dX6_layTriples_97 (by decide) ?_
                        exact ih34 x94 x91 f2 (by omega) (by omega) (by rw [← k3, show 23 - d = (23 - x94) + 1 by omega, triR, show 22 - (23 - x94) = d by omega, triS_1 c50 c58, ex91]) (by omega) H locs hP hD hS ls (lv_sub hl [0, 1, 2, 3, 4] rfl)
                      · skip
                        refine lv_sipush (v := nI 529) hx hb dX6_layTriples_61 (by decide) ?_
                        refine lv_iload_n hx hb dX6_layTriples_64 rfl (lv_at hl 2 rfl) ?_
                        refine j_mul hx hb dX6_layTriples_65 ?_
                        refine lv_bipush (v := nI 23) hx hb dX6_layTriples_66 (by decide) ?_
                        refine lv_iload_n hx hb dX6_layTriples_68 rfl (lv_at hl 1 rfl) ?_
                        refine j_mul hx hb dX6_layTriples_69 ?_
                        refine j_add hx hb dX6_layTriples_70 ?_
                        refine lv_iload hx hb dX6_layTriples_71 (lv_at hl 0 rfl) ?_
                        refine j_add hx hb dX6_layTriples_73 ?_
                        refine lv_goto (tgt := 81) hx hb dX6_layTriples_74 (by decide) ?_
                        refine j_top (fun x81 ex81 => ?_)
                        refine va_put (D := G.1) (ci := 5) (v := .int (nI x81)) (ty := .int) (C := RX6) (T := TX6) (N := 7) hx hb hts (fun w h => List.mem_cons_of_mem _ (List.mem_append_right _ h)) tyX6 tyX6_ok nmX6 hown hE.1 hP hD hS 0 rfl rfl 5 (by decide) (hts (.fieldLink RX6 91 "TripleTrapModel" "firstTriple" "I") (List.mem_of_getElem? (i := 2) rfl)) (fun _ h9 => h9) rfl (by decide +kernel) rfl rfl (Nat.le_of_ble_eq_true rfl) dX6_layTriples_81 (fun H locs hP hD hS => ?_)
                        have hP : va_P G.1 vwCl [(o, .inr (5, [.ref sa, .ref ia, .ref ka, .ref ea, .int (nI t2), .int (nI x81), .ref ca])), (sa, aI G 40 X)] H := hP
                        have hD : va_D A [(o, .inr (5, [.ref sa, .ref ia, .ref ka, .ref ea, .int (nI t2), .int (nI x81), .ref ca])), (sa, aI G 40 X)] := hD
                        refine lv_aload_n hx hb dX6_layTriples_84 rfl (lv_at hl 3 rfl) ?_
                        refine lv_dup hx hb dX6_layTriples_85 rfl ?_
                        refine va_get (D := G.1) (ci := 5) (v := .int (nI t2)) (C := RX6) (T := TX6) (N := 7) hx hb hts (fun w h => List.mem_cons_of_mem _ (List.mem_append_right _ h)) hown hE.1 hP 0 rfl rfl 4 (by decide) (hts (.fieldLink RX6 87 "TripleTrapModel" "triples" "I") (List.mem_of_getElem? (i := 1) rfl)) (fun _ h9 => h9) rfl dX6_layTriples_86 ?_
                        refine lv_iconst (v := nI 1) hx hb dX6_layTriples_89 (by decide) ?_
                        refine j_add hx hb dX6_layTriples_90 ?_
                        refine j_top (fun x91 ex91 => ?_)
                        refine va_put (D := G.1) (ci := 5) (v := .int (nI x91)) (ty := .int) (C := RX6) (T := TX6) (N := 7) hx hb hts (fun w h => List.mem_cons_of_mem _ (List.mem_append_right _ h)) tyX6 tyX6_ok nmX6 hown hE.1 hP hD hS 0 rfl rfl 4 (by decide) (hts (.fieldLink RX6 87 "TripleTrapModel" "triples" "I") (List.mem_of_getElem? (i := 1) rfl)) (fun _ h9 => h9) rfl (by decide +kernel) rfl rfl (Nat.le_of_ble_eq_true rfl) dX6_layTriples_91 (fun H locs hP hD hS => ?_)
                        have hP : va_P G.1 vwCl [(o, .inr (5, [.ref sa, .ref ia, .ref ka, .ref ea, .int (nI x91), .int (nI x81), .ref ca])), (sa, aI G 40 X)] H := hP
                        have hD : va_D A [(o, .inr (5, [.ref sa, .ref ia, .ref ka, .ref ea, .int (nI x91), .int (nI x81), .ref ca])), (sa, aI G 40 X)] := hD
                        obtain ⟨x94, ex94⟩ : ∃ y : Nat, y = d + 1 := ⟨_, rfl⟩
                        refine lv_iinc (v := nI x94) (lv' := [(4, .int (nI x94)), (3, .int (nI b)), (2, .int (nI a)), (0, .ref o), (1, .int (nI mv))]) hx hb dX6_layTriples_94 hl (k := 0) rfl (by rw [ex94]; exact nI_add _ _) (by decide) rfl (fun ls hl => ?_)
                        refine lv_goto (tgt := 34) hx hb dX6_layTriples_97 (by decide) ?_
                        exact ih34 x94 x91 (nI x81) (by omega) (by omega) (by rw [← k3, show 23 - d = (23 - x94) + 1 by omega, triR, show 22 - (23 - x94) = d by omega, triS_0 c50 c58, ex91, ex81]) (by omega) H locs hP hD hS ls (lv_sub hl [0, 1, 2, 3, 4] rfl)
              exact loop34 _ x32 t1 f1 (by omega) (by omega) (by rw [← g3, show 23 - b = (22 - b) + 1 by omega, triQ, show 22 - (22 - b) = b by omega, show 23 - x32 = 22 - b by omega]) (Nat.lt_succ_self _) H locs hP hD hS ls (lv_sub hl [0, 1, 2, 3, 4] rfl)
        exact loop23 _ x22 t f (by omega) (by omega) (by rw [← h3, show 23 - a = (22 - a) + 1 by omega, triP, show 22 - (22 - a) = a by omega, show 23 - x22 = 22 - a by omega]) (Nat.lt_succ_self _) H locs hP hD hS ls (lv_sub hl [0, 1, 2, 3] rfl)
  exact loop13 _ 0 0 (-6) (by omega) (by omega) rfl (Nat.lt_succ_self _) H locs hP hD hS ls (lv_sub hl [0, 1, 2] rfl)
set_option maxHeartbeats 4000000 in
set_option maxRecDepth 100000 in
/-- told -/
theorem c_X6_told (l : Launch) (G : EG) (o : Nat) (sa : Nat) (ia : Nat) (ka : Nat) (ea : Nat) (ca : Nat) (tr : Nat) (fi : Int32) (X : Nat → Nat) (hX0 : X 0 ≤ 8) (hX : ∀ k, k < X 0 → X (1 + k) < 23 ∧ X (9 + k) < 23) (x : Int32) (y : Int32) (sz : Nat) : WR l yX6_told wsX6_told (rmR 4 92) G sz [(o, .inr (5, [.ref sa, .ref ia, .ref ka, .ref ea, .int (nI tr), .int fi, .ref ca])), (sa, aI G 40 X)] [.ref o, .int x, .int y] [(o, .inr (5, [.ref sa, .ref ia, .ref ka, .ref ea, .int (nI (mToldT X x y tr)), .int (mToldF X x y fi), .ref ca])), (sa, aI G 40 X)] (some (.int (mToldR X x y))) := by
  refine WR.start (by decide) rfl (Nat.le_of_ble_eq_true rfl) ?_
  intro p e s m below meth c hx hb hr hml hts hown hlocks hE A hA H locs hP hD hS ls hl
  have hown : s.vm.findClass RX6 = some m.cls := hown
  have hl : lv_has ls 3 [(0, .ref o), (1, .int x), (2, .int y)] := hl
  refine lv_aload_n hx hb dX6_told_0 rfl (lv_at hl 0 rfl) ?_
  refine lv_iload_n hx hb dX6_told_1 rfl (lv_at hl 1 rfl) ?_
  refine ro_V 5 0 (rest := []) ⟨hx, hb, hml, hown, hts⟩ (c_X6_isThere l G o sa ia ka ea ca tr fi X hX0 x) (cwV 1 hts gX6_told_X6_isThere rfl rfl rfl (by decide +kernel) ⟨Nat.le_of_ble_eq_true rfl, Nat.le_of_ble_eq_true rfl⟩) hE (hP.sub [0, 1] rfl) rfl rfl rfl hl.1 rfl (Nat.le_of_ble_eq_true rfl) dX6_told_2 ⟨Nat.zero_le _, Nat.zero_le _⟩ ?_
  refine j_bool (fun c2 => ?_) (fun c2 => ?_)
  · skip
    obtain ⟨d, hd, rfl⟩ := blw_ex c2 (by omega)
    refine j_if_ne (tgt := 10) hx hb dX6_told_5 (by decide) (fun _ => ?_) (fun q => absurd q (by decide))
    refine lv_iload_n hx hb dX6_told_10 rfl (lv_at hl 2 rfl) ?_
    refine lv_iconst (v := nI 0) hx hb dX6_told_11 (by decide) ?_
    refine lv_iconst (v := nI 2) hx hb dX6_told_12 (by decide) ?_
    refine ro_S (rest := []) ⟨hx, hb, hml, hown, hts⟩ (c_X6_in l G y (nI 0) (nI 2)) (va_cwS 3 hts gX6_told_X6_in rfl rfl rfl (by decide +kernel) ⟨Nat.le_of_ble_eq_true rfl, Nat.le_of_ble_eq_true rfl⟩) hE (hP.sub [] rfl) rfl hl.1 rfl (Nat.le_of_ble_eq_true rfl) dX6_told_13 ⟨Nat.zero_le _, Nat.zero_le _⟩ ?_
    refine j_bool (fun c13 => ?_) (fun c13 => ?_)
    · skip
      obtain ⟨j, hj, rfl⟩ := inI_ex (N := 2) rfl c13 (by decide)
      refine j_if_ne (tgt := 22) hx hb dX6_told_16 (by decide) (fun _ => ?_) (fun q => absurd q (by decide))
      refine lv_aload_n hx hb dX6_told_22 rfl (lv_at hl 0 rfl) ?_
      refine lv_iload_n hx hb dX6_told_23 rfl (lv_at hl 1 rfl) ?_
      refine wr_V 5 0 (rest := []) (wr := []) ⟨hx, hb, hml, hown, hts⟩ (c_X6_layTriples l G o sa ia ka ea ca tr fi X hX0 hX d (by omega) H.size) (cwV 1 hts gX6_told_X6_layTriples rfl rfl rfl (by decide +kernel) ⟨Nat.le_of_ble_eq_true rfl, Nat.le_of_ble_eq_true rfl⟩) hE hP hD hS hA [0, 1] [] rfl rfl (by decide) (by decide) (by decide) rfl rfl rfl hl.1 rfl (Nat.le_of_ble_eq_true rfl) dX6_told_24 ⟨Nat.zero_le _, Nat.zero_le _⟩ (fun H locs hP hD hS => ?_)
      have hP : va_P G.1 vwCl [(o, .inr (5, [.ref sa, .ref ia, .ref ka, .ref ea, .int (nI ((triA X d).1)), .int ((triA X d).2), .ref ca])), (sa, aI G 40 X)] H := hP.sub [0, 1] rfl
      have hD : va_D A [(o, .inr (5, [.ref sa, .ref ia, .ref ka, .ref ea, .int (nI ((triA X d).1)), .int ((triA X d).2), .ref ca])), (sa, aI G 40 X)] := hD.sub [0, 1] (by decide) rfl
      refine lv_iload_n hx hb dX6_told_27 rfl (lv_at hl 2 rfl) ?_
      refine j_if_ne (tgt := 42) hx hb dX6_told_28 (by decide) (fun c28 => ?_) (fun c28 => ?_)
      · skip
        refine lv_iload_n hx hb dX6_told_42 rfl (lv_at hl 2 rfl) ?_
        refine lv_iconst (v := nI 1) hx hb dX6_told_43 (by decide) ?_
        refine j_icmp_ne (tgt := 59) hx hb dX6_told_44 (by decide) (fun c44 => ?_) (fun c44 => ?_)
        · skip
          refine lv_aload_n hx hb dX6_told_59 rfl (lv_at hl 0 rfl) ?_
          refine va_get (D := G.1) (ci := 5) (v := .int (nI ((triA X d).1))) (C := RX6) (T := TX6) (N := 7) hx hb hts (fun w h => List.mem_cons_of_mem _ (List.mem_append_right _ h)) hown hE.1 hP 0 rfl rfl 4 (by decide) (hts (.fieldLink RX6 87 "TripleTrapModel" "triples" "I") (List.mem_of_getElem? (i := 2) rfl)) (fun _ h9 => h9) rfl dX6_told_60 ?_
          have eF : (.int (nI ((triA X d).1)) : Value) = Value.int (nI (mToldT X (nI d) (nI j) tr)) := by rw [mToldT, if_pos ⟨c2, blw_j hj (by decide)⟩, cl_nI hd (by omega)]
          rw [eF] at hP hD
          clear eF
          have eF : (.int ((triA X d).2) : Value) = Value.int (mToldF X (nI d) (nI j) fi) := by rw [mToldF, if_pos ⟨c2, blw_j hj (by decide)⟩, cl_nI hd (by omega)]
          rw [eF] at hP hD
          clear eF
          exact wr_ret hx hb hr hlocks dX6_told_63 hP hD hS (by rw [mToldR, if_pos c2, if_pos (blw_j hj (by decide)), cl_nI hd (by omega), cl_nI hj (by decide), if_neg c28, if_neg c44])
        · skip
          refine lv_aload_n hx hb dX6_told_47 rfl (lv_at hl 0 rfl) ?_
          refine va_get (D := G.1) (ci := 5) (v := .ref sa) (C := RX6) (T := TX6) (N := 7) hx hb hts (fun w h => List.mem_cons_of_mem _ (List.mem_append_right _ h)) hown hE.1 hP 0 rfl rfl 0 (by decide) (hts (.fieldLink RX6 7 "TripleTrapModel" "state" "[I") (List.mem_of_getElem? (i := 1) rfl)) (fun _ h9 => h9) rfl dX6_told_48 ?_
          refine lv_bipush (v := nI 9) hx hb dX6_told_51 (by decide) ?_
          refine lv_iload_n hx hb dX6_told_53 rfl (lv_at hl 1 rfl) ?_
          refine j_add hx hb dX6_told_54 ?_
          refine j_iald hx hb hE hP 1 rfl dX6_told_55 ?_
          refine lv_goto (tgt := 63) hx hb dX6_told_56 (by decide) ?_
          have eF : (.int (nI ((triA X d).1)) : Value) = Value.int (nI (mToldT X (nI d) (nI j) tr)) := by rw [mToldT, if_pos ⟨c2, blw_j hj (by decide)⟩, cl_nI hd (by omega)]
          rw [eF] at hP hD
          clear eF
          have eF : (.int ((triA X d).2) : Value) = Value.int (mToldF X (nI d) (nI j) fi) := by rw [mToldF, if_pos ⟨c2, blw_j hj (by decide)⟩, cl_nI hd (by omega)]
          rw [eF] at hP hD
          clear eF
          exact wr_ret hx hb hr hlocks dX6_told_63 hP hD hS (by rw [mToldR, if_pos c2, if_pos (blw_j hj (by decide)), cl_nI hd (by omega), cl_nI hj (by decide), if_neg c28, if_pos c44])
      · skip
        refine lv_aload_n hx hb dX6_told_31 rfl (lv_at hl 0 rfl) ?_
        refine va_get (D := G.1) (ci := 5) (v := .ref sa) (C := RX6) (T := TX6) (N := 7) hx hb hts (fun w h => List.mem_cons_of_mem _ (List.mem_append_right _ h)) hown hE.1 hP 0 rfl rfl 0 (by decide) (hts (.fieldLink RX6 7 "TripleTrapModel" "state" "[I") (List.mem_of_getElem? (i := 1) rfl)) (fun _ h9 => h9) rfl dX6_told_32 ?_
        refine lv_iconst (v := nI 1) hx hb dX6_told_35 (by decide) ?_
        refine lv_iload_n hx hb dX6_told_36 rfl (lv_at hl 1 rfl) ?_
        refine j_add hx hb dX6_told_37 ?_
        refine j_iald hx hb hE hP 1 rfl dX6_told_38 ?_
        refine lv_goto (tgt := 63) hx hb dX6_told_39 (by decide) ?_
        have eF : (.int (nI ((triA X d).1)) : Value) = Value.int (nI (mToldT X (nI d) (nI j) tr)) := by rw [mToldT, if_pos ⟨c2, blw_j hj (by decide)⟩, cl_nI hd (by omega)]
        rw [eF] at hP hD
        clear eF
        have eF : (.int ((triA X d).2) : Value) = Value.int (mToldF X (nI d) (nI j) fi) := by rw [mToldF, if_pos ⟨c2, blw_j hj (by decide)⟩, cl_nI hd (by omega)]
        rw [eF] at hP hD
        clear eF
        exact wr_ret hx hb hr hlocks dX6_told_63 hP hD hS (by rw [mToldR, if_pos c2, if_pos (blw_j hj (by decide)), cl_nI hd (by omega), cl_nI hj (by decide), if_pos c28])
    · skip
      refine j_if_ne (tgt := 22) hx hb dX6_told_16 (by decide) (fun q => absurd q (by decide)) (fun _ => ?_)
      refine lv_bipush (v := (-2)) hx hb dX6_told_19 (by decide) ?_
      have eF : (.int (nI tr) : Value) = Value.int (nI (mToldT X (nI d) y tr)) := by rw [mToldT, if_neg (fun h => by rw [← inI_blw y (N := 3) (by decide) (by decide), show nI (3 - 1) = nI 2 from rfl, c13] at h; exact absurd h.2 (by decide))]
      rw [eF] at hP hD
      clear eF
      have eF : (.int fi : Value) = Value.int (mToldF X (nI d) y fi) := by rw [mToldF, if_neg (fun h => by rw [← inI_blw y (N := 3) (by decide) (by decide), show nI (3 - 1) = nI 2 from rfl, c13] at h; exact absurd h.2 (by decide))]
      rw [eF] at hP hD
      clear eF
      exact wr_ret hx hb hr hlocks dX6_told_21 hP hD hS (by rw [mToldR, if_pos c2, if_neg (fun h => by rw [← inI_blw y (N := 3) (by decide) (by decide), show nI (3 - 1) = nI 2 from rfl, c13] at h; exact absurd h (by decide))])
  · skip
    refine j_if_ne (tgt := 10) hx hb dX6_told_5 (by decide) (fun q => absurd q (by decide)) (fun _ => ?_)
    refine lv_iconst (v := (-1)) hx hb dX6_told_8 (by decide) ?_
    have eF : (.int (nI tr) : Value) = Value.int (nI (mToldT X x y tr)) := by rw [mToldT, if_neg (fun h => by rw [c2] at h; exact absurd h.1 (by decide))]
    rw [eF] at hP hD
    clear eF
    have eF : (.int fi : Value) = Value.int (mToldF X x y fi) := by rw [mToldF, if_neg (fun h => by rw [c2] at h; exact absurd h.1 (by decide))]
    rw [eF] at hP hD
    clear eF
    exact wr_ret hx hb hr hlocks dX6_told_9 hP hD hS (by rw [mToldR, if_neg (by rw [c2]; decide)])
set_option maxHeartbeats 4000000 in
set_option maxRecDepth 100000 in
/-- open -/
theorem c_X6_open (l : Launch) (G : EG) (o : Nat) (sa : Nat) (ia : Nat) (ka : Nat) (ea : Nat) (ca : Nat) (tr : Nat) (fi : Int32) (X : Nat → Nat) (hX0 : X 0 ≤ 8) (hX : ∀ k, k < X 0 → X (1 + k) < 23 ∧ X (9 + k) < 23) (x : Int32) (sz : Nat) : WR l yX6_open wsX6_open (rmR 4 92) G sz [(o, .inr (5, [.ref sa, .ref ia, .ref ka, .ref ea, .int (nI tr), .int fi, .ref ca])), (sa, aI G 40 X)] [.ref o, .int x] [(o, .inr (5, [.ref sa, .ref ia, .ref ka, .ref ea, .int (nI (mOpenT X x tr)), .int (mOpenF X x fi), .ref ca])), (sa, aI G 40 X)] (some (.int (mOpenR X x))) := by
  refine WR.start (by decide) rfl (Nat.le_of_ble_eq_true rfl) ?_
  intro p e s m below meth c hx hb hr hml hts hown hlocks hE A hA H locs hP hD hS ls hl
  have hown : s.vm.findClass RX6 = some m.cls := hown
  have hl : lv_has ls 2 [(0, .ref o), (1, .int x)] := hl
  refine lv_iload_n hx hb dX6_open_0 rfl (lv_at hl 1 rfl) ?_
  refine lv_iconst (v := nI 0) hx hb dX6_open_1 (by decide) ?_
  refine lv_iconst (v := nI 1) hx hb dX6_open_2 (by decide) ?_
  refine ro_S (rest := []) ⟨hx, hb, hml, hown, hts⟩ (c_X6_in l G x (nI 0) (nI 1)) (va_cwS 3 hts gX6_open_X6_in rfl rfl rfl (by decide +kernel) ⟨Nat.le_of_ble_eq_true rfl, Nat.le_of_ble_eq_true rfl⟩) hE (hP.sub [] rfl) rfl hl.1 rfl (Nat.le_of_ble_eq_true rfl) dX6_open_3 ⟨Nat.zero_le _, Nat.zero_le _⟩ ?_
  refine j_bool (fun c3 => ?_) (fun c3 => ?_)
  · skip
    obtain ⟨j, hj, rfl⟩ := inI_ex (N := 1) rfl c3 (by decide)
    refine j_if_ne (tgt := 12) hx hb dX6_open_6 (by decide) (fun _ => ?_) (fun q => absurd q (by decide))
    refine lv_aload_n hx hb dX6_open_12 rfl (lv_at hl 0 rfl) ?_
    refine lv_aload_n hx hb dX6_open_13 rfl (lv_at hl 0 rfl) ?_
    refine va_get (D := G.1) (ci := 5) (v := .ref sa) (C := RX6) (T := TX6) (N := 7) hx hb hts (fun w h => List.mem_cons_of_mem _ (List.mem_append_right _ h)) hown hE.1 hP 0 rfl rfl 0 (by decide) (hts (.fieldLink RX6 7 "TripleTrapModel" "state" "[I") (List.mem_of_getElem? (i := 1) rfl)) (fun _ h9 => h9) rfl dX6_open_14 ?_
    refine lv_iconst (v := nI 0) hx hb dX6_open_17 (by decide) ?_
    refine j_iald hx hb hE hP 1 rfl dX6_open_18 ?_
    refine wr_V 5 0 (rest := []) (wr := []) ⟨hx, hb, hml, hown, hts⟩ (c_X6_layTriples l G o sa ia ka ea ca tr fi X hX0 hX (X 0) (by omega) H.size) (cwV 1 hts gX6_open_X6_layTriples rfl rfl rfl (by decide +kernel) ⟨Nat.le_of_ble_eq_true rfl, Nat.le_of_ble_eq_true rfl⟩) hE hP hD hS hA [0, 1] [] rfl rfl (by decide) (by decide) (by decide) rfl rfl rfl hl.1 rfl (Nat.le_of_ble_eq_true rfl) dX6_open_19 ⟨Nat.zero_le _, Nat.zero_le _⟩ (fun H locs hP hD hS => ?_)
    have hP : va_P G.1 vwCl [(o, .inr (5, [.ref sa, .ref ia, .ref ka, .ref ea, .int (nI ((triA X (X 0)).1)), .int ((triA X (X 0)).2), .ref ca])), (sa, aI G 40 X)] H := hP.sub [0, 1] rfl
    have hD : va_D A [(o, .inr (5, [.ref sa, .ref ia, .ref ka, .ref ea, .int (nI ((triA X (X 0)).1)), .int ((triA X (X 0)).2), .ref ca])), (sa, aI G 40 X)] := hD.sub [0, 1] (by decide) rfl
    refine lv_iload_n hx hb dX6_open_22 rfl (lv_at hl 1 rfl) ?_
    refine j_if_ne (tgt := 33) hx hb dX6_open_23 (by decide) (fun c23 => ?_) (fun c23 => ?_)
    · skip
      refine lv_aload_n hx hb dX6_open_33 rfl (lv_at hl 0 rfl) ?_
      refine va_get (D := G.1) (ci := 5) (v := .int ((triA X (X 0)).2)) (C := RX6) (T := TX6) (N := 7) hx hb hts (fun w h => List.mem_cons_of_mem _ (List.mem_append_right _ h)) hown hE.1 hP 0 rfl rfl 5 (by decide) (hts (.fieldLink RX6 91 "TripleTrapModel" "firstTriple" "I") (List.mem_of_getElem? (i := 3) rfl)) (fun _ h9 => h9) rfl dX6_open_34 ?_
      have eF : (.int (nI ((triA X (X 0)).1)) : Value) = Value.int (nI (mOpenT X (nI j) tr)) := by rw [mOpenT, if_pos (blw_j hj (by decide))]
      rw [eF] at hP hD
      clear eF
      have eF : (.int ((triA X (X 0)).2) : Value) = Value.int (mOpenF X (nI j) fi) := by rw [mOpenF, if_pos (blw_j hj (by decide))]
      rw [eF] at hP hD
      clear eF
      exact wr_ret hx hb hr hlocks dX6_open_37 hP hD hS (by rw [mOpenR, if_pos (blw_j hj (by decide)), cl_nI hj (by decide), if_neg c23])
    · skip
      refine lv_aload_n hx hb dX6_open_26 rfl (lv_at hl 0 rfl) ?_
      refine va_get (D := G.1) (ci := 5) (v := .int (nI ((triA X (X 0)).1))) (C := RX6) (T := TX6) (N := 7) hx hb hts (fun w h => List.mem_cons_of_mem _ (List.mem_append_right _ h)) hown hE.1 hP 0 rfl rfl 4 (by decide) (hts (.fieldLink RX6 87 "TripleTrapModel" "triples" "I") (List.mem_of_getElem? (i := 2) rfl)) (fun _ h9 => h9) rfl dX6_open_27 ?_
      refine lv_goto (tgt := 37) hx hb dX6_open_30 (by decide) ?_
      have eF : (.int (nI ((triA X (X 0)).1)) : Value) = Value.int (nI (mOpenT X (nI j) tr)) := by rw [mOpenT, if_pos (blw_j hj (by decide))]
      rw [eF] at hP hD
      clear eF
      have eF : (.int ((triA X (X 0)).2) : Value) = Value.int (mOpenF X (nI j) fi) := by rw [mOpenF, if_pos (blw_j hj (by decide))]
      rw [eF] at hP hD
      clear eF
      exact wr_ret hx hb hr hlocks dX6_open_37 hP hD hS (by rw [mOpenR, if_pos (blw_j hj (by decide)), cl_nI hj (by decide), if_pos c23])
  · skip
    refine j_if_ne (tgt := 12) hx hb dX6_open_6 (by decide) (fun q => absurd q (by decide)) (fun _ => ?_)
    refine lv_bipush (v := (-2)) hx hb dX6_open_9 (by decide) ?_
    have eF : (.int (nI tr) : Value) = Value.int (nI (mOpenT X x tr)) := by rw [mOpenT, if_neg (fun h => by rw [← inI_blw x (N := 2) (by decide) (by decide), show nI (2 - 1) = nI 1 from rfl, c3] at h; exact absurd h (by decide))]
    rw [eF] at hP hD
    clear eF
    have eF : (.int fi : Value) = Value.int (mOpenF X x fi) := by rw [mOpenF, if_neg (fun h => by rw [← inI_blw x (N := 2) (by decide) (by decide), show nI (2 - 1) = nI 1 from rfl, c3] at h; exact absurd h (by decide))]
    rw [eF] at hP hD
    clear eF
    exact wr_ret hx hb hr hlocks dX6_open_11 hP hD hS (by rw [mOpenR, if_neg (fun h => by rw [← inI_blw x (N := 2) (by decide) (by decide), show nI (2 - 1) = nI 1 from rfl, c3] at h; exact absurd h (by decide))])
set_option maxHeartbeats 4000000 in
set_option maxRecDepth 100000 in
/-- freed -/
theorem c_X6_freed (l : Launch) (G : EG) (o : Nat) (sa : Nat) (ia : Nat) (ka : Nat) (ea : Nat) (ca : Nat) (tr : Nat) (fi : Int32) (X : Nat → Nat) (hX0 : X 0 ≤ 8) (hX : ∀ k, k < X 0 → X (1 + k) < 23 ∧ X (9 + k) < 23) (x : Int32) (y : Int32) : RO l yX6_freed wsX6_freed (rmR 2 46) G [(o, .inr (5, [.ref sa, .ref ia, .ref ka, .ref ea, .int (nI tr), .int fi, .ref ca])), (sa, aI G 40 X)] [.ref o, .int x, .int y] (.int (mFreed X x y)) := by
  refine RO.start (by decide) rfl (Nat.le_of_ble_eq_true rfl) ?_
  intro p e s m below meth c hx hb hr hml hts hown hlocks hP hE ls hl
  have hown : s.vm.findClass RX6 = some m.cls := hown
  have hl : lv_has ls 5 [(0, .ref o), (1, .int x), (2, .int y)] := hl
  refine lv_iload_n hx hb dX6_freed_0 rfl (lv_at hl 1 rfl) ?_
  refine ro_S (rest := []) ⟨hx, hb, hml, hown, hts⟩ (c_X6_isWord l G x) (va_cwS 1 hts gX6_freed_X6_isWord rfl rfl rfl (by decide +kernel) ⟨Nat.le_of_ble_eq_true rfl, Nat.le_of_ble_eq_true rfl⟩) hE (hP.sub [] rfl) rfl hl.1 rfl (Nat.le_of_ble_eq_true rfl) dX6_freed_1 ⟨Nat.zero_le _, Nat.zero_le _⟩ ?_
  refine j_bool (fun c1 => ?_) (fun c1 => ?_)
  · skip
    obtain ⟨w, hw, rfl⟩ := blw_ex c1 (by decide)
    refine j_if_eq (tgt := 16) hx hb dX6_freed_4 (by decide) (fun q => absurd q (by decide)) (fun _ => ?_)
    refine lv_iload_n hx hb dX6_freed_7 rfl (lv_at hl 2 rfl) ?_
    refine lv_iconst (v := nI 0) hx hb dX6_freed_8 (by decide) ?_
    refine lv_iconst (v := nI 1) hx hb dX6_freed_9 (by decide) ?_
    refine ro_S (rest := []) ⟨hx, hb, hml, hown, hts⟩ (c_X6_in l G y (nI 0) (nI 1)) (va_cwS 3 hts gX6_freed_X6_in rfl rfl rfl (by decide +kernel) ⟨Nat.le_of_ble_eq_true rfl, Nat.le_of_ble_eq_true rfl⟩) hE (hP.sub [] rfl) rfl hl.1 rfl (Nat.le_of_ble_eq_true rfl) dX6_freed_10 ⟨Nat.zero_le _, Nat.zero_le _⟩ ?_
    refine j_bool (fun c10 => ?_) (fun c10 => ?_)
    · skip
      obtain ⟨j, hj, rfl⟩ := inI_ex (N := 1) rfl c10 (by decide)
      refine j_if_ne (tgt := 19) hx hb dX6_freed_13 (by decide) (fun _ => ?_) (fun q => absurd q (by decide))
      refine lv_iconst (v := nI 0) hx hb dX6_freed_19 (by decide) ?_
      refine lv_istore_n (lv' := [(3, .int (nI 0)), (0, .ref o), (1, .int (nI w)), (2, .int (nI j))]) hx hb dX6_freed_20 rfl hl (by decide) rfl (fun ls hl => ?_)
      have loop21 : ∀ (fuel : Nat) (k : Nat), (k ≤ X 0) → (frdF X w j (X 0 - k) = frdF X w j (X 0)) → X 0 - k < fuel → ∀ ls : Array Slot, lv_has ls 5 [(3, .int (nI k)), (0, .ref o), (1, .int (nI w)), (2, .int (nI j))] → W p l e (rmR 2 46) s m ([.ref o, .int (nI w), .int (nI j)] : List Value).toArray below meth c s.heap [] 0 0 (MQ below (k2_QcV (.int (mFreed X (nI w) (nI j)))) ([.ref o, .int (nI w), .int (nI j)] : List Value).toArray s 0 0 (fun _ => False)) (F0 m 21 ls []) := by
        intro fuel
        induction fuel with
        | zero => intro k h1 h2 hf; exact absurd hf (Nat.not_lt_zero _)
        | succ fuel ih21 =>
          intro k h1 h2 hf ls hl
          refine lv_iload_n hx hb dX6_freed_21 rfl (lv_at hl 0 rfl) ?_
          refine lv_aload_n hx hb dX6_freed_22 rfl (lv_at hl 1 rfl) ?_
          refine va_get (D := G.1) (ci := 5) (v := .ref sa) (C := RX6) (T := TX6) (N := 7) hx hb hts (fun w h => List.mem_cons_of_mem _ (List.mem_append_right _ h)) hown hE.1 hP 0 rfl rfl 0 (by decide) (hts (.fieldLink RX6 7 "TripleTrapModel" "state" "[I") (List.mem_of_getElem? (i := 1) rfl)) (fun _ h9 => h9) rfl dX6_freed_23 ?_
          refine lv_iconst (v := nI 0) hx hb dX6_freed_26 (by decide) ?_
          refine j_iald hx hb hE hP 1 rfl dX6_freed_27 ?_
          refine j_icmp_ge (tgt := 103) hx hb dX6_freed_28 (by decide) (fun c28 => ?_) (fun c28 => ?_)
          · skip
            refine lv_bipush (v := (-6)) hx hb dX6_freed_103 (by decide) ?_
            exact ro_ret hx hb hr hlocks dX6_freed_105 (by rw [mFreed, if_pos ⟨c1, blw_j hj (by decide)⟩, cl_nI hw (by decide), cl_nI hj (by decide), ← h2, show X 0 - k = 0 by omega, frdF])
          · skip
            refine lv_iload_n hx hb dX6_freed_31 rfl (lv_at hl 2 rfl) ?_
            refine lv_aload_n hx hb dX6_freed_32 rfl (lv_at hl 1 rfl) ?_
            refine va_get (D := G.1) (ci := 5) (v := .ref sa) (C := RX6) (T := TX6) (N := 7) hx hb hts (fun w h => List.mem_cons_of_mem _ (List.mem_append_right _ h)) hown hE.1 hP 0 rfl rfl 0 (by decide) (hts (.fieldLink RX6 7 "TripleTrapModel" "state" "[I") (List.mem_of_getElem? (i := 1) rfl)) (fun _ h9 => h9) rfl dX6_freed_33 ?_
            refine lv_iconst (v := nI 1) hx hb dX6_freed_36 (by decide) ?_
            refine lv_iload_n hx hb dX6_freed_37 rfl (lv_at hl 0 rfl) ?_
            refine j_add hx hb dX6_freed_38 ?_
            refine j_iald hx hb hE hP 1 rfl dX6_freed_39 ?_
            refine lv_aload_n hx hb dX6_freed_40 rfl (lv_at hl 1 rfl) ?_
            refine va_get (D := G.1) (ci := 5) (v := .ref sa) (C := RX6) (T := TX6) (N := 7) hx hb hts (fun w h => List.mem_cons_of_mem _ (List.mem_append_right _ h)) hown hE.1 hP 0 rfl rfl 0 (by decide) (hts (.fieldLink RX6 7 "TripleTrapModel" "state" "[I") (List.mem_of_getElem? (i := 1) rfl)) (fun _ h9 => h9) rfl dX6_freed_41 ?_
            refine lv_bipush (v := nI 9) hx hb dX6_freed_44 (by decide) ?_
            refine lv_iload_n hx hb dX6_freed_46 rfl (lv_at hl 0 rfl) ?_
            refine j_add hx hb dX6_freed_47 ?_
            refine j_iald hx hb hE hP 1 rfl dX6_freed_48 ?_
            refine ro_S (rest := []) ⟨hx, hb, hml, hown, hts⟩ (c_X6_go l G w (X (1 + k)) (X (9 + k)) (by omega) (hX k (by omega)).1 (hX k (by omega)).2) (va_cwS 3 hts gX6_freed_X6_go rfl rfl rfl (by decide +kernel) ⟨Nat.le_of_ble_eq_true rfl, Nat.le_of_ble_eq_true rfl⟩) hE (hP.sub [] rfl) rfl hl.1 rfl (Nat.le_of_ble_eq_true rfl) dX6_freed_49 ⟨Nat.zero_le _, Nat.zero_le _⟩ ?_
            refine ro_S (rest := []) ⟨hx, hb, hml, hown, hts⟩ (c_X6_restOf l G (carN w (X (1 + k)) (X (9 + k))) (Nat.lt_trans (carL_lt _ _ _ _) (by decide))) (va_cwS 1 hts gX6_freed_X6_restOf rfl rfl rfl (by decide +kernel) ⟨Nat.le_of_ble_eq_true rfl, Nat.le_of_ble_eq_true rfl⟩) hE (hP.sub [] rfl) rfl hl.1 rfl (Nat.le_of_ble_eq_true rfl) dX6_freed_52 ⟨Nat.zero_le _, Nat.zero_le _⟩ ?_
            refine j_top (fun x55 ex55 => ?_)
            refine lv_istore (lv' := [(4, .int (nI x55)), (3, .int (nI k)), (0, .ref o), (1, .int (nI w)), (2, .int (nI j))]) hx hb dX6_freed_55 hl (by decide) rfl (fun ls hl => ?_)
            refine lv_iload hx hb dX6_freed_57 (lv_at hl 0 rfl) ?_
            refine ro_S (rest := []) ⟨hx, hb, hml, hown, hts⟩ (c_X6_weight l G x55 (by rw [ex55]; exact Nat.lt_trans (remN_lt (Nat.lt_trans (carL_lt _ _ _ _) (by decide))) (by decide))) (va_cwS 1 hts gX6_freed_X6_weight rfl rfl rfl (by decide +kernel) ⟨Nat.le_of_ble_eq_true rfl, Nat.le_of_ble_eq_true rfl⟩) hE (hP.sub [] rfl) rfl hl.1 rfl (Nat.le_of_ble_eq_true rfl) dX6_freed_59 ⟨Nat.zero_le _, Nat.zero_le _⟩ ?_
            refine lv_iconst (v := nI 3) hx hb dX6_freed_62 (by decide) ?_
            refine j_icmp_gt (tgt := 97) hx hb dX6_freed_63 (by decide) (fun c63 => ?_) (fun c63 => ?_) (h1 := Nat.lt_of_le_of_lt (wtN_le _) (by decide)) (h2 := by decide)
            · skip
              obtain ⟨x97, ex97⟩ : ∃ y : Nat, y = k + 1 := ⟨_, rfl⟩
              refine lv_iinc (v := nI x97) (lv' := [(3, .int (nI x97)), (4, .int (nI x55)), (0, .ref o), (1, .int (nI w)), (2, .int (nI j))]) hx hb dX6_freed_97 hl (k := 1) rfl (by rw [ex97]; exact nI_add _ _) (by decide) rfl (fun ls hl => ?_)
              refine lv_goto (tgt := 21) hx hb dX6_freed_100 (by decide) ?_
              exact ih21 x97 (by omega) (by rw [← h2, show X 0 - k = (X 0 - x97) + 1 by omega, frdF, show X 0 - (X 0 - x97 + 1) = k by omega, if_neg (by rw [ex55] at c63; exact Nat.not_le.mpr c63)]) (by omega) ls (lv_sub hl [0, 2, 3, 4] rfl)
            · skip
              refine lv_iload_n hx hb dX6_freed_66 rfl (lv_at hl 4 rfl) ?_
              refine j_if_ne (tgt := 74) hx hb dX6_freed_67 (by decide) (fun c67 => ?_) (fun c67 => ?_)
              · skip
                refine lv_iload hx hb dX6_freed_74 (lv_at hl 0 rfl) ?_
                refine lv_aload_n hx hb dX6_freed_76 rfl (lv_at hl 2 rfl) ?_
                refine va_get (D := G.1) (ci := 5) (v := .ref sa) (C := RX6) (T := TX6) (N := 7) hx hb hts (fun w h => List.mem_cons_of_mem _ (List.mem_append_right _ h)) hown hE.1 hP 0 rfl rfl 0 (by decide) (hts (.fieldLink RX6 7 "TripleTrapModel" "state" "[I") (List.mem_of_getElem? (i := 1) rfl)) (fun _ h9 => h9) rfl dX6_freed_77 ?_
                refine lv_iconst (v := nI 1) hx hb dX6_freed_80 (by decide) ?_
                refine lv_iload_n hx hb dX6_freed_81 rfl (lv_at hl 1 rfl) ?_
                refine j_add hx hb dX6_freed_82 ?_
                refine j_iald hx hb hE hP 1 rfl dX6_freed_83 ?_
                refine lv_aload_n hx hb dX6_freed_84 rfl (lv_at hl 2 rfl) ?_
                refine va_get (D := G.1) (ci := 5) (v := .ref sa) (C := RX6) (T := TX6) (N := 7) hx hb hts (fun w h => List.mem_cons_of_mem _ (List.mem_append_right _ h)) hown hE.1 hP 0 rfl rfl 0 (by decide) (hts (.fieldLink RX6 7 "TripleTrapModel" "state" "[I") (List.mem_of_getElem? (i := 1) rfl)) (fun _ h9 => h9) rfl dX6_freed_85 ?_
                refine lv_bipush (v := nI 9) hx hb dX6_freed_88 (by decide) ?_
                refine lv_iload_n hx hb dX6_freed_90 rfl (lv_at hl 1 rfl) ?_
                refine j_add hx hb dX6_freed_91 ?_
                refine j_iald hx hb hE hP 1 rfl dX6_freed_92 ?_
                refine ro_S (rest := []) ⟨hx, hb, hml, hown, hts⟩ (c_X6_goBack l G x55 (X (1 + k)) (X (9 + k)) (by rw [ex55]; exact Nat.lt_trans (remN_lt (Nat.lt_trans (carL_lt _ _ _ _) (by decide))) (by decide)) (hX k (by omega)).1 (hX k (by omega)).2) (va_cwS 3 hts gX6_freed_X6_goBack rfl rfl rfl (by decide +kernel) ⟨Nat.le_of_ble_eq_true rfl, Nat.le_of_ble_eq_true rfl⟩) hE (hP.sub [] rfl) rfl hl.1 rfl (Nat.le_of_ble_eq_true rfl) dX6_freed_93 ⟨Nat.zero_le _, Nat.zero_le _⟩ ?_
                exact ro_ret hx hb hr hlocks dX6_freed_96 (by rw [mFreed, if_pos ⟨c1, blw_j hj (by decide)⟩, cl_nI hw (by decide), cl_nI hj (by decide), ← h2, show X 0 - k = (X 0 - k - 1) + 1 by omega, frdF, show X 0 - (X 0 - k - 1 + 1) = k by omega, if_pos (by rw [ex55] at c63; exact c63), if_neg c67, ex55]; rfl)
              · skip
                refine lv_iload_n hx hb dX6_freed_70 rfl (lv_at hl 1 rfl) ?_
                refine lv_goto (tgt := 96) hx hb dX6_freed_71 (by decide) ?_
                exact ro_ret hx hb hr hlocks dX6_freed_96 (by rw [mFreed, if_pos ⟨c1, blw_j hj (by decide)⟩, cl_nI hw (by decide), cl_nI hj (by decide), ← h2, show X 0 - k = (X 0 - k - 1) + 1 by omega, frdF, show X 0 - (X 0 - k - 1 + 1) = k by omega, if_pos (by rw [ex55] at c63; exact c63), if_pos c67])
      exact loop21 _ 0 (by omega) rfl (Nat.lt_succ_self _) ls (lv_sub hl [0, 1, 2, 3] rfl)
    · skip
      refine j_if_ne (tgt := 19) hx hb dX6_freed_13 (by decide) (fun q => absurd q (by decide)) (fun _ => ?_)
      refine lv_bipush (v := (-2)) hx hb dX6_freed_16 (by decide) ?_
      exact ro_ret hx hb hr hlocks dX6_freed_18 (by rw [mFreed, if_neg (fun h => by rw [← inI_blw y (N := 2) (by decide) (by decide), show nI (2 - 1) = nI 1 from rfl, c10] at h; exact absurd h.2 (by decide))])
  · skip
    refine j_if_eq (tgt := 16) hx hb dX6_freed_4 (by decide) (fun _ => ?_) (fun q => absurd q (by decide))
    refine lv_bipush (v := (-2)) hx hb dX6_freed_16 (by decide) ?_
    exact ro_ret hx hb hr hlocks dX6_freed_18 (by rw [mFreed, if_neg (fun h => by rw [c1] at h; exact absurd h.1 (by decide))])
set_option maxHeartbeats 4000000 in
set_option maxRecDepth 100000 in
/-- sure -/
theorem c_X6_sure (l : Launch) (G : EG) (o : Nat) (sa : Nat) (ia : Nat) (ka : Nat) (ea : Nat) (ca : Nat) (tr : Nat) (fi : Int32) (X : Nat → Nat) (x : Int32) (y : Int32) (sz : Nat) : WR l yX6_sure wsX6_sure (rmR 2 42) G sz [(o, .inr (5, [.ref sa, .ref ia, .ref ka, .ref ea, .int (nI tr), .int fi, .ref ca])), (sa, aI G 40 X)] [.ref o, .int x, .int y] [(o, .inr (5, [.ref sa, .ref ia, .ref ka, .ref ea, .int (nI tr), .int fi, .ref ca])), (sa, aI G 40 (mSureX X x y))] (some (.int (mSureR X x y))) := by
  refine WR.start (by decide) rfl (Nat.le_of_ble_eq_true rfl) ?_
  intro p e s m below meth c hx hb hr hml hts hown hlocks hE A hA H locs hP hD hS ls hl
  have hown : s.vm.findClass RX6 = some m.cls := hown
  have hl : lv_has ls 4 [(0, .ref o), (1, .int x), (2, .int y)] := hl
  refine lv_iload_n hx hb dX6_sure_0 rfl (lv_at hl 1 rfl) ?_
  refine ro_S (rest := []) ⟨hx, hb, hml, hown, hts⟩ (c_X6_isPlace l G x) (va_cwS 1 hts gX6_sure_X6_isPlace rfl rfl rfl (by decide +kernel) ⟨Nat.le_of_ble_eq_true rfl, Nat.le_of_ble_eq_true rfl⟩) hE (hP.sub [] rfl) rfl hl.1 rfl (Nat.le_of_ble_eq_true rfl) dX6_sure_1 ⟨Nat.zero_le _, Nat.zero_le _⟩ ?_
  refine j_bool (fun c1 => ?_) (fun c1 => ?_)
  · skip
    obtain ⟨d, hd, rfl⟩ := blw_ex c1 (by decide)
    refine j_if_eq (tgt := 17) hx hb dX6_sure_4 (by decide) (fun q => absurd q (by decide)) (fun _ => ?_)
    refine lv_iload_n hx hb dX6_sure_7 rfl (lv_at hl 2 rfl) ?_
    refine lv_iconst (v := nI 0) hx hb dX6_sure_8 (by decide) ?_
    refine lv_bipush (v := nI 9) hx hb dX6_sure_9 (by decide) ?_
    refine ro_S (rest := []) ⟨hx, hb, hml, hown, hts⟩ (c_X6_in l G y (nI 0) (nI 9)) (va_cwS 3 hts gX6_sure_X6_in rfl rfl rfl (by decide +kernel) ⟨Nat.le_of_ble_eq_true rfl, Nat.le_of_ble_eq_true rfl⟩) hE (hP.sub [] rfl) rfl hl.1 rfl (Nat.le_of_ble_eq_true rfl) dX6_sure_11 ⟨Nat.zero_le _, Nat.zero_le _⟩ ?_
    refine j_bool (fun c11 => ?_) (fun c11 => ?_)
    · skip
      obtain ⟨j, hj, rfl⟩ := inI_ex (N := 9) rfl c11 (by decide)
      refine j_if_ne (tgt := 20) hx hb dX6_sure_14 (by decide) (fun _ => ?_) (fun q => absurd q (by decide))
      refine lv_aload_n hx hb dX6_sure_20 rfl (lv_at hl 0 rfl) ?_
      refine va_get (D := G.1) (ci := 5) (v := .ref sa) (C := RX6) (T := TX6) (N := 7) hx hb hts (fun w h => List.mem_cons_of_mem _ (List.mem_append_right _ h)) hown hE.1 hP 0 rfl rfl 0 (by decide) (hts (.fieldLink RX6 7 "TripleTrapModel" "state" "[I") (List.mem_of_getElem? (i := 1) rfl)) (fun _ h9 => h9) rfl dX6_sure_21 ?_
      refine lv_bipush (v := nI 17) hx hb dX6_sure_24 (by decide) ?_
      refine lv_iload_n hx hb dX6_sure_26 rfl (lv_at hl 1 rfl) ?_
      refine j_add hx hb dX6_sure_27 ?_
      refine j_iald hx hb hE hP 1 rfl dX6_sure_28 ?_
      refine j_top (fun x29 ex29 => ?_)
      refine lv_istore_n (lv' := [(3, .int (nI x29)), (0, .ref o), (1, .int (nI d)), (2, .int (nI j))]) hx hb dX6_sure_29 rfl hl (by decide) rfl (fun ls hl => ?_)
      refine lv_aload_n hx hb dX6_sure_30 rfl (lv_at hl 1 rfl) ?_
      refine va_get (D := G.1) (ci := 5) (v := .ref sa) (C := RX6) (T := TX6) (N := 7) hx hb hts (fun w h => List.mem_cons_of_mem _ (List.mem_append_right _ h)) hown hE.1 hP 0 rfl rfl 0 (by decide) (hts (.fieldLink RX6 7 "TripleTrapModel" "state" "[I") (List.mem_of_getElem? (i := 1) rfl)) (fun _ h9 => h9) rfl dX6_sure_31 ?_
      refine lv_bipush (v := nI 17) hx hb dX6_sure_34 (by decide) ?_
      refine lv_iload_n hx hb dX6_sure_36 rfl (lv_at hl 2 rfl) ?_
      refine j_add hx hb dX6_sure_37 ?_
      refine lv_iload_n hx hb dX6_sure_38 rfl (lv_at hl 3 rfl) ?_
      refine j_iast hx hb hE hP hD hS 1 rfl dX6_sure_39 (fun H locs hP hD hS => ?_)
      have hP : va_P G.1 vwCl [(o, .inr (5, [.ref sa, .ref ia, .ref ka, .ref ea, .int (nI tr), .int fi, .ref ca])), (sa, aI G 40 (va_up X (17 + d) j))] H := hP
      have hD : va_D A [(o, .inr (5, [.ref sa, .ref ia, .ref ka, .ref ea, .int (nI tr), .int fi, .ref ca])), (sa, aI G 40 (va_up X (17 + d) j))] := hD
      refine lv_iload_n hx hb dX6_sure_40 rfl (lv_at hl 0 rfl) ?_
      have eF : va_up X (17 + d) j = mSureX X (nI d) (nI j) := by rw [mSureX, if_pos ⟨c1, blw_j hj (by decide)⟩, cl_nI hd (by decide), cl_nI hj (by decide)]
      rw [eF] at hP hD
      clear eF
      exact wr_ret hx hb hr hlocks dX6_sure_41 hP hD hS (by rw [mSureR, if_pos ⟨c1, blw_j hj (by decide)⟩, cl_nI hd (by decide), ex29])
    · skip
      refine j_if_ne (tgt := 20) hx hb dX6_sure_14 (by decide) (fun q => absurd q (by decide)) (fun _ => ?_)
      refine lv_bipush (v := (-2)) hx hb dX6_sure_17 (by decide) ?_
      have eF : X = mSureX X (nI d) y := by rw [mSureX, if_neg (fun h => by rw [← inI_blw y (N := 10) (by decide) (by decide), show nI (10 - 1) = nI 9 from rfl, c11] at h; exact absurd h.2 (by decide))]
      rw [eF] at hP hD
      clear eF
      exact wr_ret hx hb hr hlocks dX6_sure_19 hP hD hS (by rw [mSureR, if_neg (fun h => by rw [← inI_blw y (N := 10) (by decide) (by decide), show nI (10 - 1) = nI 9 from rfl, c11] at h; exact absurd h.2 (by decide))])
  · skip
    refine j_if_eq (tgt := 17) hx hb dX6_sure_4 (by decide) (fun _ => ?_) (fun q => absurd q (by decide))
    refine lv_bipush (v := (-2)) hx hb dX6_sure_17 (by decide) ?_
    have eF : X = mSureX X x y := by rw [mSureX, if_neg (fun h => by rw [c1] at h; exact absurd h.1 (by decide))]
    rw [eF] at hP hD
    clear eF
    exact wr_ret hx hb hr hlocks dX6_sure_19 hP hD hS (by rw [mSureR, if_neg (fun h => by rw [c1] at h; exact absurd h.1 (by decide))])
set_option maxHeartbeats 4000000 in
set_option maxRecDepth 100000 in
/-- weakAt -/
theorem c_X6_weakAt (l : Launch) (G : EG) (o : Nat) (sa : Nat) (ia : Nat) (ka : Nat) (ea : Nat) (ca : Nat) (tr : Nat) (fi : Int32) (X : Nat → Nat) (hlv : ∀ q, q < 23 → X (17 + q) ≤ 9) (j : Nat) (hj : j < 2147483648) : RO l yX6_weakAt wsX6_weakAt (rmR 0 0) G [(o, .inr (5, [.ref sa, .ref ia, .ref ka, .ref ea, .int (nI tr), .int fi, .ref ca])), (sa, aI G 40 X)] [.ref o, .int (nI j)] (.int (wkL X j 23)) := by
  refine RO.start (by decide) rfl (Nat.le_of_ble_eq_true rfl) ?_
  intro p e s m below meth c hx hb hr hml hts hown hlocks hP hE ls hl
  have hown : s.vm.findClass RX6 = some m.cls := hown
  have hl : lv_has ls 7 [(0, .ref o), (1, .int (nI j))] := hl
  refine lv_bipush (v := (-6)) hx hb dX6_weakAt_0 (by decide) ?_
  refine lv_istore_n (lv' := [(2, .int (-6)), (0, .ref o), (1, .int (nI j))]) hx hb dX6_weakAt_2 rfl hl (by decide) rfl (fun ls hl => ?_)
  refine lv_iconst (v := nI 0) hx hb dX6_weakAt_3 (by decide) ?_
  refine lv_istore_n (lv' := [(3, .int (nI 0)), (2, .int (-6)), (0, .ref o), (1, .int (nI j))]) hx hb dX6_weakAt_4 rfl hl (by decide) rfl (fun ls hl => ?_)
  have loop5 : ∀ (fuel : Nat) (f : Int32) (k : Nat), (k ≤ 23) → (f = wkL X j k) → 23 - k < fuel → ∀ ls : Array Slot, lv_has ls 7 [(3, .int (nI k)), (2, .int f), (0, .ref o), (1, .int (nI j))] → W p l e (rmR 0 0) s m ([.ref o, .int (nI j)] : List Value).toArray below meth c s.heap [] 0 0 (MQ below (k2_QcV (.int (wkL X j 23))) ([.ref o, .int (nI j)] : List Value).toArray s 0 0 (fun _ => False)) (F0 m 5 ls []) := by
    intro fuel
    induction fuel with
    | zero => intro f k h1 h2 hf; exact absurd hf (Nat.not_lt_zero _)
    | succ fuel ih5 =>
      intro f k h1 h2 hf ls hl
      refine lv_iload_n hx hb dX6_weakAt_5 rfl (lv_at hl 0 rfl) ?_
      refine lv_bipush (v := nI 23) hx hb dX6_weakAt_6 (by decide) ?_
      refine j_icmp_ge (tgt := 120) hx hb dX6_weakAt_8 (by decide) (fun c8 => ?_) (fun c8 => ?_)
      · skip
        refine lv_iload_n hx hb dX6_weakAt_120 rfl (lv_at hl 1 rfl) ?_
        exact ro_ret hx hb hr hlocks dX6_weakAt_121 (by rw [h2, show k = 23 by omega])
      · skip
        refine lv_iconst (v := nI 0) hx hb dX6_weakAt_11 (by decide) ?_
        refine lv_istore (lv' := [(4, .int (nI 0)), (3, .int (nI k)), (2, .int f), (0, .ref o), (1, .int (nI j))]) hx hb dX6_weakAt_12 hl (by decide) rfl (fun ls hl => ?_)
        refine lv_iconst (v := nI 0) hx hb dX6_weakAt_14 (by decide) ?_
        refine lv_istore (lv' := [(5, .int (nI 0)), (4, .int (nI 0)), (3, .int (nI k)), (2, .int f), (0, .ref o), (1, .int (nI j))]) hx hb dX6_weakAt_15 hl (by decide) rfl (fun ls hl => ?_)
        have loop17 : ∀ (fuel : Nat) (t : Nat) (q : Nat), (q ≤ 23) → (t = ahdL X k q) → 23 - q < fuel → ∀ ls : Array Slot, lv_has ls 7 [(5, .int (nI q)), (4, .int (nI t)), (3, .int (nI k)), (2, .int f), (0, .ref o), (1, .int (nI j))] → W p l e (rmR 0 0) s m ([.ref o, .int (nI j)] : List Value).toArray below meth c s.heap [] 0 0 (MQ below (k2_QcV (.int (wkL X j 23))) ([.ref o, .int (nI j)] : List Value).toArray s 0 0 (fun _ => False)) (F0 m 17 ls []) := by
          intro fuel
          induction fuel with
          | zero => intro t q g1 g2 hf; exact absurd hf (Nat.not_lt_zero _)
          | succ fuel ih17 =>
            intro t q g1 g2 hf ls hl
            refine lv_iload hx hb dX6_weakAt_17 (lv_at hl 0 rfl) ?_
            refine lv_bipush (v := nI 23) hx hb dX6_weakAt_19 (by decide) ?_
            refine j_icmp_ge (tgt := 102) hx hb dX6_weakAt_21 (by decide) (fun c21 => ?_) (fun c21 => ?_)
            · skip
              refine lv_iload hx hb dX6_weakAt_102 (lv_at hl 1 rfl) ?_
              refine lv_iload_n hx hb dX6_weakAt_104 rfl (lv_at hl 5 rfl) ?_
              refine j_icmp_ne (tgt := 112) hx hb dX6_weakAt_105 (by decide) (fun c105 => ?_) (fun c105 => ?_) (h1 := by have := ahdL_le X k q; omega) (h2 := by omega)
              · skip
                refine lv_iload_n hx hb dX6_weakAt_112 rfl (lv_at hl 3 rfl) ?_
                refine lv_istore_n (lv' := [(2, .int f), (5, .int (nI q)), (4, .int (nI t)), (3, .int (nI k)), (0, .ref o), (1, .int (nI j))]) hx hb dX6_weakAt_113 rfl hl (by decide) rfl (fun ls hl => ?_)
                obtain ⟨x114, ex114⟩ : ∃ y : Nat, y = k + 1 := ⟨_, rfl⟩
                refine lv_iinc (v := nI x114) (lv' := [(3, .int (nI x114)), (2, .int f), (5, .int (nI q)), (4, .int (nI t)), (0, .ref o), (1, .int (nI j))]) hx hb dX6_weakAt_114 hl (k := 3) rfl (by rw [ex114]; exact nI_add _ _) (by decide) rfl (fun ls hl => ?_)
                refine lv_goto (tgt := 5) hx hb dX6_weakAt_117 (by decide) ?_
                exact ih5 f x114 (by omega) (by rw [ex114, wkL, if_neg (fun h => c105 (by rw [g2, show q = 23 by omega]; exact h))]; exact h2) (by omega) ls (lv_sub hl [0, 1, 4, 5] rfl)
              · skip
                refine lv_iload_n hx hb dX6_weakAt_108 rfl (lv_at hl 2 rfl) ?_
                refine lv_goto (tgt := 113) hx hb dX6_weakAt_109 (by decide) ?_
                refine lv_istore_n (lv' := [(2, .int (nI k)), (5, .int (nI q)), (4, .int (nI t)), (3, .int (nI k)), (0, .ref o), (1, .int (nI j))]) hx hb dX6_weakAt_113 rfl hl (by decide) rfl (fun ls hl => ?_)
                obtain ⟨x114, ex114⟩ : ∃ y : Nat, y = k + 1 := ⟨_, rfl⟩
                refine lv_iinc (v := nI x114) (lv' := [(3, .int (nI x114)), (2, .int (nI k)), (5, .int (nI q)), (4, .int (nI t)), (0, .ref o), (1, .int (nI j))]) hx hb dX6_weakAt_114 hl (k := 3) rfl (by rw [ex114]; exact nI_add _ _) (by decide) rfl (fun ls hl => ?_)
                refine lv_goto (tgt := 5) hx hb dX6_weakAt_117 (by decide) ?_
                exact ih5 (nI k) x114 (by omega) (by rw [ex114, wkL, if_pos (by rw [← c105, g2, show q = 23 by omega])]) (by omega) ls (lv_sub hl [0, 1, 4, 5] rfl)
            · skip
              refine lv_aload_n hx hb dX6_weakAt_24 rfl (lv_at hl 4 rfl) ?_
              refine va_get (D := G.1) (ci := 5) (v := .ref sa) (C := RX6) (T := TX6) (N := 7) hx hb hts (fun w h => List.mem_cons_of_mem _ (List.mem_append_right _ h)) hown hE.1 hP 0 rfl rfl 0 (by decide) (hts (.fieldLink RX6 7 "TripleTrapModel" "state" "[I") (List.mem_of_getElem? (i := 1) rfl)) (fun _ h9 => h9) rfl dX6_weakAt_25 ?_
              refine lv_bipush (v := nI 17) hx hb dX6_weakAt_28 (by decide) ?_
              refine lv_iload hx hb dX6_weakAt_30 (lv_at hl 0 rfl) ?_
              refine j_add hx hb dX6_weakAt_32 ?_
              refine j_iald hx hb hE hP 1 rfl dX6_weakAt_33 ?_
              refine lv_aload_n hx hb dX6_weakAt_34 rfl (lv_at hl 4 rfl) ?_
              refine va_get (D := G.1) (ci := 5) (v := .ref sa) (C := RX6) (T := TX6) (N := 7) hx hb hts (fun w h => List.mem_cons_of_mem _ (List.mem_append_right _ h)) hown hE.1 hP 0 rfl rfl 0 (by decide) (hts (.fieldLink RX6 7 "TripleTrapModel" "state" "[I") (List.mem_of_getElem? (i := 1) rfl)) (fun _ h9 => h9) rfl dX6_weakAt_35 ?_
              refine lv_bipush (v := nI 17) hx hb dX6_weakAt_38 (by decide) ?_
              refine lv_iload_n hx hb dX6_weakAt_40 rfl (lv_at hl 2 rfl) ?_
              refine j_add hx hb dX6_weakAt_41 ?_
              refine j_iald hx hb hE hP 1 rfl dX6_weakAt_42 ?_
              refine j_icmp_lt (tgt := 74) hx hb dX6_weakAt_43 (by decide) (fun c43 => ?_) (fun c43 => ?_) (h1 := by have := hlv q (by omega); omega) (h2 := by have := hlv k (by omega); omega)
              · skip
                refine lv_iconst (v := nI 1) hx hb dX6_weakAt_74 (by decide) ?_
                refine lv_goto (tgt := 79) hx hb dX6_weakAt_75 (by decide) ?_
                refine lv_istore (lv' := [(6, .int (nI 1)), (5, .int (nI q)), (4, .int (nI t)), (3, .int (nI k)), (2, .int f), (0, .ref o), (1, .int (nI j))]) hx hb dX6_weakAt_79 hl (by decide) rfl (fun ls hl => ?_)
                refine lv_iload hx hb dX6_weakAt_81 (lv_at hl 2 rfl) ?_
                refine lv_iload hx hb dX6_weakAt_83 (lv_at hl 0 rfl) ?_
                refine j_if_eq (tgt := 92) hx hb dX6_weakAt_85 (by decide) (fun q => absurd q (by decide)) (fun _ => ?_)
                refine lv_iconst (v := nI 1) hx hb dX6_weakAt_88 (by decide) ?_
                refine lv_goto (tgt := 93) hx hb dX6_weakAt_89 (by decide) ?_
                refine j_add hx hb dX6_weakAt_93 ?_
                refine j_top (fun x94 ex94 => ?_)
                refine lv_istore (lv' := [(4, .int (nI x94)), (6, .int (nI 1)), (5, .int (nI q)), (3, .int (nI k)), (2, .int f), (0, .ref o), (1, .int (nI j))]) hx hb dX6_weakAt_94 hl (by decide) rfl (fun ls hl => ?_)
                obtain ⟨x96, ex96⟩ : ∃ y : Nat, y = q + 1 := ⟨_, rfl⟩
                refine lv_iinc (v := nI x96) (lv' := [(5, .int (nI x96)), (4, .int (nI x94)), (6, .int (nI 1)), (3, .int (nI k)), (2, .int f), (0, .ref o), (1, .int (nI j))]) hx hb dX6_weakAt_96 hl (k := 2) rfl (by rw [ex96]; exact nI_add _ _) (by decide) rfl (fun ls hl => ?_)
                refine lv_goto (tgt := 17) hx hb dX6_weakAt_99 (by decide) ?_
                exact ih17 x94 x96 (by omega) (by rw [ex94, ex96, g2, ahdL, ahdB_t (Or.inl c43)]; rfl) (by omega) ls (lv_sub hl [0, 1, 3, 4, 5, 6] rfl)
              · skip
                refine lv_aload_n hx hb dX6_weakAt_46 rfl (lv_at hl 4 rfl) ?_
                refine va_get (D := G.1) (ci := 5) (v := .ref sa) (C := RX6) (T := TX6) (N := 7) hx hb hts (fun w h => List.mem_cons_of_mem _ (List.mem_append_right _ h)) hown hE.1 hP 0 rfl rfl 0 (by decide) (hts (.fieldLink RX6 7 "TripleTrapModel" "state" "[I") (List.mem_of_getElem? (i := 1) rfl)) (fun _ h9 => h9) rfl dX6_weakAt_47 ?_
                refine lv_bipush (v := nI 17) hx hb dX6_weakAt_50 (by decide) ?_
                refine lv_iload hx hb dX6_weakAt_52 (lv_at hl 0 rfl) ?_
                refine j_add hx hb dX6_weakAt_54 ?_
                refine j_iald hx hb hE hP 1 rfl dX6_weakAt_55 ?_
                refine lv_aload_n hx hb dX6_weakAt_56 rfl (lv_at hl 4 rfl) ?_
                refine va_get (D := G.1) (ci := 5) (v := .ref sa) (C := RX6) (T := TX6) (N := 7) hx hb hts (fun w h => List.mem_cons_of_mem _ (List.mem_append_right _ h)) hown hE.1 hP 0 rfl rfl 0 (by decide) (hts (.fieldLink RX6 7 "TripleTrapModel" "state" "[I") (List.mem_of_getElem? (i := 1) rfl)) (fun _ h9 => h9) rfl dX6_weakAt_57 ?_
                refine lv_bipush (v := nI 17) hx hb dX6_weakAt_60 (by decide) ?_
                refine lv_iload_n hx hb dX6_weakAt_62 rfl (lv_at hl 2 rfl) ?_
                refine j_add hx hb dX6_weakAt_63 ?_
                refine j_iald hx hb hE hP 1 rfl dX6_weakAt_64 ?_
                refine j_icmp_ne (tgt := 78) hx hb dX6_weakAt_65 (by decide) (fun c65 => ?_) (fun c65 => ?_) (h1 := by have := hlv q (by omega); omega) (h2 := by have := hlv k (by omega); omega)
                · skip
                  refine lv_iconst (v := nI 0) hx hb dX6_weakAt_78 (by decide) ?_
                  refine lv_istore (lv' := [(6, .int (nI 0)), (5, .int (nI q)), (4, .int (nI t)), (3, .int (nI k)), (2, .int f), (0, .ref o), (1, .int (nI j))]) hx hb dX6_weakAt_79 hl (by decide) rfl (fun ls hl => ?_)
                  refine lv_iload hx hb dX6_weakAt_81 (lv_at hl 2 rfl) ?_
                  refine lv_iload hx hb dX6_weakAt_83 (lv_at hl 0 rfl) ?_
                  refine j_if_eq (tgt := 92) hx hb dX6_weakAt_85 (by decide) (fun _ => ?_) (fun q => absurd q (by decide))
                  refine lv_iconst (v := nI 0) hx hb dX6_weakAt_92 (by decide) ?_
                  refine j_add hx hb dX6_weakAt_93 ?_
                  refine j_top (fun x94 ex94 => ?_)
                  refine lv_istore (lv' := [(4, .int (nI x94)), (6, .int (nI 0)), (5, .int (nI q)), (3, .int (nI k)), (2, .int f), (0, .ref o), (1, .int (nI j))]) hx hb dX6_weakAt_94 hl (by decide) rfl (fun ls hl => ?_)
                  obtain ⟨x96, ex96⟩ : ∃ y : Nat, y = q + 1 := ⟨_, rfl⟩
                  refine lv_iinc (v := nI x96) (lv' := [(5, .int (nI x96)), (4, .int (nI x94)), (6, .int (nI 0)), (3, .int (nI k)), (2, .int f), (0, .ref o), (1, .int (nI j))]) hx hb dX6_weakAt_96 hl (k := 2) rfl (by rw [ex96]; exact nI_add _ _) (by decide) rfl (fun ls hl => ?_)
                  refine lv_goto (tgt := 17) hx hb dX6_weakAt_99 (by decide) ?_
                  exact ih17 x94 x96 (by omega) (by rw [ex94, ex96, g2, ahdL, ahdB_f (ahdP_f c43 (fun h => c65 h.1))]; rfl) (by omega) ls (lv_sub hl [0, 1, 3, 4, 5, 6] rfl)
                · skip
                  refine lv_iload hx hb dX6_weakAt_68 (lv_at hl 0 rfl) ?_
                  refine lv_iload_n hx hb dX6_weakAt_70 rfl (lv_at hl 2 rfl) ?_
                  refine j_icmp_ge (tgt := 78) hx hb dX6_weakAt_71 (by decide) (fun c71 => ?_) (fun c71 => ?_)
                  · skip
                    refine lv_iconst (v := nI 0) hx hb dX6_weakAt_78 (by decide) ?_
                    refine lv_istore (lv' := [(6, .int (nI 0)), (5, .int (nI q)), (4, .int (nI t)), (3, .int (nI k)), (2, .int f), (0, .ref o), (1, .int (nI j))]) hx hb dX6_weakAt_79 hl (by decide) rfl (fun ls hl => ?_)
                    refine lv_iload hx hb dX6_weakAt_81 (lv_at hl 2 rfl) ?_
                    refine lv_iload hx hb dX6_weakAt_83 (lv_at hl 0 rfl) ?_
                    refine j_if_eq (tgt := 92) hx hb dX6_weakAt_85 (by decide) (fun _ => ?_) (fun q => absurd q (by decide))
                    refine lv_iconst (v := nI 0) hx hb dX6_weakAt_92 (by decide) ?_
                    refine j_add hx hb dX6_weakAt_93 ?_
                    refine j_top (fun x94 ex94 => ?_)
                    refine lv_istore (lv' := [(4, .int (nI x94)), (6, .int (nI 0)), (5, .int (nI q)), (3, .int (nI k)), (2, .int f), (0, .ref o), (1, .int (nI j))]) hx hb dX6_weakAt_94 hl (by decide) rfl (fun ls hl => ?_)
                    obtain ⟨x96, ex96⟩ : ∃ y : Nat, y = q + 1 := ⟨_, rfl⟩
                    refine lv_iinc (v := nI x96) (lv' := [(5, .int (nI x96)), (4, .int (nI x94)), (6, .int (nI 0)), (3, .int (nI k)), (2, .int f), (0, .ref o), (1, .int (nI j))]) hx hb dX6_weakAt_96 hl (k := 2) rfl (by rw [ex96]; exact nI_add _ _) (by decide) rfl (fun ls hl => ?_)
                    refine lv_goto (tgt := 17) hx hb dX6_weakAt_99 (by decide) ?_
                    exact ih17 x94 x96 (by omega) (by rw [ex94, ex96, g2, ahdL, ahdB_f (ahdP_f c43 (fun h => absurd h.2 (Nat.not_lt.mpr c71)))]; rfl) (by omega) ls (lv_sub hl [0, 1, 3, 4, 5, 6] rfl)
                  · skip
                    refine lv_iconst (v := nI 1) hx hb dX6_weakAt_74 (by decide) ?_
                    refine lv_goto (tgt := 79) hx hb dX6_weakAt_75 (by decide) ?_
                    refine lv_istore (lv' := [(6, .int (nI 1)), (5, .int (nI q)), (4, .int (nI t)), (3, .int (nI k)), (2, .int f), (0, .ref o), (1, .int (nI j))]) hx hb dX6_weakAt_79 hl (by decide) rfl (fun ls hl => ?_)
                    refine lv_iload hx hb dX6_weakAt_81 (lv_at hl 2 rfl) ?_
                    refine lv_iload hx hb dX6_weakAt_83 (lv_at hl 0 rfl) ?_
                    refine j_if_eq (tgt := 92) hx hb dX6_weakAt_85 (by decide) (fun q => absurd q (by decide)) (fun _ => ?_)
                    refine lv_iconst (v := nI 1) hx hb dX6_weakAt_88 (by decide) ?_
                    refine lv_goto (tgt := 93) hx hb dX6_weakAt_89 (by decide) ?_
                    refine j_add hx hb dX6_weakAt_93 ?_
                    refine j_top (fun x94 ex94 => ?_)
                    refine lv_istore (lv' := [(4, .int (nI x94)), (6, .int (nI 1)), (5, .int (nI q)), (3, .int (nI k)), (2, .int f), (0, .ref o), (1, .int (nI j))]) hx hb dX6_weakAt_94 hl (by decide) rfl (fun ls hl => ?_)
                    obtain ⟨x96, ex96⟩ : ∃ y : Nat, y = q + 1 := ⟨_, rfl⟩
                    refine lv_iinc (v := nI x96) (lv' := [(5, .int (nI x96)), (4, .int (nI x94)), (6, .int (nI 1)), (3, .int (nI k)), (2, .int f), (0, .ref o), (1, .int (nI j))]) hx hb dX6_weakAt_96 hl (k := 2) rfl (by rw [ex96]; exact nI_add _ _) (by decide) rfl (fun ls hl => ?_)
                    refine lv_goto (tgt := 17) hx hb dX6_weakAt_99 (by decide) ?_
                    exact ih17 x94 x96 (by omega) (by rw [ex94, ex96, g2, ahdL, ahdB_t (Or.inr ⟨c65, c71⟩)]; rfl) (by omega) ls (lv_sub hl [0, 1, 3, 4, 5, 6] rfl)
        exact loop17 _ 0 0 (by omega) rfl (Nat.lt_succ_self _) ls (lv_sub hl [0, 1, 2, 3, 4, 5] rfl)
  exact loop5 _ (-6) 0 (by omega) rfl (Nat.lt_succ_self _) ls (lv_sub hl [0, 1, 2, 3] rfl)
set_option maxHeartbeats 4000000 in
set_option maxRecDepth 100000 in
/-- weak -/
theorem c_X6_weak (l : Launch) (G : EG) (o : Nat) (sa : Nat) (ia : Nat) (ka : Nat) (ea : Nat) (ca : Nat) (tr : Nat) (fi : Int32) (X : Nat → Nat) (hlv : ∀ q, q < 23 → X (17 + q) ≤ 9) (x : Int32) : RO l yX6_weak wsX6_weak (rmR 1 26) G [(o, .inr (5, [.ref sa, .ref ia, .ref ka, .ref ea, .int (nI tr), .int fi, .ref ca])), (sa, aI G 40 X)] [.ref o, .int x] (.int (mWeak X x)) := by
  refine RO.start (by decide) rfl (Nat.le_of_ble_eq_true rfl) ?_
  intro p e s m below meth c hx hb hr hml hts hown hlocks hP hE ls hl
  have hown : s.vm.findClass RX6 = some m.cls := hown
  have hl : lv_has ls 2 [(0, .ref o), (1, .int x)] := hl
  refine lv_iload_n hx hb dX6_weak_0 rfl (lv_at hl 1 rfl) ?_
  refine lv_iconst (v := nI 0) hx hb dX6_weak_1 (by decide) ?_
  refine lv_iconst (v := nI 3) hx hb dX6_weak_2 (by decide) ?_
  refine ro_S (rest := []) ⟨hx, hb, hml, hown, hts⟩ (c_X6_in l G x (nI 0) (nI 3)) (va_cwS 3 hts gX6_weak_X6_in rfl rfl rfl (by decide +kernel) ⟨Nat.le_of_ble_eq_true rfl, Nat.le_of_ble_eq_true rfl⟩) hE (hP.sub [] rfl) rfl hl.1 rfl (Nat.le_of_ble_eq_true rfl) dX6_weak_3 ⟨Nat.zero_le _, Nat.zero_le _⟩ ?_
  refine j_bool (fun c3 => ?_) (fun c3 => ?_)
  · skip
    obtain ⟨j, hj, rfl⟩ := inI_ex (N := 3) rfl c3 (by decide)
    refine j_if_eq (tgt := 17) hx hb dX6_weak_6 (by decide) (fun q => absurd q (by decide)) (fun _ => ?_)
    refine lv_aload_n hx hb dX6_weak_9 rfl (lv_at hl 0 rfl) ?_
    refine lv_iload_n hx hb dX6_weak_10 rfl (lv_at hl 1 rfl) ?_
    refine ro_V 5 0 (rest := []) ⟨hx, hb, hml, hown, hts⟩ (c_X6_weakAt l G o sa ia ka ea ca tr fi X hlv j (by omega)) (cwV 1 hts gX6_weak_X6_weakAt rfl rfl rfl (by decide +kernel) ⟨Nat.le_of_ble_eq_true rfl, Nat.le_of_ble_eq_true rfl⟩) hE (hP.sub [0, 1] rfl) rfl rfl rfl hl.1 rfl (Nat.le_of_ble_eq_true rfl) dX6_weak_11 ⟨Nat.zero_le _, Nat.zero_le _⟩ ?_
    refine lv_goto (tgt := 19) hx hb dX6_weak_14 (by decide) ?_
    exact ro_ret hx hb hr hlocks dX6_weak_19 (by rw [mWeak, if_pos (blw_j hj (by decide)), cl_nI hj (by decide)])
  · skip
    refine j_if_eq (tgt := 17) hx hb dX6_weak_6 (by decide) (fun _ => ?_) (fun q => absurd q (by decide))
    refine lv_bipush (v := (-2)) hx hb dX6_weak_17 (by decide) ?_
    exact ro_ret hx hb hr hlocks dX6_weak_19 (by rw [mWeak, if_neg (fun h => by rw [← inI_blw x (N := 4) (by decide) (by decide), show nI (4 - 1) = nI 3 from rfl, c3] at h; exact absurd h (by decide))])
set_option maxHeartbeats 4000000 in
set_option maxRecDepth 100000 in
/-- loss -/
theorem c_X6_loss (l : Launch) (G : EG) (o : Nat) (sa : Nat) (ia : Nat) (ka : Nat) (ea : Nat) (ca : Nat) (tr : Nat) (fi : Int32) (X : Nat → Nat) (u : Nat) (v : Nat) (hu : u < 8388608) (hv : v < 8388608) : RO l yX6_loss wsX6_loss (rmR 0 0) G [(o, .inr (5, [.ref sa, .ref ia, .ref ka, .ref ea, .int (nI tr), .int fi, .ref ca])), (sa, aI G 40 X)] [.ref o, .int (nI u), .int (nI v)] (.int (nI (losL X (u ^^^ v) 23))) := by
  refine RO.start (by decide) rfl (Nat.le_of_ble_eq_true rfl) ?_
  intro p e s m below meth c hx hb hr hml hts hown hlocks hP hE ls hl
  have hown : s.vm.findClass RX6 = some m.cls := hown
  have hl : lv_has ls 5 [(0, .ref o), (1, .int (nI u)), (2, .int (nI v))] := hl
  refine lv_iconst (v := nI 0) hx hb dX6_loss_0 (by decide) ?_
  refine lv_istore_n (lv' := [(3, .int (nI 0)), (0, .ref o), (1, .int (nI u)), (2, .int (nI v))]) hx hb dX6_loss_1 rfl hl (by decide) rfl (fun ls hl => ?_)
  refine lv_iconst (v := nI 0) hx hb dX6_loss_2 (by decide) ?_
  refine lv_istore (lv' := [(4, .int (nI 0)), (3, .int (nI 0)), (0, .ref o), (1, .int (nI u)), (2, .int (nI v))]) hx hb dX6_loss_3 hl (by decide) rfl (fun ls hl => ?_)
  have loop5 : ∀ (fuel : Nat) (t : Nat) (q : Nat), (q ≤ 23) → (t = losL X (u ^^^ v) q) → 23 - q < fuel → ∀ ls : Array Slot, lv_has ls 5 [(4, .int (nI q)), (3, .int (nI t)), (0, .ref o), (1, .int (nI u)), (2, .int (nI v))] → W p l e (rmR 0 0) s m ([.ref o, .int (nI u), .int (nI v)] : List Value).toArray below meth c s.heap [] 0 0 (MQ below (k2_QcV (.int (nI (losL X (u ^^^ v) 23)))) ([.ref o, .int (nI u), .int (nI v)] : List Value).toArray s 0 0 (fun _ => False)) (F0 m 5 ls []) := by
    intro fuel
    induction fuel with
    | zero => intro t q h1 h2 hf; exact absurd hf (Nat.not_lt_zero _)
    | succ fuel ih5 =>
      intro t q h1 h2 hf ls hl
      refine lv_iload hx hb dX6_loss_5 (lv_at hl 0 rfl) ?_
      refine lv_bipush (v := nI 23) hx hb dX6_loss_7 (by decide) ?_
      refine j_icmp_ge (tgt := 40) hx hb dX6_loss_9 (by decide) (fun c9 => ?_) (fun c9 => ?_)
      · skip
        refine lv_iload_n hx hb dX6_loss_40 rfl (lv_at hl 1 rfl) ?_
        exact ro_ret hx hb hr hlocks dX6_loss_41 (by rw [h2, show q = 23 by omega])
      · skip
        refine lv_iload_n hx hb dX6_loss_12 rfl (lv_at hl 1 rfl) ?_
        refine lv_iload_n hx hb dX6_loss_13 rfl (lv_at hl 3 rfl) ?_
        refine lv_iload_n hx hb dX6_loss_14 rfl (lv_at hl 4 rfl) ?_
        refine j_xor hx hb dX6_loss_15 ?_
        refine lv_iload hx hb dX6_loss_16 (lv_at hl 0 rfl) ?_
        refine j_shr hx hb dX6_loss_18 ?_ (ha := Nat.lt_trans (bd_xor 23 hu hv) (by decide)) (h := by omega)
        refine lv_iconst (v := nI 1) hx hb dX6_loss_19 (by decide) ?_
        refine j_and hx hb dX6_loss_20 ?_
        refine lv_aload_n hx hb dX6_loss_21 rfl (lv_at hl 2 rfl) ?_
        refine va_get (D := G.1) (ci := 5) (v := .ref sa) (C := RX6) (T := TX6) (N := 7) hx hb hts (fun w h => List.mem_cons_of_mem _ (List.mem_append_right _ h)) hown hE.1 hP 0 rfl rfl 0 (by decide) (hts (.fieldLink RX6 7 "TripleTrapModel" "state" "[I") (List.mem_of_getElem? (i := 1) rfl)) (fun _ h9 => h9) rfl dX6_loss_22 ?_
        refine lv_bipush (v := nI 17) hx hb dX6_loss_25 (by decide) ?_
        refine lv_iload hx hb dX6_loss_27 (lv_at hl 0 rfl) ?_
        refine j_add hx hb dX6_loss_29 ?_
        refine j_iald hx hb hE hP 1 rfl dX6_loss_30 ?_
        refine j_mul hx hb dX6_loss_31 ?_
        refine j_add hx hb dX6_loss_32 ?_
        refine j_top (fun x33 ex33 => ?_)
        refine lv_istore_n (lv' := [(3, .int (nI x33)), (4, .int (nI q)), (0, .ref o), (1, .int (nI u)), (2, .int (nI v))]) hx hb dX6_loss_33 rfl hl (by decide) rfl (fun ls hl => ?_)
        obtain ⟨x34, ex34⟩ : ∃ y : Nat, y = q + 1 := ⟨_, rfl⟩
        refine lv_iinc (v := nI x34) (lv' := [(4, .int (nI x34)), (3, .int (nI x33)), (0, .ref o), (1, .int (nI u)), (2, .int (nI v))]) hx hb dX6_loss_34 hl (k := 1) rfl (by rw [ex34]; exact nI_add _ _) (by decide) rfl (fun ls hl => ?_)
        refine lv_goto (tgt := 5) hx hb dX6_loss_37 (by decide) ?_
        exact ih5 x33 x34 (by omega) (by rw [ex33, ex34, h2]; rfl) (by omega) ls (lv_sub hl [0, 1, 2, 3, 4] rfl)
  exact loop5 _ 0 0 (by omega) rfl (Nat.lt_succ_self _) ls (lv_sub hl [0, 1, 2, 3, 4] rfl)
