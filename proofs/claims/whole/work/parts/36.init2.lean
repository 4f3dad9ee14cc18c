set_option maxHeartbeats 4000000 in
set_option maxRecDepth 100000 in
/-- Moves() -/
theorem c_X3_init (l : Launch) (G : EG) (m0 : Nat) (sz : Nat) : CR l yX3_init wsX3_init ({ frames := 1, cells := 3, slots := 24, locals := 20 } : Room) G sz [(m0, .inr (2, [.int (nI 0), .null, .null, .null]))] [.ref m0] (fun u : Nat × Nat × Nat => match u with | (f0, s0, b0) => [(m0, .inr (2, [.int (nI 0), .ref f0, .ref s0, .ref b0])), (f0, aI G 8 (fun _ => 0)), (s0, aI G 8 (fun _ => 0)), (b0, aI G 8 (fun _ => 0))]) 3 24 := by
  refine CR.start (by decide) rfl (Nat.le_of_ble_eq_true rfl) ?_
  intro p e s m below meth c hx hb hr hml hts hown hlocks hin hE A hA H locs hP hD hS ls hl
  have hin : meth.name = "<init>" := hin
  have hown : s.vm.findClass RX3 = some m.cls := hown
  have hl : lv_has ls 1 [(0, .ref m0)] := hl
  refine lv_aload_n hx hb dX3_init_0 rfl (lv_at hl 0 rfl) ?_
  refine W.objInit hx hb hown (hts (.methodLink RX3 3 objectInit) (List.mem_of_getElem? (i := 1) rfl)) (hts (.instanceMethod objectInit) (List.mem_of_getElem? (i := 2) rfl)) (hts (.code objectInit ⟨#[0xb1]⟩ 1 none) (List.mem_of_getElem? (i := 3) rfl)) rfl (by rw [hml]; exact hl.1) rfl dX3_init_1 (Nat.le_of_ble_eq_true rfl) (Nat.le_of_ble_eq_true rfl) ?_
  refine W.eq (g2 := F0 m 4 ls []) rfl ?_
  refine lv_aload_n hx hb dX3_init_4 rfl (lv_at hl 0 rfl) ?_
  refine lv_iconst (v := nI 0) hx hb dX3_init_5 (by decide) ?_
  refine va_put (D := G.1) (ci := 2) (v := .int (nI 0)) (ty := .int) (C := RX3) (T := TX3) (N := 4) hx hb hts (fun w h => List.mem_cons_of_mem _ (List.mem_append_right _ h)) tyX3 tyX3_ok nmX3 hown hE.1 hP hD hS 0 rfl rfl 0 (by decide) (hts (.fieldLink RX3 9 "TripleTrap$Moves" "size" "I") (List.mem_of_getElem? (i := 4) rfl)) (fun _ h9 => h9) rfl (by decide +kernel) rfl rfl (Nat.le_of_ble_eq_true rfl) dX3_init_6 (fun H locs hP hD hS => ?_)
  have hP : va_P G.1 vwCl [(m0, .inr (2, [.int (nI 0), .null, .null, .null]))] H := hP
  have hD : va_D A [(m0, .inr (2, [.int (nI 0), .null, .null, .null]))] := hD
  refine lv_aload_n hx hb dX3_init_9 rfl (lv_at hl 0 rfl) ?_
  refine lv_bipush (v := nI 8) hx hb dX3_init_10 (by decide) ?_
  refine j_newa (N := 8) hx hb (hts (.arrayClass .int) (List.mem_of_getElem? (i := 5) rfl)) hE hP hD hS hA (by decide) (by decide) (Nat.le_of_ble_eq_true rfl) (Nat.le_of_ble_eq_true rfl) dX3_init_12 (fun f0 H hP hD hS => ?_)
  have hP : va_P G.1 vwCl [(m0, .inr (2, [.int (nI 0), .null, .null, .null])), (f0, aI G 8 (fun _ => 0))] H := hP
  have hD : va_D A [(m0, .inr (2, [.int (nI 0), .null, .null, .null])), (f0, aI G 8 (fun _ => 0))] := hD
  refine W.cs (cells' := 1) (slots' := 8) rfl rfl ?_
  refine va_putF (D := G.1) (ci := 2) (v := .ref f0) (ty := .array .int) (C := RX3) (T := TX3) (N := 4) hx hb hts (fun w h => List.mem_cons_of_mem _ (List.mem_append_right _ h)) tyX3 tyX3_ok nmX3 hown hE.1 hP hD hS 0 rfl rfl 1 (by decide) (hts (.fieldLink RX3 15 "TripleTrap$Moves" "factors" "[I") (List.mem_of_getElem? (i := 6) rfl)) (fun _ h9 => h9) rfl hin rfl (by decide +kernel) rfl rfl (Nat.le_of_ble_eq_true rfl) dX3_init_14 (fun H locs hP hD hS => ?_)
  have hP : va_P G.1 vwCl [(m0, .inr (2, [.int (nI 0), .ref f0, .null, .null])), (f0, aI G 8 (fun _ => 0))] H := hP
  have hD : va_D A [(m0, .inr (2, [.int (nI 0), .ref f0, .null, .null])), (f0, aI G 8 (fun _ => 0))] := hD
  refine lv_aload_n hx hb dX3_init_17 rfl (lv_at hl 0 rfl) ?_
  refine lv_bipush (v := nI 8) hx hb dX3_init_18 (by decide) ?_
  refine j_newa (N := 8) hx hb (hts (.arrayClass .int) (List.mem_of_getElem? (i := 5) rfl)) hE hP hD hS hA (by decide) (by decide) (Nat.le_of_ble_eq_true rfl) (Nat.le_of_ble_eq_true rfl) dX3_init_20 (fun s0 H hP hD hS => ?_)
  have hP : va_P G.1 vwCl [(m0, .inr (2, [.int (nI 0), .ref f0, .null, .null])), (f0, aI G 8 (fun _ => 0)), (s0, aI G 8 (fun _ => 0))] H := hP
  have hD : va_D A [(m0, .inr (2, [.int (nI 0), .ref f0, .null, .null])), (f0, aI G 8 (fun _ => 0)), (s0, aI G 8 (fun _ => 0))] := hD
  refine W.cs (cells' := 2) (slots' := 16) rfl rfl ?_
  refine va_putF (D := G.1) (ci := 2) (v := .ref s0) (ty := .array .int) (C := RX3) (T := TX3) (N := 4) hx hb hts (fun w h => List.mem_cons_of_mem _ (List.mem_append_right _ h)) tyX3 tyX3_ok nmX3 hown hE.1 hP hD hS 0 rfl rfl 2 (by decide) (hts (.fieldLink RX3 19 "TripleTrap$Moves" "shifts" "[I") (List.mem_of_getElem? (i := 7) rfl)) (fun _ h9 => h9) rfl hin rfl (by decide +kernel) rfl rfl (Nat.le_of_ble_eq_true rfl) dX3_init_22 (fun H locs hP hD hS => ?_)
  have hP : va_P G.1 vwCl [(m0, .inr (2, [.int (nI 0), .ref f0, .ref s0, .null])), (f0, aI G 8 (fun _ => 0)), (s0, aI G 8 (fun _ => 0))] H := hP
  have hD : va_D A [(m0, .inr (2, [.int (nI 0), .ref f0, .ref s0, .null])), (f0, aI G 8 (fun _ => 0)), (s0, aI G 8 (fun _ => 0))] := hD
  refine lv_aload_n hx hb dX3_init_25 rfl (lv_at hl 0 rfl) ?_
  refine lv_bipush (v := nI 8) hx hb dX3_init_26 (by decide) ?_
  refine j_newa (N := 8) hx hb (hts (.arrayClass .int) (List.mem_of_getElem? (i := 5) rfl)) hE hP hD hS hA (by decide) (by decide) (Nat.le_of_ble_eq_true rfl) (Nat.le_of_ble_eq_true rfl) dX3_init_28 (fun b0 H hP hD hS => ?_)
  have hP : va_P G.1 vwCl [(m0, .inr (2, [.int (nI 0), .ref f0, .ref s0, .null])), (f0, aI G 8 (fun _ => 0)), (s0, aI G 8 (fun _ => 0)), (b0, aI G 8 (fun _ => 0))] H := hP
  have hD : va_D A [(m0, .inr (2, [.int (nI 0), .ref f0, .ref s0, .null])), (f0, aI G 8 (fun _ => 0)), (s0, aI G 8 (fun _ => 0)), (b0, aI G 8 (fun _ => 0))] := hD
  refine W.cs (cells' := 3) (slots' := 24) rfl rfl ?_
  refine va_putF (D := G.1) (ci := 2) (v := .ref b0) (ty := .array .int) (C := RX3) (T := TX3) (N := 4) hx hb hts (fun w h => List.mem_cons_of_mem _ (List.mem_append_right _ h)) tyX3 tyX3_ok nmX3 hown hE.1 hP hD hS 0 rfl rfl 3 (by decide) (hts (.fieldLink RX3 22 "TripleTrap$Moves" "brought" "[I") (List.mem_of_getElem? (i := 8) rfl)) (fun _ h9 => h9) rfl hin rfl (by decide +kernel) rfl rfl (Nat.le_of_ble_eq_true rfl) dX3_init_30 (fun H locs hP hD hS => ?_)
  have hP : va_P G.1 vwCl [(m0, .inr (2, [.int (nI 0), .ref f0, .ref s0, .ref b0])), (f0, aI G 8 (fun _ => 0)), (s0, aI G 8 (fun _ => 0)), (b0, aI G 8 (fun _ => 0))] H := hP
  have hD : va_D A [(m0, .inr (2, [.int (nI 0), .ref f0, .ref s0, .ref b0])), (f0, aI G 8 (fun _ => 0)), (s0, aI G 8 (fun _ => 0)), (b0, aI G 8 (fun _ => 0))] := hD
  exact cr_vret (f0, s0, b0) hx hb hr hlocks dX3_init_33 (hP.sub [0, 1, 2, 3] rfl) (hD.sub [0, 1, 2, 3] (by decide) rfl) hS
set_option maxHeartbeats 4000000 in
set_option maxRecDepth 100000 in
/-- Trust() -/
theorem c_X4_init (l : Launch) (G : EG) (t0 : Nat) (sz : Nat) : CR l yX4_init wsX4_init ({ frames := 1, cells := 1, slots := 23, locals := 20 } : Room) G sz [(t0, .inr (3, [.null]))] [.ref t0] (fun u : Nat => match u with | l0 => [(t0, .inr (3, [.ref l0])), (l0, aI G 23 (fun _ => 9))]) 1 23 := by
  refine CR.start (by decide) rfl (Nat.le_of_ble_eq_true rfl) ?_
  intro p e s m below meth c hx hb hr hml hts hown hlocks hin hE A hA H locs hP hD hS ls hl
  have hin : meth.name = "<init>" := hin
  have hown : s.vm.findClass RX4 = some m.cls := hown
  have hl : lv_has ls 2 [(0, .ref t0)] := hl
  refine lv_aload_n hx hb dX4_init_0 rfl (lv_at hl 0 rfl) ?_
  refine W.objInit hx hb hown (hts (.methodLink RX4 3 objectInit) (List.mem_of_getElem? (i := 1) rfl)) (hts (.instanceMethod objectInit) (List.mem_of_getElem? (i := 2) rfl)) (hts (.code objectInit ⟨#[0xb1]⟩ 1 none) (List.mem_of_getElem? (i := 3) rfl)) rfl (by rw [hml]; exact hl.1) rfl dX4_init_1 (Nat.le_of_ble_eq_true rfl) (Nat.le_of_ble_eq_true rfl) ?_
  refine W.eq (g2 := F0 m 4 ls []) rfl ?_
  refine lv_aload_n hx hb dX4_init_4 rfl (lv_at hl 0 rfl) ?_
  refine lv_bipush (v := nI 23) hx hb dX4_init_5 (by decide) ?_
  refine j_newa (N := 23) hx hb (hts (.arrayClass .int) (List.mem_of_getElem? (i := 4) rfl)) hE hP hD hS hA (by decide) (by decide) (Nat.le_of_ble_eq_true rfl) (Nat.le_of_ble_eq_true rfl) dX4_init_7 (fun l0 H hP hD hS => ?_)
  have hP : va_P G.1 vwCl [(t0, .inr (3, [.null])), (l0, aI G 23 (fun _ => 0))] H := hP
  have hD : va_D A [(t0, .inr (3, [.null])), (l0, aI G 23 (fun _ => 0))] := hD
  refine W.cs (cells' := 1) (slots' := 23) rfl rfl ?_
  refine va_putF (D := G.1) (ci := 3) (v := .ref l0) (ty := .array .int) (C := RX4) (T := TX4) (N := 1) hx hb hts (fun w h => List.mem_cons_of_mem _ (List.mem_append_right _ h)) tyX4 tyX4_ok nmX4 hown hE.1 hP hD hS 0 rfl rfl 0 (by decide) (hts (.fieldLink RX4 9 "TripleTrap$Trust" "levels" "[I") (List.mem_of_getElem? (i := 5) rfl)) (fun _ h9 => h9) rfl hin rfl (by decide +kernel) rfl rfl (Nat.le_of_ble_eq_true rfl) dX4_init_9 (fun H locs hP hD hS => ?_)
  have hP : va_P G.1 vwCl [(t0, .inr (3, [.ref l0])), (l0, aI G 23 (fun _ => 0))] H := hP
  have hD : va_D A [(t0, .inr (3, [.ref l0])), (l0, aI G 23 (fun _ => 0))] := hD
  refine lv_iconst (v := nI 0) hx hb dX4_init_12 (by decide) ?_
  refine lv_istore_n (lv' := [(1, .int (nI 0)), (0, .ref t0)]) hx hb dX4_init_13 rfl hl (by decide) rfl (fun ls hl => ?_)
  have loop14 : ∀ (fuel : Nat) (k : Nat) (D : Nat → Nat), (k ≤ 23) → (D = ninL (fun _ => 0) 0 k) → 23 - k < fuel → ∀ (H : Heap) (locs : List Loc), va_P G.1 vwCl [(t0, .inr (3, [.ref l0])), (l0, aI G 23 D)] H → va_D A [(t0, .inr (3, [.ref l0])), (l0, aI G 23 D)] → va_S A s.heap H locs → ∀ ls : Array Slot, lv_has ls 2 [(1, .int (nI k)), (0, .ref t0)] → W p l e ({ frames := 1, cells := 1, slots := 23, locals := 20 } : Room) s m ([.ref t0] : List Value).toArray below meth c H locs 1 23 (MQ below (postN G (fun u : Nat => match u with | l0 => [(t0, .inr (3, [.ref l0])), (l0, aI G 23 (fun _ => 9))]) A) ([.ref t0] : List Value).toArray s 1 23 A) (F0 m 14 ls []) := by
    intro fuel
    induction fuel with
    | zero => intro k D h1 q1 hf; exact absurd hf (Nat.not_lt_zero _)
    | succ fuel ih14 =>
      intro k D h1 q1 hf H locs hP hD hS ls hl
      refine lv_iload_n hx hb dX4_init_14 rfl (lv_at hl 0 rfl) ?_
      refine lv_bipush (v := nI 23) hx hb dX4_init_15 (by decide) ?_
      refine j_icmp_ge (tgt := 34) hx hb dX4_init_17 (by decide) (fun c17 => ?_) (fun c17 => ?_)
      · skip
        obtain ⟨hP, hD⟩ := PD_arr (F' := fun _ => 9) hP hD 1 rfl (fun i hi => by have := ninL_eq (fun _ => 0) 0 k i (by omega); rw [Nat.zero_add] at this; rw [q1]; exact this)
        exact cr_vret l0 hx hb hr hlocks dX4_init_34 (hP.sub [0, 1] rfl) (hD.sub [0, 1] (by decide) rfl) hS
      · skip
        refine lv_aload_n hx hb dX4_init_20 rfl (lv_at hl 1 rfl) ?_
        refine va_get (D := G.1) (ci := 3) (v := .ref l0) (C := RX4) (T := TX4) (N := 1) hx hb hts (fun w h => List.mem_cons_of_mem _ (List.mem_append_right _ h)) hown hE.1 hP 0 rfl rfl 0 (by decide) (hts (.fieldLink RX4 9 "TripleTrap$Trust" "levels" "[I") (List.mem_of_getElem? (i := 5) rfl)) (fun _ h9 => h9) rfl dX4_init_21 ?_
        refine lv_iload_n hx hb dX4_init_24 rfl (lv_at hl 0 rfl) ?_
        refine lv_bipush (v := nI 9) hx hb dX4_init_25 (by decide) ?_
        refine j_iast hx hb hE hP hD hS 1 rfl dX4_init_27 (fun H locs hP hD hS => ?_)
        have hP : va_P G.1 vwCl [(t0, .inr (3, [.ref l0])), (l0, aI G 23 (va_up D k 9))] H := hP
        have hD : va_D A [(t0, .inr (3, [.ref l0])), (l0, aI G 23 (va_up D k 9))] := hD
        obtain ⟨x28, ex28⟩ : ∃ y : Nat, y = k + 1 := ⟨_, rfl⟩
        refine lv_iinc (v := nI x28) (lv' := [(1, .int (nI x28)), (0, .ref t0)]) hx hb dX4_init_28 hl (k := 0) rfl (by rw [ex28]; exact nI_add _ _) (by decide) rfl (fun ls hl => ?_)
        refine lv_goto (tgt := 14) hx hb dX4_init_31 (by decide) ?_
        exact ih14 x28 (va_up D k 9) (by omega) (by rw [ex28, ninL, ← q1, Nat.zero_add]) (by omega) H locs hP hD hS ls (lv_sub hl [0, 1] rfl)
  exact loop14 _ 0 (fun _ => 0) (by omega) rfl (Nat.lt_succ_self _) H locs hP hD hS ls (lv_sub hl [0, 1] rfl)
set_option maxHeartbeats 4000000 in
set_option maxRecDepth 100000 in
/-- Held() -/
theorem c_X1_init (l : Launch) (G : EG) (h0 : Nat) (sz : Nat) : CR l yX1_init wsX1_init ({ frames := 2, cells := 6, slots := 52, locals := 41 } : Room) G sz [(h0, .inr (0, [.null, .null]))] [.ref h0] (fun u : Nat × Nat × Nat × Nat × Nat × Nat => match u with | (m0, f0, s0, b0, t0, l0) => [(h0, .inr (0, [.ref m0, .ref t0])), (m0, .inr (2, [.int (nI 0), .ref f0, .ref s0, .ref b0])), (f0, aI G 8 (fun _ => 0)), (s0, aI G 8 (fun _ => 0)), (b0, aI G 8 (fun _ => 0)), (t0, .inr (3, [.ref l0])), (l0, aI G 23 (fun _ => 9))]) 6 52 := by
  refine CR.start (by decide) rfl (Nat.le_of_ble_eq_true rfl) ?_
  intro p e s m below meth c hx hb hr hml hts hown hlocks hin hE A hA H locs hP hD hS ls hl
  have hin : meth.name = "<init>" := hin
  have hown : s.vm.findClass RX1 = some m.cls := hown
  have hl : lv_has ls 1 [(0, .ref h0)] := hl
  refine lv_aload_n hx hb dX1_init_0 rfl (lv_at hl 0 rfl) ?_
  refine W.objInit hx hb hown (hts (.methodLink RX1 1 objectInit) (List.mem_of_getElem? (i := 1) rfl)) (hts (.instanceMethod objectInit) (List.mem_of_getElem? (i := 2) rfl)) (hts (.code objectInit ⟨#[0xb1]⟩ 1 none) (List.mem_of_getElem? (i := 3) rfl)) rfl (by rw [hml]; exact hl.1) rfl dX1_init_1 (Nat.le_of_ble_eq_true rfl) (Nat.le_of_ble_eq_true rfl) ?_
  refine W.eq (g2 := F0 m 4 ls []) rfl ?_
  refine lv_aload_n hx hb dX1_init_4 rfl (lv_at hl 0 rfl) ?_
  refine va_new (ci := 2) (fs := [.int (nI 0), .null, .null, .null]) (C := RX3) (T := TX3) (N := 4) hx hb hts (fun w h => List.mem_cons_of_mem _ (List.mem_append_left _ (List.mem_append_left _ (List.mem_append_right _ h)))) tyX3 tyX3_ok hown (hts (.classLink RX1 7 RX3) (List.mem_of_getElem? (i := 4) rfl)) (hts (.instantiable RX3 4) (List.mem_of_getElem? (i := 5) rfl)) (hts (.initialized RX3) (List.mem_of_getElem? (i := 6) rfl)) hE.1 hP hD hS hA rfl (fun j hj => by rcases (show j = 0 ∨ j = 1 ∨ j = 2 ∨ j = 3 by omega) with rfl | rfl | rfl | rfl <;> rfl) (Nat.le_of_ble_eq_true rfl) (Nat.le_of_ble_eq_true rfl) dX1_init_5 (fun m0 H hP hD hS => ?_)
  have hP : va_P G.1 vwCl [(h0, .inr (0, [.null, .null])), (m0, .inr (2, [.int (nI 0), .null, .null, .null]))] H := hP
  have hD : va_D A [(h0, .inr (0, [.null, .null])), (m0, .inr (2, [.int (nI 0), .null, .null, .null]))] := hD
  refine W.cs (cells' := 1) (slots' := 4) rfl rfl ?_
  refine lv_dup hx hb dX1_init_8 rfl ?_
  refine cr_IN (As := []) (rest := [.ref m0, .ref h0]) (wr := [(h0, .inr (0, [.null, .null]))]) (host := "TripleTrap") ⟨hx, hb, hml, hown, hts⟩ (c_X3_init l G m0 H.size) ⟨va_cnB 0 hts gX1_init_X3_init_n9 rfl rfl rfl (hE.nest (w := .methodLinkNest RX1 9 yX3_init "TripleTrap") 4 rfl) (hts (.initialized RX3) (List.mem_of_getElem? (i := 6) rfl)) (by decide +kernel) ⟨Nat.le_of_ble_eq_true rfl, Nat.le_of_ble_eq_true rfl⟩, rfl, hts (.instanceMethod yX3_init) (List.mem_of_getElem? (i := 12) rfl)⟩ hE hP hD hS hA [1] [0] rfl rfl (by decide) (by decide) (by decide) rfl hl.1 rfl (Nat.le_of_ble_eq_true rfl) dX1_init_9 ⟨Nat.le_of_ble_eq_true rfl, Nat.le_of_ble_eq_true rfl⟩ (fun u H locs hP hD hS => ?_)
  obtain ⟨f0, s0, b0⟩ := u
  have hP : va_P G.1 vwCl [(h0, .inr (0, [.null, .null])), (m0, .inr (2, [.int (nI 0), .ref f0, .ref s0, .ref b0])), (f0, aI G 8 (fun _ => 0)), (s0, aI G 8 (fun _ => 0)), (b0, aI G 8 (fun _ => 0))] H := hP.sub [0, 1, 2, 3, 4] rfl
  have hD : va_D A [(h0, .inr (0, [.null, .null])), (m0, .inr (2, [.int (nI 0), .ref f0, .ref s0, .ref b0])), (f0, aI G 8 (fun _ => 0)), (s0, aI G 8 (fun _ => 0)), (b0, aI G 8 (fun _ => 0))] := hD.sub [0, 1, 2, 3, 4] (by decide) rfl
  refine W.cs (cells' := 4) (slots' := 28) rfl rfl ?_
  refine va_putF (D := G.1) (ci := 0) (v := .ref m0) (ty := .object "TripleTrap$Moves") (C := RX1) (T := TX1) (N := 2) hx hb hts (fun w h => List.mem_cons_of_mem _ (List.mem_append_left _ (List.mem_append_right _ h))) tyX1 tyX1_ok nmX1 hown hE.1 hP hD hS 0 rfl rfl 0 (by decide) (hts (.fieldLink RX1 10 "TripleTrap$Held" "moves" "LTripleTrap$Moves;") (List.mem_of_getElem? (i := 7) rfl)) (fun _ h9 => h9) rfl hin rfl (by decide +kernel) rfl rfl (Nat.le_of_ble_eq_true rfl) dX1_init_12 (fun H locs hP hD hS => ?_)
  have hP : va_P G.1 vwCl [(h0, .inr (0, [.ref m0, .null])), (m0, .inr (2, [.int (nI 0), .ref f0, .ref s0, .ref b0])), (f0, aI G 8 (fun _ => 0)), (s0, aI G 8 (fun _ => 0)), (b0, aI G 8 (fun _ => 0))] H := hP
  have hD : va_D A [(h0, .inr (0, [.ref m0, .null])), (m0, .inr (2, [.int (nI 0), .ref f0, .ref s0, .ref b0])), (f0, aI G 8 (fun _ => 0)), (s0, aI G 8 (fun _ => 0)), (b0, aI G 8 (fun _ => 0))] := hD
  refine lv_aload_n hx hb dX1_init_15 rfl (lv_at hl 0 rfl) ?_
  refine va_new (ci := 3) (fs := [.null]) (C := RX4) (T := TX4) (N := 1) hx hb hts (fun w h => List.mem_cons_of_mem _ (List.mem_append_right _ h)) tyX4 tyX4_ok hown (hts (.classLink RX1 16 RX4) (List.mem_of_getElem? (i := 8) rfl)) (hts (.instantiable RX4 1) (List.mem_of_getElem? (i := 9) rfl)) (hts (.initialized RX4) (List.mem_of_getElem? (i := 10) rfl)) hE.1 hP hD hS hA rfl (fun j hj => by rcases (show j = 0 by omega) with rfl <;> rfl) (Nat.le_of_ble_eq_true rfl) (Nat.le_of_ble_eq_true rfl) dX1_init_16 (fun t0 H hP hD hS => ?_)
  have hP : va_P G.1 vwCl [(h0, .inr (0, [.ref m0, .null])), (m0, .inr (2, [.int (nI 0), .ref f0, .ref s0, .ref b0])), (f0, aI G 8 (fun _ => 0)), (s0, aI G 8 (fun _ => 0)), (b0, aI G 8 (fun _ => 0)), (t0, .inr (3, [.null]))] H := hP
  have hD : va_D A [(h0, .inr (0, [.ref m0, .null])), (m0, .inr (2, [.int (nI 0), .ref f0, .ref s0, .ref b0])), (f0, aI G 8 (fun _ => 0)), (s0, aI G 8 (fun _ => 0)), (b0, aI G 8 (fun _ => 0)), (t0, .inr (3, [.null]))] := hD
  refine W.cs (cells' := 5) (slots' := 29) rfl rfl ?_
  refine lv_dup hx hb dX1_init_19 rfl ?_
  refine cr_IN (As := []) (rest := [.ref t0, .ref h0]) (wr := [(h0, .inr (0, [.ref m0, .null])), (m0, .inr (2, [.int (nI 0), .ref f0, .ref s0, .ref b0])), (f0, aI G 8 (fun _ => 0)), (s0, aI G 8 (fun _ => 0)), (b0, aI G 8 (fun _ => 0))]) (host := "TripleTrap") ⟨hx, hb, hml, hown, hts⟩ (c_X4_init l G t0 H.size) ⟨va_cnB 0 hts gX1_init_X4_init_n18 rfl rfl rfl (hE.nest (w := .methodLinkNest RX1 18 yX4_init "TripleTrap") 8 rfl) (hts (.initialized RX4) (List.mem_of_getElem? (i := 10) rfl)) (by decide +kernel) ⟨Nat.le_of_ble_eq_true rfl, Nat.le_of_ble_eq_true rfl⟩, rfl, hts (.instanceMethod yX4_init) (List.mem_of_getElem? (i := 20) rfl)⟩ hE hP hD hS hA [5] [0, 1, 2, 3, 4] rfl rfl (by decide) (by decide) (by decide) rfl hl.1 rfl (Nat.le_of_ble_eq_true rfl) dX1_init_20 ⟨Nat.le_of_ble_eq_true rfl, Nat.le_of_ble_eq_true rfl⟩ (fun l0 H locs hP hD hS => ?_)
  have hP : va_P G.1 vwCl [(h0, .inr (0, [.ref m0, .null])), (m0, .inr (2, [.int (nI 0), .ref f0, .ref s0, .ref b0])), (f0, aI G 8 (fun _ => 0)), (s0, aI G 8 (fun _ => 0)), (b0, aI G 8 (fun _ => 0)), (t0, .inr (3, [.ref l0])), (l0, aI G 23 (fun _ => 9))] H := hP.sub [0, 1, 2, 3, 4, 5, 6] rfl
  have hD : va_D A [(h0, .inr (0, [.ref m0, .null])), (m0, .inr (2, [.int (nI 0), .ref f0, .ref s0, .ref b0])), (f0, aI G 8 (fun _ => 0)), (s0, aI G 8 (fun _ => 0)), (b0, aI G 8 (fun _ => 0)), (t0, .inr (3, [.ref l0])), (l0, aI G 23 (fun _ => 9))] := hD.sub [0, 1, 2, 3, 4, 5, 6] (by decide) rfl
  refine W.cs (cells' := 6) (slots' := 52) rfl rfl ?_
  refine va_putF (D := G.1) (ci := 0) (v := .ref t0) (ty := .object "TripleTrap$Trust") (C := RX1) (T := TX1) (N := 2) hx hb hts (fun w h => List.mem_cons_of_mem _ (List.mem_append_left _ (List.mem_append_right _ h))) tyX1 tyX1_ok nmX1 hown hE.1 hP hD hS 0 rfl rfl 1 (by decide) (hts (.fieldLink RX1 19 "TripleTrap$Held" "trust" "LTripleTrap$Trust;") (List.mem_of_getElem? (i := 11) rfl)) (fun _ h9 => h9) rfl hin rfl (by decide +kernel) rfl rfl (Nat.le_of_ble_eq_true rfl) dX1_init_23 (fun H locs hP hD hS => ?_)
  have hP : va_P G.1 vwCl [(h0, .inr (0, [.ref m0, .ref t0])), (m0, .inr (2, [.int (nI 0), .ref f0, .ref s0, .ref b0])), (f0, aI G 8 (fun _ => 0)), (s0, aI G 8 (fun _ => 0)), (b0, aI G 8 (fun _ => 0)), (t0, .inr (3, [.ref l0])), (l0, aI G 23 (fun _ => 9))] H := hP
  have hD : va_D A [(h0, .inr (0, [.ref m0, .ref t0])), (m0, .inr (2, [.int (nI 0), .ref f0, .ref s0, .ref b0])), (f0, aI G 8 (fun _ => 0)), (s0, aI G 8 (fun _ => 0)), (b0, aI G 8 (fun _ => 0)), (t0, .inr (3, [.ref l0])), (l0, aI G 23 (fun _ => 9))] := hD
  exact cr_vret (m0, f0, s0, b0, t0, l0) hx hb hr hlocks dX1_init_26 (hP.sub [0, 1, 2, 3, 4, 5, 6] rfl) (hD.sub [0, 1, 2, 3, 4, 5, 6] (by decide) rfl) hS
set_option maxHeartbeats 4000000 in
set_option maxRecDepth 100000 in
/-- Mender() -/
theorem c_X2_init (l : Launch) (G : EG) (me : Nat) (sz : Nat) : CR l yX2_init wsX2_init ({ frames := 2, cells := 2, slots := 2071, locals := 43 } : Room) G sz [(me, .inr (1, [.null]))] [.ref me] (fun u : Nat => match u with | et => [(me, .inr (1, [.ref et])), (et, aI G 2048 mdT)]) 2 2071 := by
  refine CR.start (by decide) rfl (Nat.le_of_ble_eq_true rfl) ?_
  intro p e s m below meth c hx hb hr hml hts hown hlocks hin hE A hA H locs hP hD hS ls hl
  have hin : meth.name = "<init>" := hin
  have hown : s.vm.findClass RX2 = some m.cls := hown
  have hl : lv_has ls 7 [(0, .ref me)] := hl
  refine lv_aload_n hx hb dX2_init_0 rfl (lv_at hl 0 rfl) ?_
  refine W.objInit hx hb hown (hts (.methodLink RX2 3 objectInit) (List.mem_of_getElem? (i := 1) rfl)) (hts (.instanceMethod objectInit) (List.mem_of_getElem? (i := 2) rfl)) (hts (.code objectInit ⟨#[0xb1]⟩ 1 none) (List.mem_of_getElem? (i := 3) rfl)) rfl (by rw [hml]; exact hl.1) rfl dX2_init_1 (Nat.le_of_ble_eq_true rfl) (Nat.le_of_ble_eq_true rfl) ?_
  refine W.eq (g2 := F0 m 4 ls []) rfl ?_
  refine lv_aload_n hx hb dX2_init_4 rfl (lv_at hl 0 rfl) ?_
  refine lv_sipush (v := nI 2048) hx hb dX2_init_5 (by decide) ?_
  refine j_newa (N := 2048) hx hb (hts (.arrayClass .int) (List.mem_of_getElem? (i := 4) rfl)) hE hP hD hS hA (by decide) (by decide) (Nat.le_of_ble_eq_true rfl) (Nat.le_of_ble_eq_true rfl) dX2_init_8 (fun et H hP hD hS => ?_)
  have hP : va_P G.1 vwCl [(me, .inr (1, [.null])), (et, aI G 2048 (fun _ => 0))] H := hP
  have hD : va_D A [(me, .inr (1, [.null])), (et, aI G 2048 (fun _ => 0))] := hD
  refine W.cs (cells' := 1) (slots' := 2048) rfl rfl ?_
  refine va_putF (D := G.1) (ci := 1) (v := .ref et) (ty := .array .int) (C := RX2) (T := TX2) (N := 1) hx hb hts (fun w h => List.mem_cons_of_mem _ (List.mem_append_right _ h)) tyX2 tyX2_ok nmX2 hown hE.1 hP hD hS 0 rfl rfl 0 (by decide) (hts (.fieldLink RX2 9 "TripleTrap$Mender" "errorsByRest" "[I") (List.mem_of_getElem? (i := 5) rfl)) (fun _ h9 => h9) rfl hin rfl (by decide +kernel) rfl rfl (Nat.le_of_ble_eq_true rfl) dX2_init_10 (fun H locs hP hD hS => ?_)
  have hP : va_P G.1 vwCl [(me, .inr (1, [.ref et])), (et, aI G 2048 (fun _ => 0))] H := hP
  have hD : va_D A [(me, .inr (1, [.ref et])), (et, aI G 2048 (fun _ => 0))] := hD
  refine lv_bipush (v := nI 23) hx hb dX2_init_13 (by decide) ?_
  refine j_newa (N := 23) hx hb (hts (.arrayClass .int) (List.mem_of_getElem? (i := 4) rfl)) hE hP hD hS hA (by decide) (by decide) (Nat.le_of_ble_eq_true rfl) (Nat.le_of_ble_eq_true rfl) dX2_init_15 (fun rp H hP hD hS => ?_)
  have hP : va_P G.1 vwCl [(me, .inr (1, [.ref et])), (et, aI G 2048 (fun _ => 0)), (rp, aI G 23 (fun _ => 0))] H := hP
  have hD : va_D A [(me, .inr (1, [.ref et])), (et, aI G 2048 (fun _ => 0)), (rp, aI G 23 (fun _ => 0))] := hD
  refine W.cs (cells' := 2) (slots' := 2071) rfl rfl ?_
  refine lv_astore_n (lv' := [(1, .ref rp), (0, .ref me)]) hx hb dX2_init_17 rfl hl (by decide) rfl (fun ls hl => ?_)
  refine lv_iconst (v := nI 0) hx hb dX2_init_18 (by decide) ?_
  refine lv_istore_n (lv' := [(2, .int (nI 0)), (1, .ref rp), (0, .ref me)]) hx hb dX2_init_19 rfl hl (by decide) rfl (fun ls hl => ?_)
  have loop20 : ∀ (fuel : Nat) (k : Nat) (P : Nat → Nat), (k ≤ 23) → (P = rpL (fun _ => 0) k) → 23 - k < fuel → ∀ (H : Heap) (locs : List Loc), va_P G.1 vwCl [(me, .inr (1, [.ref et])), (et, aI G 2048 (fun _ => 0)), (rp, aI G 23 P)] H → va_D A [(me, .inr (1, [.ref et])), (et, aI G 2048 (fun _ => 0)), (rp, aI G 23 P)] → va_S A s.heap H locs → ∀ ls : Array Slot, lv_has ls 7 [(2, .int (nI k)), (1, .ref rp), (0, .ref me)] → W p l e ({ frames := 2, cells := 2, slots := 2071, locals := 43 } : Room) s m ([.ref me] : List Value).toArray below meth c H locs 2 2071 (MQ below (postN G (fun u : Nat => match u with | et => [(me, .inr (1, [.ref et])), (et, aI G 2048 mdT)]) A) ([.ref me] : List Value).toArray s 2 2071 A) (F0 m 20 ls []) := by
    intro fuel
    induction fuel with
    | zero => intro k P h1 q1 hf; exact absurd hf (Nat.not_lt_zero _)
    | succ fuel ih20 =>
      intro k P h1 q1 hf H locs hP hD hS ls hl
      refine lv_iload_n hx hb dX2_init_20 rfl (lv_at hl 0 rfl) ?_
      refine lv_bipush (v := nI 23) hx hb dX2_init_21 (by decide) ?_
      refine j_icmp_ge (tgt := 41) hx hb dX2_init_23 (by decide) (fun c23 => ?_) (fun c23 => ?_)
      · skip
        refine lv_iconst (v := nI 0) hx hb dX2_init_41 (by decide) ?_
        refine lv_istore_n (lv' := [(2, .int (nI 0)), (1, .ref rp), (0, .ref me)]) hx hb dX2_init_42 rfl hl (by decide) rfl (fun ls hl => ?_)
        have loop43 : ∀ (fuel : Nat) (a : Nat) (D : Nat → Nat), (a ≤ 23) → (D = mdP (fun _ => 0) a) → 23 - a < fuel → ∀ (H : Heap) (locs : List Loc), va_P G.1 vwCl [(me, .inr (1, [.ref et])), (et, aI G 2048 D), (rp, aI G 23 P)] H → va_D A [(me, .inr (1, [.ref et])), (et, aI G 2048 D), (rp, aI G 23 P)] → va_S A s.heap H locs → ∀ ls : Array Slot, lv_has ls 7 [(2, .int (nI a)), (1, .ref rp), (0, .ref me)] → W p l e ({ frames := 2, cells := 2, slots := 2071, locals := 43 } : Room) s m ([.ref me] : List Value).toArray below meth c H locs 2 2071 (MQ below (postN G (fun u : Nat => match u with | et => [(me, .inr (1, [.ref et])), (et, aI G 2048 mdT)]) A) ([.ref me] : List Value).toArray s 2 2071 A) (F0 m 43 ls []) := by
          intro fuel
          induction fuel with
          | zero => intro a D h2 q2 hf; exact absurd hf (Nat.not_lt_zero _)
          | succ fuel ih43 =>
            intro a D h2 q2 hf H locs hP hD hS ls hl
            have hP23 : ∀ i, i < 23 → P i = remN (1 <<< i) := fun i hi => by rw [q1]; exact rpL_eq _ _ _ (by omega)
            refine lv_iload_n hx hb dX2_init_43 rfl (lv_at hl 0 rfl) ?_
            refine lv_bipush (v := nI 23) hx hb dX2_init_44 (by decide) ?_
            refine j_icmp_ge (tgt := 137) hx hb dX2_init_46 (by decide) (fun c46 => ?_) (fun c46 => ?_)
            · skip
              rw [q2, show a = 23 by omega] at hP hD
              exact cr_vret et hx hb hr hlocks dX2_init_137 (hP.sub [0, 1] rfl) (hD.sub [0, 1] (by decide) rfl) hS
            · skip
              refine lv_aload_n hx hb dX2_init_49 rfl (lv_at hl 2 rfl) ?_
              refine lv_aload_n hx hb dX2_init_50 rfl (lv_at hl 1 rfl) ?_
              refine lv_iload_n hx hb dX2_init_51 rfl (lv_at hl 0 rfl) ?_
              refine j_iald hx hb hE hP 2 rfl dX2_init_52 ?_
              refine lv_iconst (v := nI 1) hx hb dX2_init_53 (by decide) ?_
              refine lv_iload_n hx hb dX2_init_54 rfl (lv_at hl 0 rfl) ?_
              refine j_shl hx hb dX2_init_55 ?_
              refine wr_V 1 0 (rest := []) (wr := [(rp, aI G 23 P)]) ⟨hx, hb, hml, hown, hts⟩ (c_X2_enter l G me et D (P a) (1 <<< a) (by rw [hP23 a (by omega)]; exact rp11 (by omega)) H.size) (cwV 2 hts gX2_init_X2_enter rfl rfl rfl (by decide +kernel) ⟨Nat.le_of_ble_eq_true rfl, Nat.le_of_ble_eq_true rfl⟩) hE hP hD hS hA [0, 1] [2] rfl rfl (by decide) (by decide) (by decide) rfl rfl rfl hl.1 rfl (Nat.le_of_ble_eq_true rfl) dX2_init_56 ⟨Nat.le_of_ble_eq_true rfl, Nat.le_of_ble_eq_true rfl⟩ (fun H locs hP hD hS => ?_)
              have hP : va_P G.1 vwCl [(me, .inr (1, [.ref et])), (et, aI G 2048 (va_up D (P a) (1 <<< a))), (rp, aI G 23 P)] H := hP.sub [1, 2, 0] rfl
              have hD : va_D A [(me, .inr (1, [.ref et])), (et, aI G 2048 (va_up D (P a) (1 <<< a))), (rp, aI G 23 P)] := hD.sub [1, 2, 0] (by decide) rfl
              refine lv_iconst (v := nI 0) hx hb dX2_init_59 (by decide) ?_
              refine lv_istore_n (lv' := [(3, .int (nI 0)), (2, .int (nI a)), (1, .ref rp), (0, .ref me)]) hx hb dX2_init_60 rfl hl (by decide) rfl (fun ls hl => ?_)
              have loop61 : ∀ (fuel : Nat) (b : Nat) (D2 : Nat → Nat), (b ≤ a) → (D2 = mdQ a (va_up D (P a) (1 <<< a)) b) → a - b < fuel → ∀ (H : Heap) (locs : List Loc), va_P G.1 vwCl [(me, .inr (1, [.ref et])), (et, aI G 2048 D2), (rp, aI G 23 P)] H → va_D A [(me, .inr (1, [.ref et])), (et, aI G 2048 D2), (rp, aI G 23 P)] → va_S A s.heap H locs → ∀ ls : Array Slot, lv_has ls 7 [(3, .int (nI b)), (2, .int (nI a)), (1, .ref rp), (0, .ref me)] → W p l e ({ frames := 2, cells := 2, slots := 2071, locals := 43 } : Room) s m ([.ref me] : List Value).toArray below meth c H locs 2 2071 (MQ below (postN G (fun u : Nat => match u with | et => [(me, .inr (1, [.ref et])), (et, aI G 2048 mdT)]) A) ([.ref me] : List Value).toArray s 2 2071 A) (F0 m 61 ls []) := by
                intro fuel
                induction fuel with
                | zero => intro b D2 h3 q3 hf; exact absurd hf (Nat.not_lt_zero _)
                | succ fuel ih61 =>
                  intro b D2 h3 q3 hf H locs hP hD hS ls hl
                  refine lv_iload_n hx hb dX2_init_61 rfl (lv_at hl 0 rfl) ?_
                  refine lv_iload_n hx hb dX2_init_62 rfl (lv_at hl 1 rfl) ?_
                  refine j_icmp_ge (tgt := 131) hx hb dX2_init_63 (by decide) (fun c63 => ?_) (fun c63 => ?_)
                  · skip
                    obtain ⟨x131, ex131⟩ : ∃ y : Nat, y = a + 1 := ⟨_, rfl⟩
                    refine lv_iinc (v := nI x131) (lv' := [(2, .int (nI x131)), (3, .int (nI b)), (1, .ref rp), (0, .ref me)]) hx hb dX2_init_131 hl (k := 1) rfl (by rw [ex131]; exact nI_add _ _) (by decide) rfl (fun ls hl => ?_)
                    refine lv_goto (tgt := 43) hx hb dX2_init_134 (by decide) ?_
                    exact ih43 x131 D2 (by omega) (by rw [ex131, mdP, q3, show b = a by omega, ← q2, hP23 a (by omega)]) (by omega) H locs hP hD hS ls (lv_sub hl [0, 2, 3] rfl)
                  · skip
                    refine lv_aload_n hx hb dX2_init_66 rfl (lv_at hl 2 rfl) ?_
                    refine lv_iload_n hx hb dX2_init_67 rfl (lv_at hl 1 rfl) ?_
                    refine j_iald hx hb hE hP 2 rfl dX2_init_68 ?_
                    refine lv_aload_n hx hb dX2_init_69 rfl (lv_at hl 2 rfl) ?_
                    refine lv_iload_n hx hb dX2_init_70 rfl (lv_at hl 0 rfl) ?_
                    refine j_iald hx hb hE hP 2 rfl dX2_init_71 ?_
                    refine j_xor hx hb dX2_init_72 ?_
                    refine j_top (fun x73 ex73 => ?_)
                    refine lv_istore (lv' := [(4, .int (nI x73)), (3, .int (nI b)), (2, .int (nI a)), (1, .ref rp), (0, .ref me)]) hx hb dX2_init_73 hl (by decide) rfl (fun ls hl => ?_)
                    refine lv_iconst (v := nI 1) hx hb dX2_init_75 (by decide) ?_
                    refine lv_iload_n hx hb dX2_init_76 rfl (lv_at hl 2 rfl) ?_
                    refine j_shl hx hb dX2_init_77 ?_
                    refine lv_iconst (v := nI 1) hx hb dX2_init_78 (by decide) ?_
                    refine lv_iload_n hx hb dX2_init_79 rfl (lv_at hl 1 rfl) ?_
                    refine j_shl hx hb dX2_init_80 ?_
                    refine j_or hx hb dX2_init_81 ?_
                    refine j_top (fun x82 ex82 => ?_)
                    refine lv_istore (lv' := [(5, .int (nI x82)), (4, .int (nI x73)), (3, .int (nI b)), (2, .int (nI a)), (1, .ref rp), (0, .ref me)]) hx hb dX2_init_82 hl (by decide) rfl (fun ls hl => ?_)
                    refine lv_aload_n hx hb dX2_init_84 rfl (lv_at hl 5 rfl) ?_
                    refine lv_iload hx hb dX2_init_85 (lv_at hl 1 rfl) ?_
                    refine lv_iload hx hb dX2_init_87 (lv_at hl 0 rfl) ?_
                    refine wr_V 1 0 (rest := []) (wr := [(rp, aI G 23 P)]) ⟨hx, hb, hml, hown, hts⟩ (c_X2_enter l G me et D2 x73 x82 (by rw [ex73, hP23 a (by omega), hP23 b (by omega)]; exact xor11 (rp11 (by omega)) (rp11 (by omega))) H.size) (cwV 2 hts gX2_init_X2_enter rfl rfl rfl (by decide +kernel) ⟨Nat.le_of_ble_eq_true rfl, Nat.le_of_ble_eq_true rfl⟩) hE hP hD hS hA [0, 1] [2] rfl rfl (by decide) (by decide) (by decide) rfl rfl rfl hl.1 rfl (Nat.le_of_ble_eq_true rfl) dX2_init_89 ⟨Nat.le_of_ble_eq_true rfl, Nat.le_of_ble_eq_true rfl⟩ (fun H locs hP hD hS => ?_)
                    have hP : va_P G.1 vwCl [(me, .inr (1, [.ref et])), (et, aI G 2048 (va_up D2 x73 x82)), (rp, aI G 23 P)] H := hP.sub [1, 2, 0] rfl
                    have hD : va_D A [(me, .inr (1, [.ref et])), (et, aI G 2048 (va_up D2 x73 x82)), (rp, aI G 23 P)] := hD.sub [1, 2, 0] (by decide) rfl
                    refine lv_iconst (v := nI 0) hx hb dX2_init_92 (by decide) ?_
                    refine lv_istore (lv' := [(6, .int (nI 0)), (5, .int (nI x82)), (4, .int (nI x73)), (3, .int (nI b)), (2, .int (nI a)), (1, .ref rp), (0, .ref me)]) hx hb dX2_init_93 hl (by decide) rfl (fun ls hl => ?_)
                    have loop95 : ∀ (fuel : Nat) (d : Nat) (D3 : Nat → Nat), (d ≤ b) → (D3 = mdR a b (va_up D2 x73 x82) d) → b - d < fuel → ∀ (H : Heap) (locs : List Loc), va_P G.1 vwCl [(me, .inr (1, [.ref et])), (et, aI G 2048 D3), (rp, aI G 23 P)] H → va_D A [(me, .inr (1, [.ref et])), (et, aI G 2048 D3), (rp, aI G 23 P)] → va_S A s.heap H locs → ∀ ls : Array Slot, lv_has ls 7 [(6, .int (nI d)), (5, .int (nI x82)), (4, .int (nI x73)), (3, .int (nI b)), (2, .int (nI a)), (1, .ref rp), (0, .ref me)] → W p l e ({ frames := 2, cells := 2, slots := 2071, locals := 43 } : Room) s m ([.ref me] : List Value).toArray below meth c H locs 2 2071 (MQ below (postN G (fun u : Nat => match u with | et => [(me, .inr (1, [.ref et])), (et, aI G 2048 mdT)]) A) ([.ref me] : List Value).toArray s 2 2071 A) (F0 m 95 ls []) := by
                      intro fuel
                      induction fuel with
                      | zero => intro d D3 h4 q4 hf; exact absurd hf (Nat.not_lt_zero _)
                      | succ fuel ih95 =>
                        intro d D3 h4 q4 hf H locs hP hD hS ls hl
                        refine lv_iload hx hb dX2_init_95 (lv_at hl 0 rfl) ?_
                        refine lv_iload_n hx hb dX2_init_97 rfl (lv_at hl 3 rfl) ?_
                        refine j_icmp_ge (tgt := 125) hx hb dX2_init_98 (by decide) (fun c98 => ?_) (fun c98 => ?_)
                        · skip
                          obtain ⟨x125, ex125⟩ : ∃ y : Nat, y = b + 1 := ⟨_, rfl⟩
                          refine lv_iinc (v := nI x125) (lv' := [(3, .int (nI x125)), (6, .int (nI d)), (5, .int (nI x82)), (4, .int (nI x73)), (2, .int (nI a)), (1, .ref rp), (0, .ref me)]) hx hb dX2_init_125 hl (k := 3) rfl (by rw [ex125]; exact nI_add _ _) (by decide) rfl (fun ls hl => ?_)
                          refine lv_goto (tgt := 61) hx hb dX2_init_128 (by decide) ?_
                          exact ih61 x125 D3 (by omega) (by rw [ex125, mdQ, ← q3, q4, show d = b by omega, ex73, ex82, hP23 a (by omega), hP23 b (by omega)]) (by omega) H locs hP hD hS ls (lv_sub hl [0, 4, 5, 6] rfl)
                        · skip
                          refine lv_aload_n hx hb dX2_init_101 rfl (lv_at hl 6 rfl) ?_
                          refine lv_iload hx hb dX2_init_102 (lv_at hl 2 rfl) ?_
                          refine lv_aload_n hx hb dX2_init_104 rfl (lv_at hl 5 rfl) ?_
                          refine lv_iload hx hb dX2_init_105 (lv_at hl 0 rfl) ?_
                          refine j_iald hx hb hE hP 2 rfl dX2_init_107 ?_
                          refine j_xor hx hb dX2_init_108 ?_
                          refine lv_iload hx hb dX2_init_109 (lv_at hl 1 rfl) ?_
                          refine lv_iconst (v := nI 1) hx hb dX2_init_111 (by decide) ?_
                          refine lv_iload hx hb dX2_init_112 (lv_at hl 0 rfl) ?_
                          refine j_shl hx hb dX2_init_114 ?_
                          refine j_or hx hb dX2_init_115 ?_
                          refine wr_V 1 0 (rest := []) (wr := [(rp, aI G 23 P)]) ⟨hx, hb, hml, hown, hts⟩ (c_X2_enter l G me et D3 (x73 ^^^ (P d)) (x82 ||| (1 <<< d)) (by rw [ex73, hP23 a (by omega), hP23 b (by omega), hP23 d (by omega)]; exact xor11 (xor11 (rp11 (by omega)) (rp11 (by omega))) (rp11 (by omega))) H.size) (cwV 2 hts gX2_init_X2_enter rfl rfl rfl (by decide +kernel) ⟨Nat.le_of_ble_eq_true rfl, Nat.le_of_ble_eq_true rfl⟩) hE hP hD hS hA [0, 1] [2] rfl rfl (by decide) (by decide) (by decide) rfl rfl rfl hl.1 rfl (Nat.le_of_ble_eq_true rfl) dX2_init_116 ⟨Nat.le_of_ble_eq_true rfl, Nat.le_of_ble_eq_true rfl⟩ (fun H locs hP hD hS => ?_)
                          have hP : va_P G.1 vwCl [(me, .inr (1, [.ref et])), (et, aI G 2048 (va_up D3 (x73 ^^^ (P d)) (x82 ||| (1 <<< d)))), (rp, aI G 23 P)] H := hP.sub [1, 2, 0] rfl
                          have hD : va_D A [(me, .inr (1, [.ref et])), (et, aI G 2048 (va_up D3 (x73 ^^^ (P d)) (x82 ||| (1 <<< d)))), (rp, aI G 23 P)] := hD.sub [1, 2, 0] (by decide) rfl
                          obtain ⟨x119, ex119⟩ : ∃ y : Nat, y = d + 1 := ⟨_, rfl⟩
                          refine lv_iinc (v := nI x119) (lv' := [(6, .int (nI x119)), (5, .int (nI x82)), (4, .int (nI x73)), (3, .int (nI b)), (2, .int (nI a)), (1, .ref rp), (0, .ref me)]) hx hb dX2_init_119 hl (k := 0) rfl (by rw [ex119]; exact nI_add _ _) (by decide) rfl (fun ls hl => ?_)
                          refine lv_goto (tgt := 95) hx hb dX2_init_122 (by decide) ?_
                          exact ih95 x119 (va_up D3 (x73 ^^^ (P d)) (x82 ||| (1 <<< d))) (by omega) (by rw [ex119, mdR, ← q4, ex73, ex82, hP23 a (by omega), hP23 b (by omega), hP23 d (by omega)]) (by omega) H locs hP hD hS ls (lv_sub hl [0, 1, 2, 3, 4, 5, 6] rfl)
                    exact loop95 _ 0 (va_up D2 x73 x82) (by omega) rfl (Nat.lt_succ_self _) H locs hP hD hS ls (lv_sub hl [0, 1, 2, 3, 4, 5, 6] rfl)
              exact loop61 _ 0 (va_up D (P a) (1 <<< a)) (by omega) rfl (Nat.lt_succ_self _) H locs hP hD hS ls (lv_sub hl [0, 1, 2, 3] rfl)
        exact loop43 _ 0 (fun _ => 0) (by omega) rfl (Nat.lt_succ_self _) H locs hP hD hS ls (lv_sub hl [0, 1, 2] rfl)
      · skip
        refine lv_aload_n hx hb dX2_init_26 rfl (lv_at hl 1 rfl) ?_
        refine lv_iload_n hx hb dX2_init_27 rfl (lv_at hl 0 rfl) ?_
        refine lv_iconst (v := nI 1) hx hb dX2_init_28 (by decide) ?_
        refine lv_iload_n hx hb dX2_init_29 rfl (lv_at hl 0 rfl) ?_
        refine j_shl hx hb dX2_init_30 ?_
        refine ro_SN (rest := [.int (nI k), .ref rp]) (host := "TripleTrap") ⟨hx, hb, hml, hown, hts⟩ (c_X0_remainder l G (1 <<< k) (Nat.lt_trans (shl1 (show k < 23 by omega)) (by decide))) ⟨va_cnB 1 hts gX2_init_X0_remainder_n15 rfl rfl rfl (hE.nest (w := .methodLinkNest RX2 15 yX0_remainder "TripleTrap") 1 rfl) (hts (.initialized RX0) (List.mem_of_getElem? (i := 7) rfl)) (by decide +kernel) ⟨Nat.le_of_ble_eq_true rfl, Nat.le_of_ble_eq_true rfl⟩, hts (.static yX0_remainder) (List.mem_of_getElem? (i := 6) rfl), trivial⟩ hE (hP.sub [] rfl) rfl hl.1 rfl (Nat.le_of_ble_eq_true rfl) dX2_init_31 ⟨Nat.le_of_ble_eq_true rfl, Nat.le_of_ble_eq_true rfl⟩ ?_
        refine j_iast hx hb hE hP hD hS 2 rfl dX2_init_34 (fun H locs hP hD hS => ?_)
        have hP : va_P G.1 vwCl [(me, .inr (1, [.ref et])), (et, aI G 2048 (fun _ => 0)), (rp, aI G 23 (va_up P k (remN (1 <<< k))))] H := hP
        have hD : va_D A [(me, .inr (1, [.ref et])), (et, aI G 2048 (fun _ => 0)), (rp, aI G 23 (va_up P k (remN (1 <<< k))))] := hD
        obtain ⟨x35, ex35⟩ : ∃ y : Nat, y = k + 1 := ⟨_, rfl⟩
        refine lv_iinc (v := nI x35) (lv' := [(2, .int (nI x35)), (1, .ref rp), (0, .ref me)]) hx hb dX2_init_35 hl (k := 0) rfl (by rw [ex35]; exact nI_add _ _) (by decide) rfl (fun ls hl => ?_)
        refine lv_goto (tgt := 20) hx hb dX2_init_38 (by decide) ?_
        exact ih20 x35 (va_up P k (remN (1 <<< k))) (by omega) (by rw [ex35, rpL, ← q1]) (by omega) H locs hP hD hS ls (lv_sub hl [0, 1, 2] rfl)
  exact loop20 _ 0 (fun _ => 0) (by omega) rfl (Nat.lt_succ_self _) H locs hP hD hS ls (lv_sub hl [0, 1, 2] rfl)
set_option maxHeartbeats 4000000 in
set_option maxRecDepth 100000 in
/-- TripleTrap() -/
theorem c_X5_init (l : Launch) (G : EG) (o : Nat) (sz : Nat) : CR l yX5_init wsX5_init ({ frames := 3, cells := 26, slots := 2252, locals := 69 } : Room) G sz [(o, .inr (4, [.null, .null, .null, .int (nI 0), .null]))] [.ref o] (fun u : Nat × Nat × Nat × Nat × Nat × Nat × Nat × Nat × Nat × Nat × Nat × Nat × Nat × Nat × Nat × Nat × Nat × Nat × Nat × Nat × Nat × Nat × Nat × Nat × Nat => match u with | (me, et, h0, m0, f0, s0, b0, t0, l0, im, h1, m1, f1, s1, b1, t1, l1, h2, m2, f2, s2, b2, t2, l2, ta) => [(o, .inr (4, [.ref me, .ref h0, .ref im, .int (nI 0), .ref ta])), (me, .inr (1, [.ref et])), (et, aI G 2048 mdT), (h0, .inr (0, [.ref m0, .ref t0])), (m0, .inr (2, [.int (nI 0), .ref f0, .ref s0, .ref b0])), (f0, aI G 8 (fun _ => 0)), (s0, aI G 8 (fun _ => 0)), (b0, aI G 8 (fun _ => 0)), (t0, .inr (3, [.ref l0])), (l0, aI G 23 (fun _ => 9)), (im, aO G 2 (imF h1 h2)), (h1, .inr (0, [.ref m1, .ref t1])), (m1, .inr (2, [.int (nI 0), .ref f1, .ref s1, .ref b1])), (f1, aI G 8 (fun _ => 0)), (s1, aI G 8 (fun _ => 0)), (b1, aI G 8 (fun _ => 0)), (t1, .inr (3, [.ref l1])), (l1, aI G 23 (fun _ => 9)), (h2, .inr (0, [.ref m2, .ref t2])), (m2, .inr (2, [.int (nI 0), .ref f2, .ref s2, .ref b2])), (f2, aI G 8 (fun _ => 0)), (s2, aI G 8 (fun _ => 0)), (b2, aI G 8 (fun _ => 0)), (t2, .inr (3, [.ref l2])), (l2, aI G 23 (fun _ => 9)), (ta, aI G 16 (fun _ => 0))]) 26 2252 := by
  refine CR.start (by decide) rfl (Nat.le_of_ble_eq_true rfl) ?_
  intro p e s m below meth c hx hb hr hml hts hown hlocks hin hE A hA H locs hP hD hS ls hl
  have hin : meth.name = "<init>" := hin
  have hown : s.vm.findClass RX5 = some m.cls := hown
  have hl : lv_has ls 2 [(0, .ref o)] := hl
  refine lv_aload_n hx hb dX5_init_0 rfl (lv_at hl 0 rfl) ?_
  refine W.objInit hx hb hown (hts (.methodLink RX5 3 objectInit) (List.mem_of_getElem? (i := 1) rfl)) (hts (.instanceMethod objectInit) (List.mem_of_getElem? (i := 2) rfl)) (hts (.code objectInit ⟨#[0xb1]⟩ 1 none) (List.mem_of_getElem? (i := 3) rfl)) rfl (by rw [hml]; exact hl.1) rfl dX5_init_1 (Nat.le_of_ble_eq_true rfl) (Nat.le_of_ble_eq_true rfl) ?_
  refine W.eq (g2 := F0 m 4 ls []) rfl ?_
  refine lv_aload_n hx hb dX5_init_4 rfl (lv_at hl 0 rfl) ?_
  refine va_new (ci := 1) (fs := [.null]) (C := RX2) (T := TX2) (N := 1) hx hb hts (fun w h => List.mem_cons_of_mem _ (List.mem_append_left _ (List.mem_append_left _ (List.mem_append_left _ (List.mem_append_left _ (List.mem_append_right _ h)))))) tyX2 tyX2_ok hown (hts (.classLink RX5 9 RX2) (List.mem_of_getElem? (i := 4) rfl)) (hts (.instantiable RX2 1) (List.mem_of_getElem? (i := 5) rfl)) (hts (.initialized RX2) (List.mem_of_getElem? (i := 6) rfl)) hE.1 hP hD hS hA rfl (fun j hj => by rcases (show j = 0 by omega) with rfl <;> rfl) (Nat.le_of_ble_eq_true rfl) (Nat.le_of_ble_eq_true rfl) dX5_init_5 (fun me H hP hD hS => ?_)
  have hP : va_P G.1 vwCl [(o, .inr (4, [.null, .null, .null, .int (nI 0), .null])), (me, .inr (1, [.null]))] H := hP
  have hD : va_D A [(o, .inr (4, [.null, .null, .null, .int (nI 0), .null])), (me, .inr (1, [.null]))] := hD
  refine W.cs (cells' := 1) (slots' := 1) rfl rfl ?_
  refine lv_dup hx hb dX5_init_8 rfl ?_
  refine cr_IN (As := []) (rest := [.ref me, .ref o]) (wr := [(o, .inr (4, [.null, .null, .null, .int (nI 0), .null]))]) (host := "TripleTrap") ⟨hx, hb, hml, hown, hts⟩ (c_X2_init l G me H.size) ⟨va_cnB 0 hts gX5_init_X2_init_n11 rfl rfl rfl (hE.nest (w := .methodLinkNest RX5 11 yX2_init "TripleTrap") 0 rfl) (hts (.initialized RX2) (List.mem_of_getElem? (i := 6) rfl)) (by decide +kernel) ⟨Nat.le_of_ble_eq_true rfl, Nat.le_of_ble_eq_true rfl⟩, rfl, hts (.instanceMethod yX2_init) (List.mem_of_getElem? (i := 16) rfl)⟩ hE hP hD hS hA [1] [0] rfl rfl (by decide) (by decide) (by decide) rfl hl.1 rfl (Nat.le_of_ble_eq_true rfl) dX5_init_9 ⟨Nat.le_of_ble_eq_true rfl, Nat.le_of_ble_eq_true rfl⟩ (fun et H locs hP hD hS => ?_)
  have hP : va_P G.1 vwCl [(o, .inr (4, [.null, .null, .null, .int (nI 0), .null])), (me, .inr (1, [.ref et])), (et, aI G 2048 mdT)] H := hP.sub [0, 1, 2] rfl
  have hD : va_D A [(o, .inr (4, [.null, .null, .null, .int (nI 0), .null])), (me, .inr (1, [.ref et])), (et, aI G 2048 mdT)] := hD.sub [0, 1, 2] (by decide) rfl
  refine W.cs (cells' := 3) (slots' := 2072) rfl rfl ?_
  refine va_putF (D := G.1) (ci := 4) (v := .ref me) (ty := .object "TripleTrap$Mender") (C := RX5) (T := TX5) (N := 5) hx hb hts (fun w h => List.mem_cons_of_mem _ (List.mem_append_left _ (List.mem_append_left _ (List.mem_append_left _ (List.mem_append_right _ h))))) tyX5 tyX5_ok nmX5 hown hE.1 hP hD hS 0 rfl rfl 0 (by decide) (hts (.fieldLink RX5 12 "TripleTrap" "mender" "LTripleTrap$Mender;") (List.mem_of_getElem? (i := 7) rfl)) (fun _ h9 => h9) rfl hin rfl (by decide +kernel) rfl rfl (Nat.le_of_ble_eq_true rfl) dX5_init_12 (fun H locs hP hD hS => ?_)
  have hP : va_P G.1 vwCl [(o, .inr (4, [.ref me, .null, .null, .int (nI 0), .null])), (me, .inr (1, [.ref et])), (et, aI G 2048 mdT)] H := hP
  have hD : va_D A [(o, .inr (4, [.ref me, .null, .null, .int (nI 0), .null])), (me, .inr (1, [.ref et])), (et, aI G 2048 mdT)] := hD
  refine lv_aload_n hx hb dX5_init_15 rfl (lv_at hl 0 rfl) ?_
  refine va_new (ci := 0) (fs := [.null, .null]) (C := RX1) (T := TX1) (N := 2) hx hb hts (fun w h => List.mem_cons_of_mem _ (List.mem_append_left _ (List.mem_append_left _ (List.mem_append_right _ h)))) tyX1 tyX1_ok hown (hts (.classLink RX5 16 RX1) (List.mem_of_getElem? (i := 8) rfl)) (hts (.instantiable RX1 2) (List.mem_of_getElem? (i := 9) rfl)) (hts (.initialized RX1) (List.mem_of_getElem? (i := 10) rfl)) hE.1 hP hD hS hA rfl (fun j hj => by rcases (show j = 0 ∨ j = 1 by omega) with rfl | rfl <;> rfl) (Nat.le_of_ble_eq_true rfl) (Nat.le_of_ble_eq_true rfl) dX5_init_16 (fun h0 H hP hD hS => ?_)
  have hP : va_P G.1 vwCl [(o, .inr (4, [.ref me, .null, .null, .int (nI 0), .null])), (me, .inr (1, [.ref et])), (et, aI G 2048 mdT), (h0, .inr (0, [.null, .null]))] H := hP
  have hD : va_D A [(o, .inr (4, [.ref me, .null, .null, .int (nI 0), .null])), (me, .inr (1, [.ref et])), (et, aI G 2048 mdT), (h0, .inr (0, [.null, .null]))] := hD
  refine W.cs (cells' := 4) (slots' := 2074) rfl rfl ?_
  refine lv_dup hx hb dX5_init_19 rfl ?_
  refine cr_IN (As := []) (rest := [.ref h0, .ref o]) (wr := [(o, .inr (4, [.ref me, .null, .null, .int (nI 0), .null])), (me, .inr (1, [.ref et])), (et, aI G 2048 mdT)]) (host := "TripleTrap") ⟨hx, hb, hml, hown, hts⟩ (c_X1_init l G h0 H.size) ⟨va_cnB 0 hts gX5_init_X1_init_n18 rfl rfl rfl (hE.nest (w := .methodLinkNest RX5 18 yX1_init "TripleTrap") 3 rfl) (hts (.initialized RX1) (List.mem_of_getElem? (i := 10) rfl)) (by decide +kernel) ⟨Nat.le_of_ble_eq_true rfl, Nat.le_of_ble_eq_true rfl⟩, rfl, hts (.instanceMethod yX1_init) (List.mem_of_getElem? (i := 30) rfl)⟩ hE hP hD hS hA [3] [0, 1, 2] rfl rfl (by decide) (by decide) (by decide) rfl hl.1 rfl (Nat.le_of_ble_eq_true rfl) dX5_init_20 ⟨Nat.le_of_ble_eq_true rfl, Nat.le_of_ble_eq_true rfl⟩ (fun u H locs hP hD hS => ?_)
  obtain ⟨m0, f0, s0, b0, t0, l0⟩ := u
  have hP : va_P G.1 vwCl [(o, .inr (4, [.ref me, .null, .null, .int (nI 0), .null])), (me, .inr (1, [.ref et])), (et, aI G 2048 mdT), (h0, .inr (0, [.ref m0, .ref t0])), (m0, .inr (2, [.int (nI 0), .ref f0, .ref s0, .ref b0])), (f0, aI G 8 (fun _ => 0)), (s0, aI G 8 (fun _ => 0)), (b0, aI G 8 (fun _ => 0)), (t0, .inr (3, [.ref l0])), (l0, aI G 23 (fun _ => 9))] H := hP.sub [0, 1, 2, 3, 4, 5, 6, 7, 8, 9] rfl
  have hD : va_D A [(o, .inr (4, [.ref me, .null, .null, .int (nI 0), .null])), (me, .inr (1, [.ref et])), (et, aI G 2048 mdT), (h0, .inr (0, [.ref m0, .ref t0])), (m0, .inr (2, [.int (nI 0), .ref f0, .ref s0, .ref b0])), (f0, aI G 8 (fun _ => 0)), (s0, aI G 8 (fun _ => 0)), (b0, aI G 8 (fun _ => 0)), (t0, .inr (3, [.ref l0])), (l0, aI G 23 (fun _ => 9))] := hD.sub [0, 1, 2, 3, 4, 5, 6, 7, 8, 9] (by decide) rfl
  refine W.cs (cells' := 10) (slots' := 2126) rfl rfl ?_
  refine va_putF (D := G.1) (ci := 4) (v := .ref h0) (ty := .object "TripleTrap$Held") (C := RX5) (T := TX5) (N := 5) hx hb hts (fun w h => List.mem_cons_of_mem _ (List.mem_append_left _ (List.mem_append_left _ (List.mem_append_left _ (List.mem_append_right _ h))))) tyX5 tyX5_ok nmX5 hown hE.1 hP hD hS 0 rfl rfl 1 (by decide) (hts (.fieldLink RX5 19 "TripleTrap" "now" "LTripleTrap$Held;") (List.mem_of_getElem? (i := 11) rfl)) (fun _ h9 => h9) rfl hin rfl (by decide +kernel) rfl rfl (Nat.le_of_ble_eq_true rfl) dX5_init_23 (fun H locs hP hD hS => ?_)
  have hP : va_P G.1 vwCl [(o, .inr (4, [.ref me, .ref h0, .null, .int (nI 0), .null])), (me, .inr (1, [.ref et])), (et, aI G 2048 mdT), (h0, .inr (0, [.ref m0, .ref t0])), (m0, .inr (2, [.int (nI 0), .ref f0, .ref s0, .ref b0])), (f0, aI G 8 (fun _ => 0)), (s0, aI G 8 (fun _ => 0)), (b0, aI G 8 (fun _ => 0)), (t0, .inr (3, [.ref l0])), (l0, aI G 23 (fun _ => 9))] H := hP
  have hD : va_D A [(o, .inr (4, [.ref me, .ref h0, .null, .int (nI 0), .null])), (me, .inr (1, [.ref et])), (et, aI G 2048 mdT), (h0, .inr (0, [.ref m0, .ref t0])), (m0, .inr (2, [.int (nI 0), .ref f0, .ref s0, .ref b0])), (f0, aI G 8 (fun _ => 0)), (s0, aI G 8 (fun _ => 0)), (b0, aI G 8 (fun _ => 0)), (t0, .inr (3, [.ref l0])), (l0, aI G 23 (fun _ => 9))] := hD
  refine lv_aload_n hx hb dX5_init_26 rfl (lv_at hl 0 rfl) ?_
  refine lv_iconst (v := nI 2) hx hb dX5_init_27 (by decide) ?_
  refine j_newq (N := 2) hx hb hown (hts (.classLink RX5 16 RX1) (List.mem_of_getElem? (i := 8) rfl)) hE hP hD hS hA (by decide) (by decide) (Nat.le_of_ble_eq_true rfl) (Nat.le_of_ble_eq_true rfl) dX5_init_28 (fun im H hP hD hS => ?_)
  have hP : va_P G.1 vwCl [(o, .inr (4, [.ref me, .ref h0, .null, .int (nI 0), .null])), (me, .inr (1, [.ref et])), (et, aI G 2048 mdT), (h0, .inr (0, [.ref m0, .ref t0])), (m0, .inr (2, [.int (nI 0), .ref f0, .ref s0, .ref b0])), (f0, aI G 8 (fun _ => 0)), (s0, aI G 8 (fun _ => 0)), (b0, aI G 8 (fun _ => 0)), (t0, .inr (3, [.ref l0])), (l0, aI G 23 (fun _ => 9)), (im, aO G 2 (fun _ => none))] H := hP
  have hD : va_D A [(o, .inr (4, [.ref me, .ref h0, .null, .int (nI 0), .null])), (me, .inr (1, [.ref et])), (et, aI G 2048 mdT), (h0, .inr (0, [.ref m0, .ref t0])), (m0, .inr (2, [.int (nI 0), .ref f0, .ref s0, .ref b0])), (f0, aI G 8 (fun _ => 0)), (s0, aI G 8 (fun _ => 0)), (b0, aI G 8 (fun _ => 0)), (t0, .inr (3, [.ref l0])), (l0, aI G 23 (fun _ => 9)), (im, aO G 2 (fun _ => none))] := hD
  refine W.cs (cells' := 11) (slots' := 2128) rfl rfl ?_
  refine va_putF (D := G.1) (ci := 4) (v := .ref im) (ty := .array (.object "TripleTrap$Held")) (C := RX5) (T := TX5) (N := 5) hx hb hts (fun w h => List.mem_cons_of_mem _ (List.mem_append_left _ (List.mem_append_left _ (List.mem_append_left _ (List.mem_append_right _ h))))) tyX5 tyX5_ok nmX5 hown hE.1 hP hD hS 0 rfl rfl 2 (by decide) (hts (.fieldLink RX5 23 "TripleTrap" "images" "[LTripleTrap$Held;") (List.mem_of_getElem? (i := 12) rfl)) (fun _ h9 => h9) rfl hin rfl (by decide +kernel) rfl rfl (Nat.le_of_ble_eq_true rfl) dX5_init_31 (fun H locs hP hD hS => ?_)
  have hP : va_P G.1 vwCl [(o, .inr (4, [.ref me, .ref h0, .ref im, .int (nI 0), .null])), (me, .inr (1, [.ref et])), (et, aI G 2048 mdT), (h0, .inr (0, [.ref m0, .ref t0])), (m0, .inr (2, [.int (nI 0), .ref f0, .ref s0, .ref b0])), (f0, aI G 8 (fun _ => 0)), (s0, aI G 8 (fun _ => 0)), (b0, aI G 8 (fun _ => 0)), (t0, .inr (3, [.ref l0])), (l0, aI G 23 (fun _ => 9)), (im, aO G 2 (fun _ => none))] H := hP
  have hD : va_D A [(o, .inr (4, [.ref me, .ref h0, .ref im, .int (nI 0), .null])), (me, .inr (1, [.ref et])), (et, aI G 2048 mdT), (h0, .inr (0, [.ref m0, .ref t0])), (m0, .inr (2, [.int (nI 0), .ref f0, .ref s0, .ref b0])), (f0, aI G 8 (fun _ => 0)), (s0, aI G 8 (fun _ => 0)), (b0, aI G 8 (fun _ => 0)), (t0, .inr (3, [.ref l0])), (l0, aI G 23 (fun _ => 9)), (im, aO G 2 (fun _ => none))] := hD
  refine lv_iconst (v := nI 0) hx hb dX5_init_34 (by decide) ?_
  refine lv_istore_n (lv' := [(1, .int (nI 0)), (0, .ref o)]) hx hb dX5_init_35 rfl hl (by decide) rfl (fun ls hl => ?_)
  refine lv_iload_n hx hb dX5_init_36 rfl (lv_at hl 0 rfl) ?_
  refine lv_iconst (v := nI 2) hx hb dX5_init_37 (by decide) ?_
  refine j_icmp_ge (tgt := 60) hx hb dX5_init_38 (by decide) (fun q => absurd q (by decide)) (fun _ => ?_)
  refine lv_aload_n hx hb dX5_init_41 rfl (lv_at hl 1 rfl) ?_
  refine va_get (D := G.1) (ci := 4) (v := .ref im) (C := RX5) (T := TX5) (N := 5) hx hb hts (fun w h => List.mem_cons_of_mem _ (List.mem_append_left _ (List.mem_append_left _ (List.mem_append_left _ (List.mem_append_right _ h))))) hown hE.1 hP 0 rfl rfl 2 (by decide) (hts (.fieldLink RX5 23 "TripleTrap" "images" "[LTripleTrap$Held;") (List.mem_of_getElem? (i := 12) rfl)) (fun _ h9 => h9) rfl dX5_init_42 ?_
  refine lv_iload_n hx hb dX5_init_45 rfl (lv_at hl 0 rfl) ?_
  refine va_new (ci := 0) (fs := [.null, .null]) (C := RX1) (T := TX1) (N := 2) hx hb hts (fun w h => List.mem_cons_of_mem _ (List.mem_append_left _ (List.mem_append_left _ (List.mem_append_right _ h)))) tyX1 tyX1_ok hown (hts (.classLink RX5 16 RX1) (List.mem_of_getElem? (i := 8) rfl)) (hts (.instantiable RX1 2) (List.mem_of_getElem? (i := 9) rfl)) (hts (.initialized RX1) (List.mem_of_getElem? (i := 10) rfl)) hE.1 hP hD hS hA rfl (fun j hj => by rcases (show j = 0 ∨ j = 1 by omega) with rfl | rfl <;> rfl) (Nat.le_of_ble_eq_true rfl) (Nat.le_of_ble_eq_true rfl) dX5_init_46 (fun h1 H hP hD hS => ?_)
  have hP : va_P G.1 vwCl [(o, .inr (4, [.ref me, .ref h0, .ref im, .int (nI 0), .null])), (me, .inr (1, [.ref et])), (et, aI G 2048 mdT), (h0, .inr (0, [.ref m0, .ref t0])), (m0, .inr (2, [.int (nI 0), .ref f0, .ref s0, .ref b0])), (f0, aI G 8 (fun _ => 0)), (s0, aI G 8 (fun _ => 0)), (b0, aI G 8 (fun _ => 0)), (t0, .inr (3, [.ref l0])), (l0, aI G 23 (fun _ => 9)), (im, aO G 2 (fun _ => none)), (h1, .inr (0, [.null, .null]))] H := hP
  have hD : va_D A [(o, .inr (4, [.ref me, .ref h0, .ref im, .int (nI 0), .null])), (me, .inr (1, [.ref et])), (et, aI G 2048 mdT), (h0, .inr (0, [.ref m0, .ref t0])), (m0, .inr (2, [.int (nI 0), .ref f0, .ref s0, .ref b0])), (f0, aI G 8 (fun _ => 0)), (s0, aI G 8 (fun _ => 0)), (b0, aI G 8 (fun _ => 0)), (t0, .inr (3, [.ref l0])), (l0, aI G 23 (fun _ => 9)), (im, aO G 2 (fun _ => none)), (h1, .inr (0, [.null, .null]))] := hD
  refine W.cs (cells' := 12) (slots' := 2130) rfl rfl ?_
  refine lv_dup hx hb dX5_init_49 rfl ?_
  refine cr_IN (As := []) (rest := [.ref h1, .int (nI 0), .ref im]) (wr := [(o, .inr (4, [.ref me, .ref h0, .ref im, .int (nI 0), .null])), (me, .inr (1, [.ref et])), (et, aI G 2048 mdT), (h0, .inr (0, [.ref m0, .ref t0])), (m0, .inr (2, [.int (nI 0), .ref f0, .ref s0, .ref b0])), (f0, aI G 8 (fun _ => 0)), (s0, aI G 8 (fun _ => 0)), (b0, aI G 8 (fun _ => 0)), (t0, .inr (3, [.ref l0])), (l0, aI G 23 (fun _ => 9)), (im, aO G 2 (fun _ => none))]) (host := "TripleTrap") ⟨hx, hb, hml, hown, hts⟩ (c_X1_init l G h1 H.size) ⟨va_cnB 0 hts gX5_init_X1_init_n18 rfl rfl rfl (hE.nest (w := .methodLinkNest RX5 18 yX1_init "TripleTrap") 3 rfl) (hts (.initialized RX1) (List.mem_of_getElem? (i := 10) rfl)) (by decide +kernel) ⟨Nat.le_of_ble_eq_true rfl, Nat.le_of_ble_eq_true rfl⟩, rfl, hts (.instanceMethod yX1_init) (List.mem_of_getElem? (i := 30) rfl)⟩ hE hP hD hS hA [11] [0, 1, 2, 3, 4, 5, 6, 7, 8, 9, 10] rfl rfl (by decide) (by decide) (by decide) rfl hl.1 rfl (Nat.le_of_ble_eq_true rfl) dX5_init_50 ⟨Nat.le_of_ble_eq_true rfl, Nat.le_of_ble_eq_true rfl⟩ (fun u H locs hP hD hS => ?_)
  obtain ⟨m1, f1, s1, b1, t1, l1⟩ := u
  have hP : va_P G.1 vwCl [(o, .inr (4, [.ref me, .ref h0, .ref im, .int (nI 0), .null])), (me, .inr (1, [.ref et])), (et, aI G 2048 mdT), (h0, .inr (0, [.ref m0, .ref t0])), (m0, .inr (2, [.int (nI 0), .ref f0, .ref s0, .ref b0])), (f0, aI G 8 (fun _ => 0)), (s0, aI G 8 (fun _ => 0)), (b0, aI G 8 (fun _ => 0)), (t0, .inr (3, [.ref l0])), (l0, aI G 23 (fun _ => 9)), (im, aO G 2 (fun _ => none)), (h1, .inr (0, [.ref m1, .ref t1])), (m1, .inr (2, [.int (nI 0), .ref f1, .ref s1, .ref b1])), (f1, aI G 8 (fun _ => 0)), (s1, aI G 8 (fun _ => 0)), (b1, aI G 8 (fun _ => 0)), (t1, .inr (3, [.ref l1])), (l1, aI G 23 (fun _ => 9))] H := hP.sub [0, 1, 2, 3, 4, 5, 6, 7, 8, 9, 10, 11, 12, 13, 14, 15, 16, 17] rfl
  have hD : va_D A [(o, .inr (4, [.ref me, .ref h0, .ref im, .int (nI 0), .null])), (me, .inr (1, [.ref et])), (et, aI G 2048 mdT), (h0, .inr (0, [.ref m0, .ref t0])), (m0, .inr (2, [.int (nI 0), .ref f0, .ref s0, .ref b0])), (f0, aI G 8 (fun _ => 0)), (s0, aI G 8 (fun _ => 0)), (b0, aI G 8 (fun _ => 0)), (t0, .inr (3, [.ref l0])), (l0, aI G 23 (fun _ => 9)), (im, aO G 2 (fun _ => none)), (h1, .inr (0, [.ref m1, .ref t1])), (m1, .inr (2, [.int (nI 0), .ref f1, .ref s1, .ref b1])), (f1, aI G 8 (fun _ => 0)), (s1, aI G 8 (fun _ => 0)), (b1, aI G 8 (fun _ => 0)), (t1, .inr (3, [.ref l1])), (l1, aI G 23 (fun _ => 9))] := hD.sub [0, 1, 2, 3, 4, 5, 6, 7, 8, 9, 10, 11, 12, 13, 14, 15, 16, 17] (by decide) rfl
  refine W.cs (cells' := 18) (slots' := 2182) rfl rfl ?_
  refine j_oast hx hb hE hP hD hS 10 11 rfl rfl (by omega) (by decide) dX5_init_53 (fun H locs hP hD hS => ?_)
  have hP : va_P G.1 vwCl [(o, .inr (4, [.ref me, .ref h0, .ref im, .int (nI 0), .null])), (me, .inr (1, [.ref et])), (et, aI G 2048 mdT), (h0, .inr (0, [.ref m0, .ref t0])), (m0, .inr (2, [.int (nI 0), .ref f0, .ref s0, .ref b0])), (f0, aI G 8 (fun _ => 0)), (s0, aI G 8 (fun _ => 0)), (b0, aI G 8 (fun _ => 0)), (t0, .inr (3, [.ref l0])), (l0, aI G 23 (fun _ => 9)), (im, aO G 2 (va_up (fun _ => none) 0 (some h1))), (h1, .inr (0, [.ref m1, .ref t1])), (m1, .inr (2, [.int (nI 0), .ref f1, .ref s1, .ref b1])), (f1, aI G 8 (fun _ => 0)), (s1, aI G 8 (fun _ => 0)), (b1, aI G 8 (fun _ => 0)), (t1, .inr (3, [.ref l1])), (l1, aI G 23 (fun _ => 9))] H := hP
  have hD : va_D A [(o, .inr (4, [.ref me, .ref h0, .ref im, .int (nI 0), .null])), (me, .inr (1, [.ref et])), (et, aI G 2048 mdT), (h0, .inr (0, [.ref m0, .ref t0])), (m0, .inr (2, [.int (nI 0), .ref f0, .ref s0, .ref b0])), (f0, aI G 8 (fun _ => 0)), (s0, aI G 8 (fun _ => 0)), (b0, aI G 8 (fun _ => 0)), (t0, .inr (3, [.ref l0])), (l0, aI G 23 (fun _ => 9)), (im, aO G 2 (va_up (fun _ => none) 0 (some h1))), (h1, .inr (0, [.ref m1, .ref t1])), (m1, .inr (2, [.int (nI 0), .ref f1, .ref s1, .ref b1])), (f1, aI G 8 (fun _ => 0)), (s1, aI G 8 (fun _ => 0)), (b1, aI G 8 (fun _ => 0)), (t1, .inr (3, [.ref l1])), (l1, aI G 23 (fun _ => 9))] := hD
  refine lv_iinc (v := nI 1) (lv' := [(1, .int (nI 1)), (0, .ref o)]) hx hb dX5_init_54 hl (k := 0) rfl rfl (by decide) rfl (fun ls hl => ?_)
  refine lv_goto (tgt := 36) hx hb dX5_init_57 (by decide) ?_
  refine lv_iload_n hx hb dX5_init_36 rfl (lv_at hl 0 rfl) ?_
  refine lv_iconst (v := nI 2) hx hb dX5_init_37 (by decide) ?_
  refine j_icmp_ge (tgt := 60) hx hb dX5_init_38 (by decide) (fun q => absurd q (by decide)) (fun _ => ?_)
  refine lv_aload_n hx hb dX5_init_41 rfl (lv_at hl 1 rfl) ?_
  refine va_get (D := G.1) (ci := 4) (v := .ref im) (C := RX5) (T := TX5) (N := 5) hx hb hts (fun w h => List.mem_cons_of_mem _ (List.mem_append_left _ (List.mem_append_left _ (List.mem_append_left _ (List.mem_append_right _ h))))) hown hE.1 hP 0 rfl rfl 2 (by decide) (hts (.fieldLink RX5 23 "TripleTrap" "images" "[LTripleTrap$Held;") (List.mem_of_getElem? (i := 12) rfl)) (fun _ h9 => h9) rfl dX5_init_42 ?_
  refine lv_iload_n hx hb dX5_init_45 rfl (lv_at hl 0 rfl) ?_
  refine va_new (ci := 0) (fs := [.null, .null]) (C := RX1) (T := TX1) (N := 2) hx hb hts (fun w h => List.mem_cons_of_mem _ (List.mem_append_left _ (List.mem_append_left _ (List.mem_append_right _ h)))) tyX1 tyX1_ok hown (hts (.classLink RX5 16 RX1) (List.mem_of_getElem? (i := 8) rfl)) (hts (.instantiable RX1 2) (List.mem_of_getElem? (i := 9) rfl)) (hts (.initialized RX1) (List.mem_of_getElem? (i := 10) rfl)) hE.1 hP hD hS hA rfl (fun j hj => by rcases (show j = 0 ∨ j = 1 by omega) with rfl | rfl <;> rfl) (Nat.le_of_ble_eq_true rfl) (Nat.le_of_ble_eq_true rfl) dX5_init_46 (fun h2 H hP hD hS => ?_)
  have hP : va_P G.1 vwCl [(o, .inr (4, [.ref me, .ref h0, .ref im, .int (nI 0), .null])), (me, .inr (1, [.ref et])), (et, aI G 2048 mdT), (h0, .inr (0, [.ref m0, .ref t0])), (m0, .inr (2, [.int (nI 0), .ref f0, .ref s0, .ref b0])), (f0, aI G 8 (fun _ => 0)), (s0, aI G 8 (fun _ => 0)), (b0, aI G 8 (fun _ => 0)), (t0, .inr (3, [.ref l0])), (l0, aI G 23 (fun _ => 9)), (im, aO G 2 (va_up (fun _ => none) 0 (some h1))), (h1, .inr (0, [.ref m1, .ref t1])), (m1, .inr (2, [.int (nI 0), .ref f1, .ref s1, .ref b1])), (f1, aI G 8 (fun _ => 0)), (s1, aI G 8 (fun _ => 0)), (b1, aI G 8 (fun _ => 0)), (t1, .inr (3, [.ref l1])), (l1, aI G 23 (fun _ => 9)), (h2, .inr (0, [.null, .null]))] H := hP
  have hD : va_D A [(o, .inr (4, [.ref me, .ref h0, .ref im, .int (nI 0), .null])), (me, .inr (1, [.ref et])), (et, aI G 2048 mdT), (h0, .inr (0, [.ref m0, .ref t0])), (m0, .inr (2, [.int (nI 0), .ref f0, .ref s0, .ref b0])), (f0, aI G 8 (fun _ => 0)), (s0, aI G 8 (fun _ => 0)), (b0, aI G 8 (fun _ => 0)), (t0, .inr (3, [.ref l0])), (l0, aI G 23 (fun _ => 9)), (im, aO G 2 (va_up (fun _ => none) 0 (some h1))), (h1, .inr (0, [.ref m1, .ref t1])), (m1, .inr (2, [.int (nI 0), .ref f1, .ref s1, .ref b1])), (f1, aI G 8 (fun _ => 0)), (s1, aI G 8 (fun _ => 0)), (b1, aI G 8 (fun _ => 0)), (t1, .inr (3, [.ref l1])), (l1, aI G 23 (fun _ => 9)), (h2, .inr (0, [.null, .null]))] := hD
  refine W.cs (cells' := 19) (slots' := 2184) rfl rfl ?_
  refine lv_dup hx hb dX5_init_49 rfl ?_
  refine cr_IN (As := []) (rest := [.ref h2, .int (nI 1), .ref im]) (wr := [(o, .inr (4, [.ref me, .ref h0, .ref im, .int (nI 0), .null])), (me, .inr (1, [.ref et])), (et, aI G 2048 mdT), (h0, .inr (0, [.ref m0, .ref t0])), (m0, .inr (2, [.int (nI 0), .ref f0, .ref s0, .ref b0])), (f0, aI G 8 (fun _ => 0)), (s0, aI G 8 (fun _ => 0)), (b0, aI G 8 (fun _ => 0)), (t0, .inr (3, [.ref l0])), (l0, aI G 23 (fun _ => 9)), (im, aO G 2 (va_up (fun _ => none) 0 (some h1))), (h1, .inr (0, [.ref m1, .ref t1])), (m1, .inr (2, [.int (nI 0), .ref f1, .ref s1, .ref b1])), (f1, aI G 8 (fun _ => 0)), (s1, aI G 8 (fun _ => 0)), (b1, aI G 8 (fun _ => 0)), (t1, .inr (3, [.ref l1])), (l1, aI G 23 (fun _ => 9))]) (host := "TripleTrap") ⟨hx, hb, hml, hown, hts⟩ (c_X1_init l G h2 H.size) ⟨va_cnB 0 hts gX5_init_X1_init_n18 rfl rfl rfl (hE.nest (w := .methodLinkNest RX5 18 yX1_init "TripleTrap") 3 rfl) (hts (.initialized RX1) (List.mem_of_getElem? (i := 10) rfl)) (by decide +kernel) ⟨Nat.le_of_ble_eq_true rfl, Nat.le_of_ble_eq_true rfl⟩, rfl, hts (.instanceMethod yX1_init) (List.mem_of_getElem? (i := 30) rfl)⟩ hE hP hD hS hA [18] [0, 1, 2, 3, 4, 5, 6, 7, 8, 9, 10, 11, 12, 13, 14, 15, 16, 17] rfl rfl (by decide) (by decide) (by decide) rfl hl.1 rfl (Nat.le_of_ble_eq_true rfl) dX5_init_50 ⟨Nat.le_of_ble_eq_true rfl, Nat.le_of_ble_eq_true rfl⟩ (fun u H locs hP hD hS => ?_)
  obtain ⟨m2, f2, s2, b2, t2, l2⟩ := u
  have hP : va_P G.1 vwCl [(o, .inr (4, [.ref me, .ref h0, .ref im, .int (nI 0), .null])), (me, .inr (1, [.ref et])), (et, aI G 2048 mdT), (h0, .inr (0, [.ref m0, .ref t0])), (m0, .inr (2, [.int (nI 0), .ref f0, .ref s0, .ref b0])), (f0, aI G 8 (fun _ => 0)), (s0, aI G 8 (fun _ => 0)), (b0, aI G 8 (fun _ => 0)), (t0, .inr (3, [.ref l0])), (l0, aI G 23 (fun _ => 9)), (im, aO G 2 (va_up (fun _ => none) 0 (some h1))), (h1, .inr (0, [.ref m1, .ref t1])), (m1, .inr (2, [.int (nI 0), .ref f1, .ref s1, .ref b1])), (f1, aI G 8 (fun _ => 0)), (s1, aI G 8 (fun _ => 0)), (b1, aI G 8 (fun _ => 0)), (t1, .inr (3, [.ref l1])), (l1, aI G 23 (fun _ => 9)), (h2, .inr (0, [.ref m2, .ref t2])), (m2, .inr (2, [.int (nI 0), .ref f2, .ref s2, .ref b2])), (f2, aI G 8 (fun _ => 0)), (s2, aI G 8 (fun _ => 0)), (b2, aI G 8 (fun _ => 0)), (t2, .inr (3, [.ref l2])), (l2, aI G 23 (fun _ => 9))] H := hP.sub [0, 1, 2, 3, 4, 5, 6, 7, 8, 9, 10, 11, 12, 13, 14, 15, 16, 17, 18, 19, 20, 21, 22, 23, 24] rfl
  have hD : va_D A [(o, .inr (4, [.ref me, .ref h0, .ref im, .int (nI 0), .null])), (me, .inr (1, [.ref et])), (et, aI G 2048 mdT), (h0, .inr (0, [.ref m0, .ref t0])), (m0, .inr (2, [.int (nI 0), .ref f0, .ref s0, .ref b0])), (f0, aI G 8 (fun _ => 0)), (s0, aI G 8 (fun _ => 0)), (b0, aI G 8 (fun _ => 0)), (t0, .inr (3, [.ref l0])), (l0, aI G 23 (fun _ => 9)), (im, aO G 2 (va_up (fun _ => none) 0 (some h1))), (h1, .inr (0, [.ref m1, .ref t1])), (m1, .inr (2, [.int (nI 0), .ref f1, .ref s1, .ref b1])), (f1, aI G 8 (fun _ => 0)), (s1, aI G 8 (fun _ => 0)), (b1, aI G 8 (fun _ => 0)), (t1, .inr (3, [.ref l1])), (l1, aI G 23 (fun _ => 9)), (h2, .inr (0, [.ref m2, .ref t2])), (m2, .inr (2, [.int (nI 0), .ref f2, .ref s2, .ref b2])), (f2, aI G 8 (fun _ => 0)), (s2, aI G 8 (fun _ => 0)), (b2, aI G 8 (fun _ => 0)), (t2, .inr (3, [.ref l2])), (l2, aI G 23 (fun _ => 9))] := hD.sub [0, 1, 2, 3, 4, 5, 6, 7, 8, 9, 10, 11, 12, 13, 14, 15, 16, 17, 18, 19, 20, 21, 22, 23, 24] (by decide) rfl
  refine W.cs (cells' := 25) (slots' := 2236) rfl rfl ?_
  refine j_oast hx hb hE hP hD hS 10 18 rfl rfl (by omega) (by decide) dX5_init_53 (fun H locs hP hD hS => ?_)
  have hP : va_P G.1 vwCl [(o, .inr (4, [.ref me, .ref h0, .ref im, .int (nI 0), .null])), (me, .inr (1, [.ref et])), (et, aI G 2048 mdT), (h0, .inr (0, [.ref m0, .ref t0])), (m0, .inr (2, [.int (nI 0), .ref f0, .ref s0, .ref b0])), (f0, aI G 8 (fun _ => 0)), (s0, aI G 8 (fun _ => 0)), (b0, aI G 8 (fun _ => 0)), (t0, .inr (3, [.ref l0])), (l0, aI G 23 (fun _ => 9)), (im, aO G 2 (va_up (va_up (fun _ => none) 0 (some h1)) 1 (some h2))), (h1, .inr (0, [.ref m1, .ref t1])), (m1, .inr (2, [.int (nI 0), .ref f1, .ref s1, .ref b1])), (f1, aI G 8 (fun _ => 0)), (s1, aI G 8 (fun _ => 0)), (b1, aI G 8 (fun _ => 0)), (t1, .inr (3, [.ref l1])), (l1, aI G 23 (fun _ => 9)), (h2, .inr (0, [.ref m2, .ref t2])), (m2, .inr (2, [.int (nI 0), .ref f2, .ref s2, .ref b2])), (f2, aI G 8 (fun _ => 0)), (s2, aI G 8 (fun _ => 0)), (b2, aI G 8 (fun _ => 0)), (t2, .inr (3, [.ref l2])), (l2, aI G 23 (fun _ => 9))] H := hP
  have hD : va_D A [(o, .inr (4, [.ref me, .ref h0, .ref im, .int (nI 0), .null])), (me, .inr (1, [.ref et])), (et, aI G 2048 mdT), (h0, .inr (0, [.ref m0, .ref t0])), (m0, .inr (2, [.int (nI 0), .ref f0, .ref s0, .ref b0])), (f0, aI G 8 (fun _ => 0)), (s0, aI G 8 (fun _ => 0)), (b0, aI G 8 (fun _ => 0)), (t0, .inr (3, [.ref l0])), (l0, aI G 23 (fun _ => 9)), (im, aO G 2 (va_up (va_up (fun _ => none) 0 (some h1)) 1 (some h2))), (h1, .inr (0, [.ref m1, .ref t1])), (m1, .inr (2, [.int (nI 0), .ref f1, .ref s1, .ref b1])), (f1, aI G 8 (fun _ => 0)), (s1, aI G 8 (fun _ => 0)), (b1, aI G 8 (fun _ => 0)), (t1, .inr (3, [.ref l1])), (l1, aI G 23 (fun _ => 9)), (h2, .inr (0, [.ref m2, .ref t2])), (m2, .inr (2, [.int (nI 0), .ref f2, .ref s2, .ref b2])), (f2, aI G 8 (fun _ => 0)), (s2, aI G 8 (fun _ => 0)), (b2, aI G 8 (fun _ => 0)), (t2, .inr (3, [.ref l2])), (l2, aI G 23 (fun _ => 9))] := hD
  refine lv_iinc (v := nI 2) (lv' := [(1, .int (nI 2)), (0, .ref o)]) hx hb dX5_init_54 hl (k := 0) rfl rfl (by decide) rfl (fun ls hl => ?_)
  refine lv_goto (tgt := 36) hx hb dX5_init_57 (by decide) ?_
  refine lv_iload_n hx hb dX5_init_36 rfl (lv_at hl 0 rfl) ?_
  refine lv_iconst (v := nI 2) hx hb dX5_init_37 (by decide) ?_
  refine j_icmp_ge (tgt := 60) hx hb dX5_init_38 (by decide) (fun _ => ?_) (fun q => absurd q (by decide))
  refine lv_aload_n hx hb dX5_init_60 rfl (lv_at hl 1 rfl) ?_
  refine lv_iconst (v := nI 0) hx hb dX5_init_61 (by decide) ?_
  refine va_put (D := G.1) (ci := 4) (v := .int (nI 0)) (ty := .int) (C := RX5) (T := TX5) (N := 5) hx hb hts (fun w h => List.mem_cons_of_mem _ (List.mem_append_left _ (List.mem_append_left _ (List.mem_append_left _ (List.mem_append_right _ h))))) tyX5 tyX5_ok nmX5 hown hE.1 hP hD hS 0 rfl rfl 3 (by decide) (hts (.fieldLink RX5 27 "TripleTrap" "imagesKept" "I") (List.mem_of_getElem? (i := 13) rfl)) (fun _ h9 => h9) rfl (by decide +kernel) rfl rfl (Nat.le_of_ble_eq_true rfl) dX5_init_62 (fun H locs hP hD hS => ?_)
  have hP : va_P G.1 vwCl [(o, .inr (4, [.ref me, .ref h0, .ref im, .int (nI 0), .null])), (me, .inr (1, [.ref et])), (et, aI G 2048 mdT), (h0, .inr (0, [.ref m0, .ref t0])), (m0, .inr (2, [.int (nI 0), .ref f0, .ref s0, .ref b0])), (f0, aI G 8 (fun _ => 0)), (s0, aI G 8 (fun _ => 0)), (b0, aI G 8 (fun _ => 0)), (t0, .inr (3, [.ref l0])), (l0, aI G 23 (fun _ => 9)), (im, aO G 2 (va_up (va_up (fun _ => none) 0 (some h1)) 1 (some h2))), (h1, .inr (0, [.ref m1, .ref t1])), (m1, .inr (2, [.int (nI 0), .ref f1, .ref s1, .ref b1])), (f1, aI G 8 (fun _ => 0)), (s1, aI G 8 (fun _ => 0)), (b1, aI G 8 (fun _ => 0)), (t1, .inr (3, [.ref l1])), (l1, aI G 23 (fun _ => 9)), (h2, .inr (0, [.ref m2, .ref t2])), (m2, .inr (2, [.int (nI 0), .ref f2, .ref s2, .ref b2])), (f2, aI G 8 (fun _ => 0)), (s2, aI G 8 (fun _ => 0)), (b2, aI G 8 (fun _ => 0)), (t2, .inr (3, [.ref l2])), (l2, aI G 23 (fun _ => 9))] H := hP
  have hD : va_D A [(o, .inr (4, [.ref me, .ref h0, .ref im, .int (nI 0), .null])), (me, .inr (1, [.ref et])), (et, aI G 2048 mdT), (h0, .inr (0, [.ref m0, .ref t0])), (m0, .inr (2, [.int (nI 0), .ref f0, .ref s0, .ref b0])), (f0, aI G 8 (fun _ => 0)), (s0, aI G 8 (fun _ => 0)), (b0, aI G 8 (fun _ => 0)), (t0, .inr (3, [.ref l0])), (l0, aI G 23 (fun _ => 9)), (im, aO G 2 (va_up (va_up (fun _ => none) 0 (some h1)) 1 (some h2))), (h1, .inr (0, [.ref m1, .ref t1])), (m1, .inr (2, [.int (nI 0), .ref f1, .ref s1, .ref b1])), (f1, aI G 8 (fun _ => 0)), (s1, aI G 8 (fun _ => 0)), (b1, aI G 8 (fun _ => 0)), (t1, .inr (3, [.ref l1])), (l1, aI G 23 (fun _ => 9)), (h2, .inr (0, [.ref m2, .ref t2])), (m2, .inr (2, [.int (nI 0), .ref f2, .ref s2, .ref b2])), (f2, aI G 8 (fun _ => 0)), (s2, aI G 8 (fun _ => 0)), (b2, aI G 8 (fun _ => 0)), (t2, .inr (3, [.ref l2])), (l2, aI G 23 (fun _ => 9))] := hD
  refine lv_aload_n hx hb dX5_init_65 rfl (lv_at hl 1 rfl) ?_
  refine lv_bipush (v := nI 16) hx hb dX5_init_66 (by decide) ?_
  refine j_newa (N := 16) hx hb (hts (.arrayClass .int) (List.mem_of_getElem? (i := 14) rfl)) hE hP hD hS hA (by decide) (by decide) (Nat.le_of_ble_eq_true rfl) (Nat.le_of_ble_eq_true rfl) dX5_init_68 (fun ta H hP hD hS => ?_)
  have hP : va_P G.1 vwCl [(o, .inr (4, [.ref me, .ref h0, .ref im, .int (nI 0), .null])), (me, .inr (1, [.ref et])), (et, aI G 2048 mdT), (h0, .inr (0, [.ref m0, .ref t0])), (m0, .inr (2, [.int (nI 0), .ref f0, .ref s0, .ref b0])), (f0, aI G 8 (fun _ => 0)), (s0, aI G 8 (fun _ => 0)), (b0, aI G 8 (fun _ => 0)), (t0, .inr (3, [.ref l0])), (l0, aI G 23 (fun _ => 9)), (im, aO G 2 (va_up (va_up (fun _ => none) 0 (some h1)) 1 (some h2))), (h1, .inr (0, [.ref m1, .ref t1])), (m1, .inr (2, [.int (nI 0), .ref f1, .ref s1, .ref b1])), (f1, aI G 8 (fun _ => 0)), (s1, aI G 8 (fun _ => 0)), (b1, aI G 8 (fun _ => 0)), (t1, .inr (3, [.ref l1])), (l1, aI G 23 (fun _ => 9)), (h2, .inr (0, [.ref m2, .ref t2])), (m2, .inr (2, [.int (nI 0), .ref f2, .ref s2, .ref b2])), (f2, aI G 8 (fun _ => 0)), (s2, aI G 8 (fun _ => 0)), (b2, aI G 8 (fun _ => 0)), (t2, .inr (3, [.ref l2])), (l2, aI G 23 (fun _ => 9)), (ta, aI G 16 (fun _ => 0))] H := hP
  have hD : va_D A [(o, .inr (4, [.ref me, .ref h0, .ref im, .int (nI 0), .null])), (me, .inr (1, [.ref et])), (et, aI G 2048 mdT), (h0, .inr (0, [.ref m0, .ref t0])), (m0, .inr (2, [.int (nI 0), .ref f0, .ref s0, .ref b0])), (f0, aI G 8 (fun _ => 0)), (s0, aI G 8 (fun _ => 0)), (b0, aI G 8 (fun _ => 0)), (t0, .inr (3, [.ref l0])), (l0, aI G 23 (fun _ => 9)), (im, aO G 2 (va_up (va_up (fun _ => none) 0 (some h1)) 1 (some h2))), (h1, .inr (0, [.ref m1, .ref t1])), (m1, .inr (2, [.int (nI 0), .ref f1, .ref s1, .ref b1])), (f1, aI G 8 (fun _ => 0)), (s1, aI G 8 (fun _ => 0)), (b1, aI G 8 (fun _ => 0)), (t1, .inr (3, [.ref l1])), (l1, aI G 23 (fun _ => 9)), (h2, .inr (0, [.ref m2, .ref t2])), (m2, .inr (2, [.int (nI 0), .ref f2, .ref s2, .ref b2])), (f2, aI G 8 (fun _ => 0)), (s2, aI G 8 (fun _ => 0)), (b2, aI G 8 (fun _ => 0)), (t2, .inr (3, [.ref l2])), (l2, aI G 23 (fun _ => 9)), (ta, aI G 16 (fun _ => 0))] := hD
  refine W.cs (cells' := 26) (slots' := 2252) rfl rfl ?_
  refine va_putF (D := G.1) (ci := 4) (v := .ref ta) (ty := .array .int) (C := RX5) (T := TX5) (N := 5) hx hb hts (fun w h => List.mem_cons_of_mem _ (List.mem_append_left _ (List.mem_append_left _ (List.mem_append_left _ (List.mem_append_right _ h))))) tyX5 tyX5_ok nmX5 hown hE.1 hP hD hS 0 rfl rfl 4 (by decide) (hts (.fieldLink RX5 31 "TripleTrap" "tries" "[I") (List.mem_of_getElem? (i := 15) rfl)) (fun _ h9 => h9) rfl hin rfl (by decide +kernel) rfl rfl (Nat.le_of_ble_eq_true rfl) dX5_init_70 (fun H locs hP hD hS => ?_)
  have hP : va_P G.1 vwCl [(o, .inr (4, [.ref me, .ref h0, .ref im, .int (nI 0), .ref ta])), (me, .inr (1, [.ref et])), (et, aI G 2048 mdT), (h0, .inr (0, [.ref m0, .ref t0])), (m0, .inr (2, [.int (nI 0), .ref f0, .ref s0, .ref b0])), (f0, aI G 8 (fun _ => 0)), (s0, aI G 8 (fun _ => 0)), (b0, aI G 8 (fun _ => 0)), (t0, .inr (3, [.ref l0])), (l0, aI G 23 (fun _ => 9)), (im, aO G 2 (va_up (va_up (fun _ => none) 0 (some h1)) 1 (some h2))), (h1, .inr (0, [.ref m1, .ref t1])), (m1, .inr (2, [.int (nI 0), .ref f1, .ref s1, .ref b1])), (f1, aI G 8 (fun _ => 0)), (s1, aI G 8 (fun _ => 0)), (b1, aI G 8 (fun _ => 0)), (t1, .inr (3, [.ref l1])), (l1, aI G 23 (fun _ => 9)), (h2, .inr (0, [.ref m2, .ref t2])), (m2, .inr (2, [.int (nI 0), .ref f2, .ref s2, .ref b2])), (f2, aI G 8 (fun _ => 0)), (s2, aI G 8 (fun _ => 0)), (b2, aI G 8 (fun _ => 0)), (t2, .inr (3, [.ref l2])), (l2, aI G 23 (fun _ => 9)), (ta, aI G 16 (fun _ => 0))] H := hP
  have hD : va_D A [(o, .inr (4, [.ref me, .ref h0, .ref im, .int (nI 0), .ref ta])), (me, .inr (1, [.ref et])), (et, aI G 2048 mdT), (h0, .inr (0, [.ref m0, .ref t0])), (m0, .inr (2, [.int (nI 0), .ref f0, .ref s0, .ref b0])), (f0, aI G 8 (fun _ => 0)), (s0, aI G 8 (fun _ => 0)), (b0, aI G 8 (fun _ => 0)), (t0, .inr (3, [.ref l0])), (l0, aI G 23 (fun _ => 9)), (im, aO G 2 (va_up (va_up (fun _ => none) 0 (some h1)) 1 (some h2))), (h1, .inr (0, [.ref m1, .ref t1])), (m1, .inr (2, [.int (nI 0), .ref f1, .ref s1, .ref b1])), (f1, aI G 8 (fun _ => 0)), (s1, aI G 8 (fun _ => 0)), (b1, aI G 8 (fun _ => 0)), (t1, .inr (3, [.ref l1])), (l1, aI G 23 (fun _ => 9)), (h2, .inr (0, [.ref m2, .ref t2])), (m2, .inr (2, [.int (nI 0), .ref f2, .ref s2, .ref b2])), (f2, aI G 8 (fun _ => 0)), (s2, aI G 8 (fun _ => 0)), (b2, aI G 8 (fun _ => 0)), (t2, .inr (3, [.ref l2])), (l2, aI G 23 (fun _ => 9)), (ta, aI G 16 (fun _ => 0))] := hD
  obtain ⟨hP, hD⟩ := PD_arrO (F' := imF h1 h2) hP hD 10 rfl (fun i hi => by rcases (show i = 0 ∨ i = 1 by omega) with rfl | rfl <;> rfl)
  exact cr_vret (me, et, h0, m0, f0, s0, b0, t0, l0, im, h1, m1, f1, s1, b1, t1, l1, h2, m2, f2, s2, b2, t2, l2, ta) hx hb hr hlocks dX5_init_73 (hP.sub [0, 1, 2, 3, 4, 5, 6, 7, 8, 9, 10, 11, 12, 13, 14, 15, 16, 17, 18, 19, 20, 21, 22, 23, 24, 25] rfl) (hD.sub [0, 1, 2, 3, 4, 5, 6, 7, 8, 9, 10, 11, 12, 13, 14, 15, 16, 17, 18, 19, 20, 21, 22, 23, 24, 25] (by decide) rfl) hS
set_option maxHeartbeats 4000000 in
set_option maxRecDepth 100000 in
/-- layErrors -/
theorem c_X6_layErrors (l : Launch) (G : EG) (o : Nat) (sa : Nat) (ia : Nat) (ka : Nat) (ea : Nat) (ca : Nat) (tr : Nat) (fi : Int32) (E : Nat → Nat) (x : Nat) (hx0 : x < 8388608) (sz : Nat) : WR l yX6_layErrors wsX6_layErrors (rmR 1 22) G sz [(o, .inr (5, [.ref sa, .ref ia, .ref ka, .ref ea, .int (nI tr), .int fi, .ref ca])), (ea, aI G 2048 E)] [.ref o, .int (nI x)] [(o, .inr (5, [.ref sa, .ref ia, .ref ka, .ref ea, .int (nI tr), .int fi, .ref ca])), (ea, aI G 2048 (va_up E (remN x) x))] none := by
  refine WR.start (by decide) rfl (Nat.le_of_ble_eq_true rfl) ?_
  intro p e s m below meth c hx hb hr hml hts hown hlocks hE A hA H locs hP hD hS ls hl
  have hown : s.vm.findClass RX6 = some m.cls := hown
  have hl : lv_has ls 2 [(0, .ref o), (1, .int (nI x))] := hl
  refine lv_aload_n hx hb dX6_layErrors_0 rfl (lv_at hl 0 rfl) ?_
  refine va_get (D := G.1) (ci := 5) (v := .ref ea) (C := RX6) (T := TX6) (N := 7) hx hb hts (fun w h => List.mem_cons_of_mem _ (List.mem_append_right _ h)) hown hE.1 hP 0 rfl rfl 3 (by decide) (hts (.fieldLink RX6 20 "TripleTrapModel" "errorsOf" "[I") (List.mem_of_getElem? (i := 1) rfl)) (fun _ h9 => h9) rfl dX6_layErrors_1 ?_
  refine lv_iload_n hx hb dX6_layErrors_4 rfl (lv_at hl 1 rfl) ?_
  refine ro_S (rest := [.ref ea]) ⟨hx, hb, hml, hown, hts⟩ (c_X6_restOf l G x (by omega)) (va_cwS 1 hts gX6_layErrors_X6_restOf rfl rfl rfl (by decide +kernel) ⟨Nat.le_of_ble_eq_true rfl, Nat.le_of_ble_eq_true rfl⟩) hE (hP.sub [] rfl) rfl hl.1 rfl (Nat.le_of_ble_eq_true rfl) dX6_layErrors_5 ⟨Nat.zero_le _, Nat.zero_le _⟩ ?_
  refine lv_iload_n hx hb dX6_layErrors_8 rfl (lv_at hl 1 rfl) ?_
  refine j_iast hx hb hE hP hD hS 1 rfl dX6_layErrors_9 (fun H locs hP hD hS => ?_) (hk := remN_lt11 hx0) (hn := by decide)
  have hP : va_P G.1 vwCl [(o, .inr (5, [.ref sa, .ref ia, .ref ka, .ref ea, .int (nI tr), .int fi, .ref ca])), (ea, aI G 2048 (va_up E (remN x) x))] H := hP
  have hD : va_D A [(o, .inr (5, [.ref sa, .ref ia, .ref ka, .ref ea, .int (nI tr), .int fi, .ref ca])), (ea, aI G 2048 (va_up E (remN x) x))] := hD
  exact wr_vret hx hb hr hlocks dX6_layErrors_10 hP hD hS
set_option maxHeartbeats 4000000 in
set_option maxRecDepth 100000 in
/-- TripleTrapModel() -/
theorem c_X6_init (l : Launch) (G : EG) (o : Nat) (sz : Nat) : CR l yX6_init wsX6_init ({ frames := 2, cells := 5, slots := 2186, locals := 43 } : Room) G sz [(o, .inr (5, [.null, .null, .null, .null, .int (nI 0), .int (nI 0), .null]))] [.ref o] (fun u : Nat × Nat × Nat × Nat × Nat => match u with | (sa, ia, ka, ea, ca) => [(o, .inr (5, [.ref sa, .ref ia, .ref ka, .ref ea, .int (nI 0), .int (nI 0), .ref ca])), (sa, aI G 40 stX0), (ia, aI G 80 (fun _ => 0)), (ka, aZ G 2 (fun _ => 0)), (ea, aI G 2048 moT), (ca, aI G 16 (fun _ => 0))]) 5 2186 := by
  refine CR.start (by decide) rfl (Nat.le_of_ble_eq_true rfl) ?_
  intro p e s m below meth c hx hb hr hml hts hown hlocks hin hE A hA H locs hP hD hS ls hl
  have hin : meth.name = "<init>" := hin
  have hown : s.vm.findClass RX6 = some m.cls := hown
  have hl : lv_has ls 4 [(0, .ref o)] := hl
  refine lv_aload_n hx hb dX6_init_0 rfl (lv_at hl 0 rfl) ?_
  refine W.objInit hx hb hown (hts (.methodLink RX6 1 objectInit) (List.mem_of_getElem? (i := 1) rfl)) (hts (.instanceMethod objectInit) (List.mem_of_getElem? (i := 2) rfl)) (hts (.code objectInit ⟨#[0xb1]⟩ 1 none) (List.mem_of_getElem? (i := 3) rfl)) rfl (by rw [hml]; exact hl.1) rfl dX6_init_1 (Nat.le_of_ble_eq_true rfl) (Nat.le_of_ble_eq_true rfl) ?_
  refine W.eq (g2 := F0 m 4 ls []) rfl ?_
  refine lv_aload_n hx hb dX6_init_4 rfl (lv_at hl 0 rfl) ?_
  refine lv_bipush (v := nI 40) hx hb dX6_init_5 (by decide) ?_
  refine j_newa (N := 40) hx hb (hts (.arrayClass .int) (List.mem_of_getElem? (i := 4) rfl)) hE hP hD hS hA (by decide) (by decide) (Nat.le_of_ble_eq_true rfl) (Nat.le_of_ble_eq_true rfl) dX6_init_7 (fun sa H hP hD hS => ?_)
  have hP : va_P G.1 vwCl [(o, .inr (5, [.null, .null, .null, .null, .int (nI 0), .int (nI 0), .null])), (sa, aI G 40 (fun _ => 0))] H := hP
  have hD : va_D A [(o, .inr (5, [.null, .null, .null, .null, .int (nI 0), .int (nI 0), .null])), (sa, aI G 40 (fun _ => 0))] := hD
  refine W.cs (cells' := 1) (slots' := 40) rfl rfl ?_
  refine va_putF (D := G.1) (ci := 5) (v := .ref sa) (ty := .array .int) (C := RX6) (T := TX6) (N := 7) hx hb hts (fun w h => List.mem_cons_of_mem _ (List.mem_append_right _ h)) tyX6 tyX6_ok nmX6 hown hE.1 hP hD hS 0 rfl rfl 0 (by decide) (hts (.fieldLink RX6 7 "TripleTrapModel" "state" "[I") (List.mem_of_getElem? (i := 5) rfl)) (fun _ h9 => h9) rfl hin rfl (by decide +kernel) rfl rfl (Nat.le_of_ble_eq_true rfl) dX6_init_9 (fun H locs hP hD hS => ?_)
  have hP : va_P G.1 vwCl [(o, .inr (5, [.ref sa, .null, .null, .null, .int (nI 0), .int (nI 0), .null])), (sa, aI G 40 (fun _ => 0))] H := hP
  have hD : va_D A [(o, .inr (5, [.ref sa, .null, .null, .null, .int (nI 0), .int (nI 0), .null])), (sa, aI G 40 (fun _ => 0))] := hD
  refine lv_aload_n hx hb dX6_init_12 rfl (lv_at hl 0 rfl) ?_
  refine lv_bipush (v := nI 80) hx hb dX6_init_13 (by decide) ?_
  refine j_newa (N := 80) hx hb (hts (.arrayClass .int) (List.mem_of_getElem? (i := 4) rfl)) hE hP hD hS hA (by decide) (by decide) (Nat.le_of_ble_eq_true rfl) (Nat.le_of_ble_eq_true rfl) dX6_init_15 (fun ia H hP hD hS => ?_)
  have hP : va_P G.1 vwCl [(o, .inr (5, [.ref sa, .null, .null, .null, .int (nI 0), .int (nI 0), .null])), (sa, aI G 40 (fun _ => 0)), (ia, aI G 80 (fun _ => 0))] H := hP
  have hD : va_D A [(o, .inr (5, [.ref sa, .null, .null, .null, .int (nI 0), .int (nI 0), .null])), (sa, aI G 40 (fun _ => 0)), (ia, aI G 80 (fun _ => 0))] := hD
  refine W.cs (cells' := 2) (slots' := 120) rfl rfl ?_
  refine va_putF (D := G.1) (ci := 5) (v := .ref ia) (ty := .array .int) (C := RX6) (T := TX6) (N := 7) hx hb hts (fun w h => List.mem_cons_of_mem _ (List.mem_append_right _ h)) tyX6 tyX6_ok nmX6 hown hE.1 hP hD hS 0 rfl rfl 1 (by decide) (hts (.fieldLink RX6 13 "TripleTrapModel" "images" "[I") (List.mem_of_getElem? (i := 6) rfl)) (fun _ h9 => h9) rfl hin rfl (by decide +kernel) rfl rfl (Nat.le_of_ble_eq_true rfl) dX6_init_17 (fun H locs hP hD hS => ?_)
  have hP : va_P G.1 vwCl [(o, .inr (5, [.ref sa, .ref ia, .null, .null, .int (nI 0), .int (nI 0), .null])), (sa, aI G 40 (fun _ => 0)), (ia, aI G 80 (fun _ => 0))] H := hP
  have hD : va_D A [(o, .inr (5, [.ref sa, .ref ia, .null, .null, .int (nI 0), .int (nI 0), .null])), (sa, aI G 40 (fun _ => 0)), (ia, aI G 80 (fun _ => 0))] := hD
  refine lv_aload_n hx hb dX6_init_20 rfl (lv_at hl 0 rfl) ?_
  refine lv_iconst (v := nI 2) hx hb dX6_init_21 (by decide) ?_
  refine j_newz (N := 2) hx hb (hts (.arrayClass .boolean) (List.mem_of_getElem? (i := 7) rfl)) hE hP hD hS hA (by decide) (by decide) (Nat.le_of_ble_eq_true rfl) (Nat.le_of_ble_eq_true rfl) dX6_init_22 (fun ka H hP hD hS => ?_)
  have hP : va_P G.1 vwCl [(o, .inr (5, [.ref sa, .ref ia, .null, .null, .int (nI 0), .int (nI 0), .null])), (sa, aI G 40 (fun _ => 0)), (ia, aI G 80 (fun _ => 0)), (ka, aZ G 2 (fun _ => 0))] H := hP
  have hD : va_D A [(o, .inr (5, [.ref sa, .ref ia, .null, .null, .int (nI 0), .int (nI 0), .null])), (sa, aI G 40 (fun _ => 0)), (ia, aI G 80 (fun _ => 0)), (ka, aZ G 2 (fun _ => 0))] := hD
  refine W.cs (cells' := 3) (slots' := 122) rfl rfl ?_
  refine va_putF (D := G.1) (ci := 5) (v := .ref ka) (ty := .array .boolean) (C := RX6) (T := TX6) (N := 7) hx hb hts (fun w h => List.mem_cons_of_mem _ (List.mem_append_right _ h)) tyX6 tyX6_ok nmX6 hown hE.1 hP hD hS 0 rfl rfl 2 (by decide) (hts (.fieldLink RX6 16 "TripleTrapModel" "isKept" "[Z") (List.mem_of_getElem? (i := 8) rfl)) (fun _ h9 => h9) rfl hin rfl (by decide +kernel) rfl rfl (Nat.le_of_ble_eq_true rfl) dX6_init_24 (fun H locs hP hD hS => ?_)
  have hP : va_P G.1 vwCl [(o, .inr (5, [.ref sa, .ref ia, .ref ka, .null, .int (nI 0), .int (nI 0), .null])), (sa, aI G 40 (fun _ => 0)), (ia, aI G 80 (fun _ => 0)), (ka, aZ G 2 (fun _ => 0))] H := hP
  have hD : va_D A [(o, .inr (5, [.ref sa, .ref ia, .ref ka, .null, .int (nI 0), .int (nI 0), .null])), (sa, aI G 40 (fun _ => 0)), (ia, aI G 80 (fun _ => 0)), (ka, aZ G 2 (fun _ => 0))] := hD
  refine lv_aload_n hx hb dX6_init_27 rfl (lv_at hl 0 rfl) ?_
  refine lv_sipush (v := nI 2048) hx hb dX6_init_28 (by decide) ?_
  refine j_newa (N := 2048) hx hb (hts (.arrayClass .int) (List.mem_of_getElem? (i := 4) rfl)) hE hP hD hS hA (by decide) (by decide) (Nat.le_of_ble_eq_true rfl) (Nat.le_of_ble_eq_true rfl) dX6_init_31 (fun ea H hP hD hS => ?_)
  have hP : va_P G.1 vwCl [(o, .inr (5, [.ref sa, .ref ia, .ref ka, .null, .int (nI 0), .int (nI 0), .null])), (sa, aI G 40 (fun _ => 0)), (ia, aI G 80 (fun _ => 0)), (ka, aZ G 2 (fun _ => 0)), (ea, aI G 2048 (fun _ => 0))] H := hP
  have hD : va_D A [(o, .inr (5, [.ref sa, .ref ia, .ref ka, .null, .int (nI 0), .int (nI 0), .null])), (sa, aI G 40 (fun _ => 0)), (ia, aI G 80 (fun _ => 0)), (ka, aZ G 2 (fun _ => 0)), (ea, aI G 2048 (fun _ => 0))] := hD
  refine W.cs (cells' := 4) (slots' := 2170) rfl rfl ?_
  refine va_putF (D := G.1) (ci := 5) (v := .ref ea) (ty := .array .int) (C := RX6) (T := TX6) (N := 7) hx hb hts (fun w h => List.mem_cons_of_mem _ (List.mem_append_right _ h)) tyX6 tyX6_ok nmX6 hown hE.1 hP hD hS 0 rfl rfl 3 (by decide) (hts (.fieldLink RX6 20 "TripleTrapModel" "errorsOf" "[I") (List.mem_of_getElem? (i := 9) rfl)) (fun _ h9 => h9) rfl hin rfl (by decide +kernel) rfl rfl (Nat.le_of_ble_eq_true rfl) dX6_init_33 (fun H locs hP hD hS => ?_)
  have hP : va_P G.1 vwCl [(o, .inr (5, [.ref sa, .ref ia, .ref ka, .ref ea, .int (nI 0), .int (nI 0), .null])), (sa, aI G 40 (fun _ => 0)), (ia, aI G 80 (fun _ => 0)), (ka, aZ G 2 (fun _ => 0)), (ea, aI G 2048 (fun _ => 0))] H := hP
  have hD : va_D A [(o, .inr (5, [.ref sa, .ref ia, .ref ka, .ref ea, .int (nI 0), .int (nI 0), .null])), (sa, aI G 40 (fun _ => 0)), (ia, aI G 80 (fun _ => 0)), (ka, aZ G 2 (fun _ => 0)), (ea, aI G 2048 (fun _ => 0))] := hD
  refine lv_aload_n hx hb dX6_init_36 rfl (lv_at hl 0 rfl) ?_
  refine lv_bipush (v := nI 16) hx hb dX6_init_37 (by decide) ?_
  refine j_newa (N := 16) hx hb (hts (.arrayClass .int) (List.mem_of_getElem? (i := 4) rfl)) hE hP hD hS hA (by decide) (by decide) (Nat.le_of_ble_eq_true rfl) (Nat.le_of_ble_eq_true rfl) dX6_init_39 (fun ca H hP hD hS => ?_)
  have hP : va_P G.1 vwCl [(o, .inr (5, [.ref sa, .ref ia, .ref ka, .ref ea, .int (nI 0), .int (nI 0), .null])), (sa, aI G 40 (fun _ => 0)), (ia, aI G 80 (fun _ => 0)), (ka, aZ G 2 (fun _ => 0)), (ea, aI G 2048 (fun _ => 0)), (ca, aI G 16 (fun _ => 0))] H := hP
  have hD : va_D A [(o, .inr (5, [.ref sa, .ref ia, .ref ka, .ref ea, .int (nI 0), .int (nI 0), .null])), (sa, aI G 40 (fun _ => 0)), (ia, aI G 80 (fun _ => 0)), (ka, aZ G 2 (fun _ => 0)), (ea, aI G 2048 (fun _ => 0)), (ca, aI G 16 (fun _ => 0))] := hD
  refine W.cs (cells' := 5) (slots' := 2186) rfl rfl ?_
  refine va_putF (D := G.1) (ci := 5) (v := .ref ca) (ty := .array .int) (C := RX6) (T := TX6) (N := 7) hx hb hts (fun w h => List.mem_cons_of_mem _ (List.mem_append_right _ h)) tyX6 tyX6_ok nmX6 hown hE.1 hP hD hS 0 rfl rfl 6 (by decide) (hts (.fieldLink RX6 23 "TripleTrapModel" "comes" "[I") (List.mem_of_getElem? (i := 10) rfl)) (fun _ h9 => h9) rfl hin rfl (by decide +kernel) rfl rfl (Nat.le_of_ble_eq_true rfl) dX6_init_41 (fun H locs hP hD hS => ?_)
  have hP : va_P G.1 vwCl [(o, .inr (5, [.ref sa, .ref ia, .ref ka, .ref ea, .int (nI 0), .int (nI 0), .ref ca])), (sa, aI G 40 (fun _ => 0)), (ia, aI G 80 (fun _ => 0)), (ka, aZ G 2 (fun _ => 0)), (ea, aI G 2048 (fun _ => 0)), (ca, aI G 16 (fun _ => 0))] H := hP
  have hD : va_D A [(o, .inr (5, [.ref sa, .ref ia, .ref ka, .ref ea, .int (nI 0), .int (nI 0), .ref ca])), (sa, aI G 40 (fun _ => 0)), (ia, aI G 80 (fun _ => 0)), (ka, aZ G 2 (fun _ => 0)), (ea, aI G 2048 (fun _ => 0)), (ca, aI G 16 (fun _ => 0))] := hD
  refine lv_iconst (v := nI 0) hx hb dX6_init_44 (by decide) ?_
  refine lv_istore_n (lv' := [(1, .int (nI 0)), (0, .ref o)]) hx hb dX6_init_45 rfl hl (by decide) rfl (fun ls hl => ?_)
  have loop46 : ∀ (fuel : Nat) (k : Nat) (X : Nat → Nat), (k ≤ 23) → (X = ninL (fun _ => 0) 17 k) → 23 - k < fuel → ∀ (H : Heap) (locs : List Loc), va_P G.1 vwCl [(o, .inr (5, [.ref sa, .ref ia, .ref ka, .ref ea, .int (nI 0), .int (nI 0), .ref ca])), (sa, aI G 40 X), (ia, aI G 80 (fun _ => 0)), (ka, aZ G 2 (fun _ => 0)), (ea, aI G 2048 (fun _ => 0)), (ca, aI G 16 (fun _ => 0))] H → va_D A [(o, .inr (5, [.ref sa, .ref ia, .ref ka, .ref ea, .int (nI 0), .int (nI 0), .ref ca])), (sa, aI G 40 X), (ia, aI G 80 (fun _ => 0)), (ka, aZ G 2 (fun _ => 0)), (ea, aI G 2048 (fun _ => 0)), (ca, aI G 16 (fun _ => 0))] → va_S A s.heap H locs → ∀ ls : Array Slot, lv_has ls 4 [(1, .int (nI k)), (0, .ref o)] → W p l e ({ frames := 2, cells := 5, slots := 2186, locals := 43 } : Room) s m ([.ref o] : List Value).toArray below meth c H locs 5 2186 (MQ below (postN G (fun u : Nat × Nat × Nat × Nat × Nat => match u with | (sa, ia, ka, ea, ca) => [(o, .inr (5, [.ref sa, .ref ia, .ref ka, .ref ea, .int (nI 0), .int (nI 0), .ref ca])), (sa, aI G 40 stX0), (ia, aI G 80 (fun _ => 0)), (ka, aZ G 2 (fun _ => 0)), (ea, aI G 2048 moT), (ca, aI G 16 (fun _ => 0))]) A) ([.ref o] : List Value).toArray s 5 2186 A) (F0 m 46 ls []) := by
    intro fuel
    induction fuel with
    | zero => intro k X h1 q1 hf; exact absurd hf (Nat.not_lt_zero _)
    | succ fuel ih46 =>
      intro k X h1 q1 hf H locs hP hD hS ls hl
      refine lv_iload_n hx hb dX6_init_46 rfl (lv_at hl 0 rfl) ?_
      refine lv_bipush (v := nI 23) hx hb dX6_init_47 (by decide) ?_
      refine j_icmp_ge (tgt := 69) hx hb dX6_init_49 (by decide) (fun c49 => ?_) (fun c49 => ?_)
      · skip
        refine lv_iconst (v := nI 0) hx hb dX6_init_69 (by decide) ?_
        refine lv_istore_n (lv' := [(1, .int (nI 0)), (0, .ref o)]) hx hb dX6_init_70 rfl hl (by decide) rfl (fun ls hl => ?_)
        have loop71 : ∀ (fuel : Nat) (a : Nat) (E : Nat → Nat), (a ≤ 23) → (moP (23 - a) E = moT) → 23 - a < fuel → ∀ (H : Heap) (locs : List Loc), va_P G.1 vwCl [(o, .inr (5, [.ref sa, .ref ia, .ref ka, .ref ea, .int (nI 0), .int (nI 0), .ref ca])), (sa, aI G 40 X), (ia, aI G 80 (fun _ => 0)), (ka, aZ G 2 (fun _ => 0)), (ea, aI G 2048 E), (ca, aI G 16 (fun _ => 0))] H → va_D A [(o, .inr (5, [.ref sa, .ref ia, .ref ka, .ref ea, .int (nI 0), .int (nI 0), .ref ca])), (sa, aI G 40 X), (ia, aI G 80 (fun _ => 0)), (ka, aZ G 2 (fun _ => 0)), (ea, aI G 2048 E), (ca, aI G 16 (fun _ => 0))] → va_S A s.heap H locs → ∀ ls : Array Slot, lv_has ls 4 [(1, .int (nI a)), (0, .ref o)] → W p l e ({ frames := 2, cells := 5, slots := 2186, locals := 43 } : Room) s m ([.ref o] : List Value).toArray below meth c H locs 5 2186 (MQ below (postN G (fun u : Nat × Nat × Nat × Nat × Nat => match u with | (sa, ia, ka, ea, ca) => [(o, .inr (5, [.ref sa, .ref ia, .ref ka, .ref ea, .int (nI 0), .int (nI 0), .ref ca])), (sa, aI G 40 stX0), (ia, aI G 80 (fun _ => 0)), (ka, aZ G 2 (fun _ => 0)), (ea, aI G 2048 moT), (ca, aI G 16 (fun _ => 0))]) A) ([.ref o] : List Value).toArray s 5 2186 A) (F0 m 71 ls []) := by
          intro fuel
          induction fuel with
          | zero => intro a E h2 q2 hf; exact absurd hf (Nat.not_lt_zero _)
          | succ fuel ih71 =>
            intro a E h2 q2 hf H locs hP hD hS ls hl
            refine lv_iload_n hx hb dX6_init_71 rfl (lv_at hl 0 rfl) ?_
            refine lv_bipush (v := nI 23) hx hb dX6_init_72 (by decide) ?_
            refine j_icmp_ge (tgt := 148) hx hb dX6_init_74 (by decide) (fun c74 => ?_) (fun c74 => ?_)
            · skip
              have eE : E = moT := by rw [← q2, show 23 - a = 0 by omega]; rfl
              rw [eE] at hP hD
              obtain ⟨hP, hD⟩ := PD_arr (F' := stX0) hP hD 1 rfl (fun i hi => by
                rw [q1, stX0]
                by_cases g : i < 17
                · rw [if_pos g, ninL_ne _ _ _ _ (Or.inl g)]
                · rw [if_neg g]
                  have := ninL_eq (fun _ => 0) 17 k (i - 17) (by omega)
                  rw [show 17 + (i - 17) = i by omega] at this
                  exact this)
              exact cr_vret (sa, ia, ka, ea, ca) hx hb hr hlocks dX6_init_148 (hP.sub [0, 1, 2, 3, 4, 5] rfl) (hD.sub [0, 1, 2, 3, 4, 5] (by decide) rfl) hS
            · skip
              refine lv_aload_n hx hb dX6_init_77 rfl (lv_at hl 1 rfl) ?_
              refine lv_iconst (v := nI 1) hx hb dX6_init_78 (by decide) ?_
              refine lv_iload_n hx hb dX6_init_79 rfl (lv_at hl 0 rfl) ?_
              refine j_shl hx hb dX6_init_80 ?_
              refine wr_V 5 0 (rest := []) (wr := [(sa, aI G 40 X), (ia, aI G 80 (fun _ => 0)), (ka, aZ G 2 (fun _ => 0)), (ca, aI G 16 (fun _ => 0))]) ⟨hx, hb, hml, hown, hts⟩ (c_X6_layErrors l G o sa ia ka ea ca 0 (nI 0) E (1 <<< a) (shl1 (by omega)) H.size) (cwV 1 hts gX6_init_X6_layErrors rfl rfl rfl (by decide +kernel) ⟨Nat.le_of_ble_eq_true rfl, Nat.le_of_ble_eq_true rfl⟩) hE hP hD hS hA [0, 4] [1, 2, 3, 5] rfl rfl (by decide) (by decide) (by decide) rfl rfl rfl hl.1 rfl (Nat.le_of_ble_eq_true rfl) dX6_init_81 ⟨Nat.le_of_ble_eq_true rfl, Nat.le_of_ble_eq_true rfl⟩ (fun H locs hP hD hS => ?_)
              have hP : va_P G.1 vwCl [(o, .inr (5, [.ref sa, .ref ia, .ref ka, .ref ea, .int (nI 0), .int (nI 0), .ref ca])), (sa, aI G 40 X), (ia, aI G 80 (fun _ => 0)), (ka, aZ G 2 (fun _ => 0)), (ea, aI G 2048 (va_up E (remN (1 <<< a)) (1 <<< a))), (ca, aI G 16 (fun _ => 0))] H := hP.sub [4, 0, 1, 2, 5, 3] rfl
              have hD : va_D A [(o, .inr (5, [.ref sa, .ref ia, .ref ka, .ref ea, .int (nI 0), .int (nI 0), .ref ca])), (sa, aI G 40 X), (ia, aI G 80 (fun _ => 0)), (ka, aZ G 2 (fun _ => 0)), (ea, aI G 2048 (va_up E (remN (1 <<< a)) (1 <<< a))), (ca, aI G 16 (fun _ => 0))] := hD.sub [4, 0, 1, 2, 5, 3] (by decide) rfl
              refine lv_iload_n hx hb dX6_init_84 rfl (lv_at hl 0 rfl) ?_
              refine lv_iconst (v := nI 1) hx hb dX6_init_85 (by decide) ?_
              refine j_add hx hb dX6_init_86 ?_
              refine j_top (fun x87 ex87 => ?_)
              refine lv_istore_n (lv' := [(2, .int (nI x87)), (1, .int (nI a)), (0, .ref o)]) hx hb dX6_init_87 rfl hl (by decide) rfl (fun ls hl => ?_)
              have loop88 : ∀ (fuel : Nat) (b : Nat) (E2 : Nat → Nat), (b ≤ 23) → (moP (22 - a) (moQ a (23 - b) E2) = moT) → 23 - b < fuel → ∀ (H : Heap) (locs : List Loc), va_P G.1 vwCl [(o, .inr (5, [.ref sa, .ref ia, .ref ka, .ref ea, .int (nI 0), .int (nI 0), .ref ca])), (sa, aI G 40 X), (ia, aI G 80 (fun _ => 0)), (ka, aZ G 2 (fun _ => 0)), (ea, aI G 2048 E2), (ca, aI G 16 (fun _ => 0))] H → va_D A [(o, .inr (5, [.ref sa, .ref ia, .ref ka, .ref ea, .int (nI 0), .int (nI 0), .ref ca])), (sa, aI G 40 X), (ia, aI G 80 (fun _ => 0)), (ka, aZ G 2 (fun _ => 0)), (ea, aI G 2048 E2), (ca, aI G 16 (fun _ => 0))] → va_S A s.heap H locs → ∀ ls : Array Slot, lv_has ls 4 [(2, .int (nI b)), (1, .int (nI a)), (0, .ref o)] → W p l e ({ frames := 2, cells := 5, slots := 2186, locals := 43 } : Room) s m ([.ref o] : List Value).toArray below meth c H locs 5 2186 (MQ below (postN G (fun u : Nat × Nat × Nat × Nat × Nat => match u with | (sa, ia, ka, ea, ca) => [(o, .inr (5, [.ref sa, .ref ia, .ref ka, .ref ea, .int (nI 0), .int (nI 0), .ref ca])), (sa, aI G 40 stX0), (ia, aI G 80 (fun _ => 0)), (ka, aZ G 2 (fun _ => 0)), (ea, aI G 2048 moT), (ca, aI G 16 (fun _ => 0))]) A) ([.ref o] : List Value).toArray s 5 2186 A) (F0 m 88 ls []) := by
                intro fuel
                induction fuel with
                | zero => intro b E2 h3 q3 hf; exact absurd hf (Nat.not_lt_zero _)
                | succ fuel ih88 =>
                  intro b E2 h3 q3 hf H locs hP hD hS ls hl
                  refine lv_iload_n hx hb dX6_init_88 rfl (lv_at hl 0 rfl) ?_
                  refine lv_bipush (v := nI 23) hx hb dX6_init_89 (by decide) ?_
                  refine j_icmp_ge (tgt := 142) hx hb dX6_init_91 (by decide) (fun c91 => ?_) (fun c91 => ?_)
                  · skip
                    obtain ⟨x142, ex142⟩ : ∃ y : Nat, y = a + 1 := ⟨_, rfl⟩
                    refine lv_iinc (v := nI x142) (lv' := [(1, .int (nI x142)), (2, .int (nI b)), (0, .ref o)]) hx hb dX6_init_142 hl (k := 1) rfl (by rw [ex142]; exact nI_add _ _) (by decide) rfl (fun ls hl => ?_)
                    refine lv_goto (tgt := 71) hx hb dX6_init_145 (by decide) ?_
                    exact ih71 x142 E2 (by omega) (by rw [← q3, show 23 - b = 0 by omega, moQ, show 23 - x142 = 22 - a by omega]) (by omega) H locs hP hD hS ls (lv_sub hl [0, 2] rfl)
                  · skip
                    refine lv_aload_n hx hb dX6_init_94 rfl (lv_at hl 2 rfl) ?_
                    refine lv_iconst (v := nI 1) hx hb dX6_init_95 (by decide) ?_
                    refine lv_iload_n hx hb dX6_init_96 rfl (lv_at hl 1 rfl) ?_
                    refine j_shl hx hb dX6_init_97 ?_
                    refine lv_iconst (v := nI 1) hx hb dX6_init_98 (by decide) ?_
                    refine lv_iload_n hx hb dX6_init_99 rfl (lv_at hl 0 rfl) ?_
                    refine j_shl hx hb dX6_init_100 ?_
                    refine j_or hx hb dX6_init_101 ?_
                    refine wr_V 5 0 (rest := []) (wr := [(sa, aI G 40 X), (ia, aI G 80 (fun _ => 0)), (ka, aZ G 2 (fun _ => 0)), (ca, aI G 16 (fun _ => 0))]) ⟨hx, hb, hml, hown, hts⟩ (c_X6_layErrors l G o sa ia ka ea ca 0 (nI 0) E2 ((1 <<< a) ||| (1 <<< b)) (bd_or 23 (shl1 (by omega)) (shl1 (by omega))) H.size) (cwV 1 hts gX6_init_X6_layErrors rfl rfl rfl (by decide +kernel) ⟨Nat.le_of_ble_eq_true rfl, Nat.le_of_ble_eq_true rfl⟩) hE hP hD hS hA [0, 4] [1, 2, 3, 5] rfl rfl (by decide) (by decide) (by decide) rfl rfl rfl hl.1 rfl (Nat.le_of_ble_eq_true rfl) dX6_init_102 ⟨Nat.le_of_ble_eq_true rfl, Nat.le_of_ble_eq_true rfl⟩ (fun H locs hP hD hS => ?_)
                    have hP : va_P G.1 vwCl [(o, .inr (5, [.ref sa, .ref ia, .ref ka, .ref ea, .int (nI 0), .int (nI 0), .ref ca])), (sa, aI G 40 X), (ia, aI G 80 (fun _ => 0)), (ka, aZ G 2 (fun _ => 0)), (ea, aI G 2048 (va_up E2 (remN ((1 <<< a) ||| (1 <<< b))) ((1 <<< a) ||| (1 <<< b)))), (ca, aI G 16 (fun _ => 0))] H := hP.sub [4, 0, 1, 2, 5, 3] rfl
                    have hD : va_D A [(o, .inr (5, [.ref sa, .ref ia, .ref ka, .ref ea, .int (nI 0), .int (nI 0), .ref ca])), (sa, aI G 40 X), (ia, aI G 80 (fun _ => 0)), (ka, aZ G 2 (fun _ => 0)), (ea, aI G 2048 (va_up E2 (remN ((1 <<< a) ||| (1 <<< b))) ((1 <<< a) ||| (1 <<< b)))), (ca, aI G 16 (fun _ => 0))] := hD.sub [4, 0, 1, 2, 5, 3] (by decide) rfl
                    refine lv_iload_n hx hb dX6_init_105 rfl (lv_at hl 0 rfl) ?_
                    refine lv_iconst (v := nI 1) hx hb dX6_init_106 (by decide) ?_
                    refine j_add hx hb dX6_init_107 ?_
                    refine j_top (fun x108 ex108 => ?_)
                    refine lv_istore_n (lv' := [(3, .int (nI x108)), (2, .int (nI b)), (1, .int (nI a)), (0, .ref o)]) hx hb dX6_init_108 rfl hl (by decide) rfl (fun ls hl => ?_)
                    have loop109 : ∀ (fuel : Nat) (d : Nat) (E3 : Nat → Nat), (d ≤ 23) → (moP (22 - a) (moQ a (22 - b) (moR a b (23 - d) E3)) = moT) → 23 - d < fuel → ∀ (H : Heap) (locs : List Loc), va_P G.1 vwCl [(o, .inr (5, [.ref sa, .ref ia, .ref ka, .ref ea, .int (nI 0), .int (nI 0), .ref ca])), (sa, aI G 40 X), (ia, aI G 80 (fun _ => 0)), (ka, aZ G 2 (fun _ => 0)), (ea, aI G 2048 E3), (ca, aI G 16 (fun _ => 0))] H → va_D A [(o, .inr (5, [.ref sa, .ref ia, .ref ka, .ref ea, .int (nI 0), .int (nI 0), .ref ca])), (sa, aI G 40 X), (ia, aI G 80 (fun _ => 0)), (ka, aZ G 2 (fun _ => 0)), (ea, aI G 2048 E3), (ca, aI G 16 (fun _ => 0))] → va_S A s.heap H locs → ∀ ls : Array Slot, lv_has ls 4 [(3, .int (nI d)), (2, .int (nI b)), (1, .int (nI a)), (0, .ref o)] → W p l e ({ frames := 2, cells := 5, slots := 2186, locals := 43 } : Room) s m ([.ref o] : List Value).toArray below meth c H locs 5 2186 (MQ below (postN G (fun u : Nat × Nat × Nat × Nat × Nat => match u with | (sa, ia, ka, ea, ca) => [(o, .inr (5, [.ref sa, .ref ia, .ref ka, .ref ea, .int (nI 0), .int (nI 0), .ref ca])), (sa, aI G 40 stX0), (ia, aI G 80 (fun _ => 0)), (ka, aZ G 2 (fun _ => 0)), (ea, aI G 2048 moT), (ca, aI G 16 (fun _ => 0))]) A) ([.ref o] : List Value).toArray s 5 2186 A) (F0 m 109 ls []) := by
                      intro fuel
                      induction fuel with
                      | zero => intro d E3 h4 q4 hf; exact absurd hf (Nat.not_lt_zero _)
                      | succ fuel ih109 =>
                        intro d E3 h4 q4 hf H locs hP hD hS ls hl
                        refine lv_iload_n hx hb dX6_init_109 rfl (lv_at hl 0 rfl) ?_
                        refine lv_bipush (v := nI 23) hx hb dX6_init_110 (by decide) ?_
                        refine j_icmp_ge (tgt := 136) hx hb dX6_init_112 (by decide) (fun c112 => ?_) (fun c112 => ?_)
                        · skip
                          obtain ⟨x136, ex136⟩ : ∃ y : Nat, y = b + 1 := ⟨_, rfl⟩
                          refine lv_iinc (v := nI x136) (lv' := [(2, .int (nI x136)), (3, .int (nI d)), (1, .int (nI a)), (0, .ref o)]) hx hb dX6_init_136 hl (k := 1) rfl (by rw [ex136]; exact nI_add _ _) (by decide) rfl (fun ls hl => ?_)
                          refine lv_goto (tgt := 88) hx hb dX6_init_139 (by decide) ?_
                          exact ih88 x136 E3 (by omega) (by rw [← q4, show 23 - d = 0 by omega, moR, show 23 - x136 = 22 - b by omega]) (by omega) H locs hP hD hS ls (lv_sub hl [0, 2, 3] rfl)
                        · skip
                          refine lv_aload_n hx hb dX6_init_115 rfl (lv_at hl 3 rfl) ?_
                          refine lv_iconst (v := nI 1) hx hb dX6_init_116 (by decide) ?_
                          refine lv_iload_n hx hb dX6_init_117 rfl (lv_at hl 2 rfl) ?_
                          refine j_shl hx hb dX6_init_118 ?_
                          refine lv_iconst (v := nI 1) hx hb dX6_init_119 (by decide) ?_
                          refine lv_iload_n hx hb dX6_init_120 rfl (lv_at hl 1 rfl) ?_
                          refine j_shl hx hb dX6_init_121 ?_
                          refine j_or hx hb dX6_init_122 ?_
                          refine lv_iconst (v := nI 1) hx hb dX6_init_123 (by decide) ?_
                          refine lv_iload_n hx hb dX6_init_124 rfl (lv_at hl 0 rfl) ?_
                          refine j_shl hx hb dX6_init_125 ?_
                          refine j_or hx hb dX6_init_126 ?_
                          refine wr_V 5 0 (rest := []) (wr := [(sa, aI G 40 X), (ia, aI G 80 (fun _ => 0)), (ka, aZ G 2 (fun _ => 0)), (ca, aI G 16 (fun _ => 0))]) ⟨hx, hb, hml, hown, hts⟩ (c_X6_layErrors l G o sa ia ka ea ca 0 (nI 0) E3 (((1 <<< a) ||| (1 <<< b)) ||| (1 <<< d)) (bd_or 23 (bd_or 23 (shl1 (by omega)) (shl1 (by omega))) (shl1 (by omega))) H.size) (cwV 1 hts gX6_init_X6_layErrors rfl rfl rfl (by decide +kernel) ⟨Nat.le_of_ble_eq_true rfl, Nat.le_of_ble_eq_true rfl⟩) hE hP hD hS hA [0, 4] [1, 2, 3, 5] rfl rfl (by decide) (by decide) (by decide) rfl rfl rfl hl.1 rfl (Nat.le_of_ble_eq_true rfl) dX6_init_127 ⟨Nat.le_of_ble_eq_true rfl, Nat.le_of_ble_eq_true rfl⟩ (fun H locs hP hD hS => ?_)
                          have hP : va_P G.1 vwCl [(o, .inr (5, [.ref sa, .ref ia, .ref ka, .ref ea, .int (nI 0), .int (nI 0), .ref ca])), (sa, aI G 40 X), (ia, aI G 80 (fun _ => 0)), (ka, aZ G 2 (fun _ => 0)), (ea, aI G 2048 (va_up E3 (remN (((1 <<< a) ||| (1 <<< b)) ||| (1 <<< d))) (((1 <<< a) ||| (1 <<< b)) ||| (1 <<< d)))), (ca, aI G 16 (fun _ => 0))] H := hP.sub [4, 0, 1, 2, 5, 3] rfl
                          have hD : va_D A [(o, .inr (5, [.ref sa, .ref ia, .ref ka, .ref ea, .int (nI 0), .int (nI 0), .ref ca])), (sa, aI G 40 X), (ia, aI G 80 (fun _ => 0)), (ka, aZ G 2 (fun _ => 0)), (ea, aI G 2048 (va_up E3 (remN (((1 <<< a) ||| (1 <<< b)) ||| (1 <<< d))) (((1 <<< a) ||| (1 <<< b)) ||| (1 <<< d)))), (ca, aI G 16 (fun _ => 0))] := hD.sub [4, 0, 1, 2, 5, 3] (by decide) rfl
                          obtain ⟨x130, ex130⟩ : ∃ y : Nat, y = d + 1 := ⟨_, rfl⟩
                          refine lv_iinc (v := nI x130) (lv' := [(3, .int (nI x130)), (2, .int (nI b)), (1, .int (nI a)), (0, .ref o)]) hx hb dX6_init_130 hl (k := 0) rfl (by rw [ex130]; exact nI_add _ _) (by decide) rfl (fun ls hl => ?_)
                          refine lv_goto (tgt := 109) hx hb dX6_init_133 (by decide) ?_
                          exact ih109 x130 (va_up E3 (remN (((1 <<< a) ||| (1 <<< b)) ||| (1 <<< d))) (((1 <<< a) ||| (1 <<< b)) ||| (1 <<< d))) (by omega) (by rw [← q4, show 23 - d = (23 - x130) + 1 by omega, moR, show 22 - (23 - x130) = d by omega]) (by omega) H locs hP hD hS ls (lv_sub hl [0, 1, 2, 3] rfl)
                    exact loop109 _ x108 (va_up E2 (remN ((1 <<< a) ||| (1 <<< b))) ((1 <<< a) ||| (1 <<< b))) (by omega) (by rw [← q3, show 23 - b = (22 - b) + 1 by omega, moQ, show 22 - (22 - b) = b by omega, show 23 - x108 = 22 - b by omega]) (Nat.lt_succ_self _) H locs hP hD hS ls (lv_sub hl [0, 1, 2, 3] rfl)
              exact loop88 _ x87 (va_up E (remN (1 <<< a)) (1 <<< a)) (by omega) (by rw [← q2, show 23 - a = (22 - a) + 1 by omega, moP, show 22 - (22 - a) = a by omega, show 23 - x87 = 22 - a by omega]) (Nat.lt_succ_self _) H locs hP hD hS ls (lv_sub hl [0, 1, 2] rfl)
        exact loop71 _ 0 (fun _ => 0) (by omega) rfl (Nat.lt_succ_self _) H locs hP hD hS ls (lv_sub hl [0, 1] rfl)
      · skip
        refine lv_aload_n hx hb dX6_init_52 rfl (lv_at hl 1 rfl) ?_
        refine va_get (D := G.1) (ci := 5) (v := .ref sa) (C := RX6) (T := TX6) (N := 7) hx hb hts (fun w h => List.mem_cons_of_mem _ (List.mem_append_right _ h)) hown hE.1 hP 0 rfl rfl 0 (by decide) (hts (.fieldLink RX6 7 "TripleTrapModel" "state" "[I") (List.mem_of_getElem? (i := 5) rfl)) (fun _ h9 => h9) rfl dX6_init_53 ?_
        refine lv_bipush (v := nI 17) hx hb dX6_init_56 (by decide) ?_
        refine lv_iload_n hx hb dX6_init_58 rfl (lv_at hl 0 rfl) ?_
        refine j_add hx hb dX6_init_59 ?_
        refine lv_bipush (v := nI 9) hx hb dX6_init_60 (by decide) ?_
        refine j_iast hx hb hE hP hD hS 1 rfl dX6_init_62 (fun H locs hP hD hS => ?_)
        have hP : va_P G.1 vwCl [(o, .inr (5, [.ref sa, .ref ia, .ref ka, .ref ea, .int (nI 0), .int (nI 0), .ref ca])), (sa, aI G 40 (va_up X (17 + k) 9)), (ia, aI G 80 (fun _ => 0)), (ka, aZ G 2 (fun _ => 0)), (ea, aI G 2048 (fun _ => 0)), (ca, aI G 16 (fun _ => 0))] H := hP
        have hD : va_D A [(o, .inr (5, [.ref sa, .ref ia, .ref ka, .ref ea, .int (nI 0), .int (nI 0), .ref ca])), (sa, aI G 40 (va_up X (17 + k) 9)), (ia, aI G 80 (fun _ => 0)), (ka, aZ G 2 (fun _ => 0)), (ea, aI G 2048 (fun _ => 0)), (ca, aI G 16 (fun _ => 0))] := hD
        obtain ⟨x63, ex63⟩ : ∃ y : Nat, y = k + 1 := ⟨_, rfl⟩
        refine lv_iinc (v := nI x63) (lv' := [(1, .int (nI x63)), (0, .ref o)]) hx hb dX6_init_63 hl (k := 0) rfl (by rw [ex63]; exact nI_add _ _) (by decide) rfl (fun ls hl => ?_)
        refine lv_goto (tgt := 46) hx hb dX6_init_66 (by decide) ?_
        exact ih46 x63 (va_up X (17 + k) 9) (by omega) (by rw [ex63, ninL, ← q1]) (by omega) H locs hP hD hS ls (lv_sub hl [0, 1] rfl)
  exact loop46 _ 0 (fun _ => 0) (by omega) rfl (Nat.lt_succ_self _) H locs hP hD hS ls (lv_sub hl [0, 1] rfl)
