/-! THE CLAIM OUT OF ONE WALK OF THE LAW'S BODY. Your part is whole_start (and what it stands on); all else here is the same for every law, but numbers. -/
def R_law : String := "TripleTrapLaw"
def lw_P (b : Addr) (xs : List Int32) (args : Array Value) (s : State) : Prop := args = #[.ref b] ∧ s.IntsAt b xs ∧ xs.length ≤ 2048 ∧ (Jvm.Cond.and given_1 narrow_1).before args s = true
def lw_Q (_ : Array Value) (s : State) (o : Outcome) (t : State) : Prop := o = .returned (some (.int 1)) ∧ Framed s o t [] 600000 7302250
def lw_Z (below : List Frame) (a : Array Value) (s : State) : State → Prop := fun t => ∃ o, t.status = .running ∧ Ended t below o ∧ lw_Q a s o t
/-- the law's own end, with 1 on the stack, nothing written that was there before, its room as the claim has it -/
theorem lw_ret {p : Program} {l : Launch} {e : Env} {s : State} {m : MethodId} {below : List Frame} {meth : Method} {c : Code} {b : Nat} (hx : p.tables.exec = Jvm.exec) (hb : c.code = code) (hr : meth.sig.returnType = ret) (hlocks : meth.locks = false) {pc : Nat} {H : Heap} {ls : Array Slot} (hdg : decode code pc = .ok (.ireturn, 1)) : W p l e room_1 s m #[Value.ref b] below meth c H [] 600000 7302250 (lw_Z below #[Value.ref b] s) (F0 m pc ls [.int 1]) := by
  intro T hT X
  obtain ⟨fs, hret, hrun, hended, hW, hframe⟩ := X.leave (v := some (.int 1)) (hlocks := hlocks) (fun h => by rw [hr] at h; cases h)
  have hmeth' : T.vm.method? m = some meth := X.method'
  refine ⟨T.setFrames fs, ?_, .returned (some (.int 1)), hrun, hended, rfl, ⟨_, rfl⟩, hW, hframe⟩
  jvm_step X.here [X.here.top, hx, hb, hdg, hmeth', hr, ret, narrow_b1]
  (try refine ⟨rfl, ?_⟩); (try refine ⟨rfl, ?_⟩)
  first | (intro acts; rw [hret _ acts rfl rfl rfl]) | rw [hret _ _ rfl rfl rfl]
  exact Steps.refl _
/-- what holds at the law's entry: the machine, the code, the tables' words (any of lw_tbl by 'hts w (by decide +kernel)'), the script of L ints xs at the cell b, what the Statement gives of the start (any of its parts by flat_of_before) -/
def lw_At (p : Program) (s : State) (m : MethodId) (meth : Method) (c : Code) (b L : Nat) (xs : Nat → Int32) : Prop :=
  p.tables.exec = Jvm.exec ∧ c.code = code ∧ meth.sig.returnType = ret ∧ c.maxLocals = 4 ∧ s.vm.findClass R_law = some m.cls ∧ (∀ w ∈ lw_tbl, w.before #[Value.ref b] s = true) ∧ va_X b L xs s s.heap ∧ b < s.heap.size ∧ meth.locks = false ∧ (Jvm.Cond.and given_1 narrow_1).before #[Value.ref b] s = true
theorem nest_onT {w : Cond} (h : isNest w = true) : w.onTables = true := by
  cases w <;> first | rfl | (simp [isNest] at h; done)
set_option maxRecDepth 20000 in
theorem nestW_in : ∀ w ∈ nestW, w ∈ lw_tbl := in_places _ [48, 52, 59, 69, 75, 80, 82, 84, 97, 102, 107, 109, 137, 146, 157, 165, 170, 186, 194, 200, 208, 224, 237, 242, 246, 253, 257, 262, 275, 280, 292, 316, 324, 328, 332] (by decide +kernel)
theorem LC_sub {x : Int32} : ∃ j : Nat, j < 32 ∧ x &&& nI 31 = nI j := pk_andE x 5 rfl
theorem gt_sub {i L : Nat} (hi : i < 1073741824) (hL : L < 1073741824) : nI L - nI 4 < nI i ↔ L < i + 4 := by
  rw [Int32.lt_iff_toInt_lt, pk_sub_toInt hL (by decide), nI_toInt (by omega)]
  omega
set_option maxHeartbeats 4000000 in
set_option maxRecDepth 100000 in
/-- the law's loop: at its head, the two states agree -/
theorem law_loop {p : Program} {l : Launch} {e : Env} {s : State} {m : MethodId} {below : List Frame} {meth : Method} {c : Code} {b L at0 : Nat} {xs : Nat → Int32} {G : EG} {q : Nat → Nat} (C0 : LC p s m c b L xs (fun z => s.heap.size ≤ z) G at0) (hr : meth.sig.returnType = ret) (hlocks : meth.locks = false) : ∀ (fuel i : Nat), i ≤ L + 4 → L + 4 - i < fuel → LK p l e s m below meth c b i (fun z => s.heap.size ≤ z) G q (lw_Z below #[Value.ref b] s) 18 := by
  intro fuel
  induction fuel with
  | zero => intro i _ hf; exact absurd hf (Nat.not_lt_zero _)
  | succ fuel ih =>
    intro i hiL hf
    intro kp n0 F S B V n1 F1 S1 B1 V1 n2 F2 S2 B2 V2 C tr fi X Y K D hR H locs hP hD hS ls hl
    obtain ⟨hx, hb, hml, hown, hts, hX, hbl, hbA, hE, hA, hZ, hT, hL⟩ := id C0
    refine lv_iload_n hx hb dL_law_18 rfl (lv_at hl 0 rfl) ?_
    refine lv_aload_n hx hb dL_law_19 rfl (lv_at hl 3 rfl) ?_
    refine va_slen hx hb hX hbl hbA hS dL_law_20 ?_
    refine lv_iconst (v := nI 4) hx hb dL_law_21 (by decide) ?_
    refine lv_isub hx hb dL_law_22 ?_
    refine lv_icmp_gt (tgt := 761) hx hb dL_law_23 (by decide) (fun c23 => ?_) (fun c23 => ?_)
    · refine lv_iconst (v := nI 1) hx hb dL_law_761 (by decide) ?_
      refine va_forget (fun z hz => hS.2.2 z hz) ?_
      refine W.widen (k := 600000) (n := 7302250) (Nat.le_of_ble_eq_true rfl) (Nat.le_of_ble_eq_true rfl) ?_
      exact lw_ret hx hb hr hlocks dL_law_762
    have hi4 : i + 4 ≤ L := by
      rcases Nat.lt_or_ge L (i + 4) with g | g
      · exact absurd ((gt_sub (by omega) (by omega)).mpr g) c23
      · exact g
    have kc : LK p l e s m below meth c b i (fun z => s.heap.size ≤ z) G q (lw_Z below #[Value.ref b] s) 755 := by
      intro kp' n0' F' S' B' V' n1' F1' S1' B1' V1' n2' F2' S2' B2' V2' C' tr' fi' X' Y' K' D' hR H locs hP hD hS ls hl
      refine lv_iinc (v := nI (i + 4)) (lv' := [(3, .int (nI (i + 4))), (2, .ref (q 26)), (1, .ref (q 0)), (0, .ref b)]) hx hb dL_law_755 hl (k := 0) rfl (nI_add _ _) (by decide) rfl (fun ls hl => ?_)
      refine lv_goto (tgt := 18) hx hb dL_law_758 (by decide) ?_
      exact ih (i + 4) (by omega) (by omega) kp' n0' F' S' B' V' n1' F1' S1' B1' V1' n2' F2' S2' B2' V2' C' tr' fi' X' Y' K' D' hR H locs hP hD hS ls hl
    refine lv_aload_n hx hb dL_law_26 rfl (lv_at hl 3 rfl) ?_
    refine lv_iload_n hx hb dL_law_27 rfl (lv_at hl 0 rfl) ?_
    refine j_sld hx hb hX hbl hbA hS (show i < L by omega) hL dL_law_28 ?_
    refine lv_bipush (v := nI 31) hx hb dL_law_29 (by decide) ?_
    refine lv_iand hx hb dL_law_31 ?_
    obtain ⟨j, hj, ej⟩ := LC_sub (x := xs i)
    rw [ej]
    by_cases cj0 : j = 0
    · subst cj0
      refine lv_tableIn (off := 100) (tgt := 132) hx hb dL_law_32 (by decide) (by decide) rfl (by decide) ?_
      exact law_made C0 hi4 hR hP hD hS hl kc
    by_cases cj1 : j = 1
    · subst cj1
      refine lv_tableIn (off := 123) (tgt := 155) hx hb dL_law_32 (by decide) (by decide) rfl (by decide) ?_
      exact law_rest C0 hi4 hR hP hD hS hl kc
    by_cases cj2 : j = 2
    · subst cj2
      refine lv_tableIn (off := 146) (tgt := 178) hx hb dL_law_32 (by decide) (by decide) rfl (by decide) ?_
      exact law_of C0 hi4 hR hP hD hS hl kc
    by_cases cj3 : j = 3
    · subst cj3
      refine lv_tableIn (off := 179) (tgt := 211) hx hb dL_law_32 (by decide) (by decide) rfl (by decide) ?_
      exact law_around C0 hi4 hR hP hD hS hl kc
    by_cases cj4 : j = 4
    · subst cj4
      refine lv_tableIn (off := 212) (tgt := 244) hx hb dL_law_32 (by decide) (by decide) rfl (by decide) ?_
      exact law_turned C0 hi4 hR hP hD hS hl kc
    by_cases cj5 : j = 5
    · subst cj5
      refine lv_tableIn (off := 245) (tgt := 277) hx hb dL_law_32 (by decide) (by decide) rfl (by decide) ?_
      exact law_trapped C0 hi4 hR hP hD hS hl kc
    by_cases cj6 : j = 6
    · subst cj6
      refine lv_tableIn (off := 278) (tgt := 310) hx hb dL_law_32 (by decide) (by decide) rfl (by decide) ?_
      exact law_wide C0 hi4 hR hP hD hS hl kc
    by_cases cj7 : j = 7
    · subst cj7
      refine lv_tableIn (off := 301) (tgt := 333) hx hb dL_law_32 (by decide) (by decide) rfl (by decide) ?_
      exact law_read C0 hi4 hR hP hD hS hl kc
    by_cases cj8 : j = 8
    · subst cj8
      refine lv_tableIn (off := 334) (tgt := 366) hx hb dL_law_32 (by decide) (by decide) rfl (by decide) ?_
      exact law_keeps C0 hi4 hR hP hD hS hl kc
    by_cases cj9 : j = 9
    · subst cj9
      refine lv_tableIn (off := 367) (tgt := 399) hx hb dL_law_32 (by decide) (by decide) rfl (by decide) ?_
      exact law_moved C0 hi4 hR hP hD hS hl kc
    by_cases cj10 : j = 10
    · subst cj10
      refine lv_tableIn (off := 410) (tgt := 442) hx hb dL_law_32 (by decide) (by decide) rfl (by decide) ?_
      exact law_move C0 hi4 hR hP hD hS hl kc
    by_cases cj11 : j = 11
    · subst cj11
      refine lv_tableIn (off := 443) (tgt := 475) hx hb dL_law_32 (by decide) (by decide) rfl (by decide) ?_
      exact law_drop C0 hi4 hR hP hD hS hl kc
    by_cases cj12 : j = 12
    · subst cj12
      refine lv_tableIn (off := 466) (tgt := 498) hx hb dL_law_32 (by decide) (by decide) rfl (by decide) ?_
      exact law_told C0 hi4 hR hP hD hS hl kc
    by_cases cj13 : j = 13
    · subst cj13
      refine lv_tableIn (off := 499) (tgt := 531) hx hb dL_law_32 (by decide) (by decide) rfl (by decide) ?_
      exact law_freed C0 hi4 hR hP hD hS hl kc
    by_cases cj14 : j = 14
    · subst cj14
      refine lv_tableIn (off := 532) (tgt := 564) hx hb dL_law_32 (by decide) (by decide) rfl (by decide) ?_
      exact law_open C0 hi4 hR hP hD hS hl kc
    by_cases cj15 : j = 15
    · subst cj15
      refine lv_tableIn (off := 555) (tgt := 587) hx hb dL_law_32 (by decide) (by decide) rfl (by decide) ?_
      exact law_sure C0 hi4 hR hP hD hS hl kc
    by_cases cj16 : j = 16
    · subst cj16
      refine lv_tableIn (off := 588) (tgt := 620) hx hb dL_law_32 (by decide) (by decide) rfl (by decide) ?_
      exact law_weak C0 hi4 hR hP hD hS hl kc
    by_cases cj17 : j = 17
    · subst cj17
      refine lv_tableIn (off := 611) (tgt := 643) hx hb dL_law_32 (by decide) (by decide) rfl (by decide) ?_
      exact law_chosen C0 hi4 hR hP hD hS hl kc
    by_cases cj18 : j = 18
    · subst cj18
      refine lv_tableIn (off := 654) (tgt := 686) hx hb dL_law_32 (by decide) (by decide) rfl (by decide) ?_
      exact law_image C0 hi4 hR hP hD hS hl kc
    by_cases cj19 : j = 19
    · subst cj19
      refine lv_tableIn (off := 677) (tgt := 709) hx hb dL_law_32 (by decide) (by decide) rfl (by decide) ?_
      exact law_restore C0 hi4 hR hP hD hS hl kc
    by_cases cj20 : j = 20
    · subst cj20
      refine lv_tableIn (off := 700) (tgt := 732) hx hb dL_law_32 (by decide) (by decide) rfl (by decide) ?_
      exact law_count C0 hi4 hR hP hD hS hl kc
    refine lv_tableOut (tgt := 755) hx hb dL_law_32 (by rw [nI_toInt (by omega)]; omega) (by decide) ?_
    exact kc kp n0 F S B V n1 F1 S1 B1 V1 n2 F2 S2 B2 V2 C tr fi X Y K D hR H locs hP hD hS ls hl
theorem arr_int {args : Array Value} {s : State} {ty : FieldType} (h : (Cond.arrayClass ty).before args s = true) (hty : va_RA s = fun cA t => va_RA s cA t) : ∃ cA : ClassId, ArrOfT s cA ty ∧ s.vm.findClass ("[" ++ ty.toString) = some cA := by
  obtain ⟨cA, kA, comp, hf, hk, hkind⟩ := Cond.arrayClass_spec h
  exact ⟨cA, fun n z => ⟨fun k h => (by cases h), kA, hk, comp, hkind⟩, hf⟩
set_option maxRecDepth 100000 in
theorem ar_words : (List.range 96).map (fun j => Cond.eq (.elem (.static "TripleTrap" "AROUND" "[I") (.int (Int32.ofNat j))) (.int (nI (arT j)))) = ((flatC (Jvm.Cond.and given_1 narrow_1)).drop 7).take 96 := by decide +kernel
set_option maxHeartbeats 4000000 in
set_option maxRecDepth 100000 in
/-- the law, from its entry -/
theorem whole_start {p : Program} {e : Env} {s : State} {m : MethodId} {below : List Frame} {meth : Method} {c : Code} (l : Launch) (hflags : l.flags = flags0) {b L : Nat} {xs : Nat → Int32} (hL : L ≤ 2048) (C0 : lw_At p s m meth c b L xs) : W p l e room_1 s m #[Value.ref b] below meth c s.heap [] 0 0 (lw_Z below #[Value.ref b] s) (entryFrame m ([Value.ref b] : List Value).toArray 4) := by
  obtain ⟨hx, hb, hr, hml, hown, hts, hX, hbl, hlocks, hgv⟩ := id C0
  have hown : s.vm.findClass RL = some m.cls := hown
  have hA : ∀ q : Nat, s.heap.size ≤ q → (fun q : Nat => s.heap.size ≤ q) q := fun _ h => h
  have hbA : ¬ (fun q : Nat => s.heap.size ≤ q) b := Nat.not_le.mpr hbl
  have htl : ∀ w ∈ wsL_law, w.before #[Value.ref b] s = true := fun w h => hts w (wsL_law_in w h)
  have hfl := flat_of_before _ hgv
  have hnA : ∀ a : Nat, a < s.heap.size → ¬ (fun q : Nat => s.heap.size ≤ q) a := fun a h => Nat.not_le.mpr h
  obtain ⟨at0, hat, hT⟩ := va_Tof (tm := .static "TripleTrap" "AROUND" "[I") (ty := .int) (N := 96) (f := fun i => .int (nI (arT i))) (A := fun q : Nat => s.heap.size ≤ q) (by decide) (hfl _ (by decide +kernel)) (va_eqt (hfl _ (by decide +kernel))) (fun j hj => va_eqt (hfl _ (va_run ar_words j hj))) hnA
  have hZ := va_Zref (A := fun q : Nat => s.heap.size ≤ q) (hts (.laysStatic "TripleTrap" "AROUND" "[I") (List.mem_of_getElem? (i := 181) (by decide +kernel))) (htl (.initialized RX5) (List.mem_of_getElem? (i := 2) rfl)) hat hnA
  obtain ⟨k1, j1, hk1⟩ := u_known (C := RX1) (T := TX1) (N := 2) (n := 2) hts inX1 (hts (.instantiable RX1 2) (wsL_law_in _ (List.mem_of_getElem? (i := 17) rfl)))
  obtain ⟨k2, j2, hk2⟩ := u_known (C := RX2) (T := TX2) (N := 1) (n := 1) hts inX2 (hts (.instantiable RX2 1) (wsL_law_in _ (List.mem_of_getElem? (i := 13) rfl)))
  obtain ⟨k3, j3, hk3⟩ := u_known (C := RX3) (T := TX3) (N := 4) (n := 4) hts inX3 (hts (.instantiable RX3 4) (wsL_law_in _ (List.mem_of_getElem? (i := 41) rfl)))
  obtain ⟨k4, j4, hk4⟩ := u_known (C := RX4) (T := TX4) (N := 1) (n := 1) hts inX4 (hts (.instantiable RX4 1) (wsL_law_in _ (List.mem_of_getElem? (i := 45) rfl)))
  obtain ⟨k5, j5, hk5⟩ := u_known (C := RX5) (T := TX5) (N := 5) (n := 5) hts inX5 (hts (.instantiable RX5 5) (wsL_law_in _ (List.mem_of_getElem? (i := 1) rfl)))
  obtain ⟨k6, j6, hk6⟩ := u_known (C := RX6) (T := TX6) (N := 7) (n := 7) hts inX6 (hts (.instantiable RX6 7) (wsL_law_in _ (List.mem_of_getElem? (i := 4) rfl)))
  obtain ⟨cI, hI1, hI2⟩ := arr_int (htl (.arrayClass .int) (List.mem_of_getElem? (i := 22) rfl)) rfl
  obtain ⟨cZ, hZ1, hZ2⟩ := arr_int (htl (.arrayClass .boolean) (List.mem_of_getElem? (i := 65) rfl)) rfl
  have hAO : va_AO "TripleTrap$Held" s := va_AO.of (hts (.arrayOver (.object "TripleTrap$Held")) (List.mem_of_getElem? (i := 115) (by decide +kernel)))
  obtain ⟨cH, cO, kO, hO1, hO2, hO3, hO4, hO5⟩ := Cond.arrayOver_spec hAO
  obtain ⟨G, hG, hG1, hG2, hG3⟩ : ∃ G : EG, (∀ (k : Nat) (q : vw_C), vwCl[k]? = some q → u_Kn s q.1 q.2.1 q.2.2 (G.1.1 k) (G.1.2 k)) ∧ G.2.1 = cI ∧ G.2.2.1 = cZ ∧ G.2.2.2 = cO := by
    refine ⟨((fun z => match z with | 0 => k1 | 1 => k2 | 2 => k3 | 3 => k4 | 4 => k5 | 5 => k6 | _ => k6, fun z => match z with | 0 => j1 | 1 => j2 | 2 => j3 | 3 => j4 | 4 => j5 | 5 => j6 | _ => j6), cI, cZ, cO), ?_, rfl, rfl, rfl⟩
    intro k q hq
    match k, hq with
    | 0, hq => cases hq; exact hk1
    | 1, hq => cases hq; exact hk2
    | 2, hq => cases hq; exact hk3
    | 3, hq => cases hq; exact hk4
    | 4, hq => cases hq; exact hk5
    | 5, hq => cases hq; exact hk6
    | k + 6, hq => simp [vwCl] at hq
  subst hG1; subst hG2; subst hG3
  have hE : Ev G s := by
    refine ⟨⟨hG, fun k q hq => ?_⟩, fun w hw => ?_, hAO⟩
    · match k, hq with
      | 0, hq => cases hq; exact ⟨hI1, hI2⟩
      | 1, hq => cases hq; exact ⟨hZ1, hZ2⟩
      | 2, hq => cases hq; exact ⟨fun n z => ⟨fun k h => (by cases h), kO, hO3, cH, hO4⟩, kO, cH, hO3, hO4, hO1, hO5⟩
      | k + 3, hq => simp at hq
    · exact va_Nw.of (nest_onT (List.all_eq_true.mp nestW_ok w hw)) (hts w (nestW_in w hw))
  have hS : va_S (fun q : Nat => s.heap.size ≤ q) s.heap s.heap [] := va_S.rf
  have hP : va_P G.1 vwCl [] s.heap := fun k q h => by simp at h
  have hD : va_D (fun q : Nat => s.heap.size ≤ q) [] := ⟨fun i j p q h => by simp at h, fun k q h => by simp at h⟩
  have hl := lv_entry ([.ref b]) (n := 4) (Nat.le_of_ble_eq_true rfl)
  rw [lg_entry_eq]
  generalize (lg_sl ([.ref b]) ++ List.replicate (4 - (lg_sl ([.ref b])).length) Slot.unset).toArray = ls at hl ⊢
  have hl : lv_has ls 4 [(0, .ref b)] := hl
  refine va_new (ci := 4) (fs := [.null, .null, .null, .int (nI 0), .null]) (C := RX5) (T := TX5) (N := 5) hx hb htl inlX5 tyX5 tyX5_ok hown (htl (.classLink RL 7 RX5) (List.mem_of_getElem? (i := 0) rfl)) (htl (.instantiable RX5 5) (List.mem_of_getElem? (i := 1) rfl)) (htl (.initialized RX5) (List.mem_of_getElem? (i := 2) rfl)) hE.1 hP hD hS hA rfl (fun j hj => by rcases (show j = 0 ∨ j = 1 ∨ j = 2 ∨ j = 3 ∨ j = 4 by omega) with rfl | rfl | rfl | rfl | rfl <;> rfl) (Nat.le_of_ble_eq_true rfl) (Nat.le_of_ble_eq_true rfl) dL_law_0 (fun o H hP hD hS => ?_)
  have hP : va_P G.1 vwCl [(o, .inr (4, [.null, .null, .null, .int (nI 0), .null]))] H := hP
  have hD : va_D (fun q : Nat => s.heap.size ≤ q) [(o, .inr (4, [.null, .null, .null, .int (nI 0), .null]))] := hD
  refine W.cs (cells' := 1) (slots' := 5) rfl rfl ?_
  refine lv_dup hx hb dL_law_3 rfl ?_
  refine cr_I (As := []) (rest := [.ref o]) (wr := []) ⟨hx, hb, hml, hown, htl⟩ (c_X5_init l G o H.size) (cwI 0 htl gL_law_X5_init rfl rfl rfl (htl (.initialized RX5) (List.mem_of_getElem? (i := 2) rfl)) (htl (.methodLink RL 9 yX5_init) (List.mem_of_getElem? (i := 6) rfl)) (htl (.instanceMethod yX5_init) (List.mem_of_getElem? (i := 7) rfl)) rfl (by decide +kernel) ⟨Nat.le_of_ble_eq_true rfl, Nat.le_of_ble_eq_true rfl⟩) hE hP hD hS hA [0] [] rfl rfl (by decide) (by decide) (by decide) rfl hl.1 rfl (Nat.le_of_ble_eq_true rfl) dL_law_4 ⟨Nat.le_of_ble_eq_true rfl, Nat.le_of_ble_eq_true rfl⟩ (fun u H locs hP hD hS => ?_)
  obtain ⟨me, et, h0, m0, f0, s0, b0, t0, l0, im, h1, m1, f1, s1, b1, t1, l1, h2, m2, f2, s2, b2, t2, l2, ta⟩ := u
  have hP : va_P G.1 vwCl [(o, .inr (4, [.ref me, .ref h0, .ref im, .int (nI 0), .ref ta])), (me, .inr (1, [.ref et])), (et, aI G 2048 mdT), (h0, .inr (0, [.ref m0, .ref t0])), (m0, .inr (2, [.int (nI 0), .ref f0, .ref s0, .ref b0])), (f0, aI G 8 (fun _ => 0)), (s0, aI G 8 (fun _ => 0)), (b0, aI G 8 (fun _ => 0)), (t0, .inr (3, [.ref l0])), (l0, aI G 23 (fun _ => 9)), (im, aO G 2 (imF h1 h2)), (h1, .inr (0, [.ref m1, .ref t1])), (m1, .inr (2, [.int (nI 0), .ref f1, .ref s1, .ref b1])), (f1, aI G 8 (fun _ => 0)), (s1, aI G 8 (fun _ => 0)), (b1, aI G 8 (fun _ => 0)), (t1, .inr (3, [.ref l1])), (l1, aI G 23 (fun _ => 9)), (h2, .inr (0, [.ref m2, .ref t2])), (m2, .inr (2, [.int (nI 0), .ref f2, .ref s2, .ref b2])), (f2, aI G 8 (fun _ => 0)), (s2, aI G 8 (fun _ => 0)), (b2, aI G 8 (fun _ => 0)), (t2, .inr (3, [.ref l2])), (l2, aI G 23 (fun _ => 9)), (ta, aI G 16 (fun _ => 0))] H := hP
  have hD : va_D (fun q : Nat => s.heap.size ≤ q) [(o, .inr (4, [.ref me, .ref h0, .ref im, .int (nI 0), .ref ta])), (me, .inr (1, [.ref et])), (et, aI G 2048 mdT), (h0, .inr (0, [.ref m0, .ref t0])), (m0, .inr (2, [.int (nI 0), .ref f0, .ref s0, .ref b0])), (f0, aI G 8 (fun _ => 0)), (s0, aI G 8 (fun _ => 0)), (b0, aI G 8 (fun _ => 0)), (t0, .inr (3, [.ref l0])), (l0, aI G 23 (fun _ => 9)), (im, aO G 2 (imF h1 h2)), (h1, .inr (0, [.ref m1, .ref t1])), (m1, .inr (2, [.int (nI 0), .ref f1, .ref s1, .ref b1])), (f1, aI G 8 (fun _ => 0)), (s1, aI G 8 (fun _ => 0)), (b1, aI G 8 (fun _ => 0)), (t1, .inr (3, [.ref l1])), (l1, aI G 23 (fun _ => 9)), (h2, .inr (0, [.ref m2, .ref t2])), (m2, .inr (2, [.int (nI 0), .ref f2, .ref s2, .ref b2])), (f2, aI G 8 (fun _ => 0)), (s2, aI G 8 (fun _ => 0)), (b2, aI G 8 (fun _ => 0)), (t2, .inr (3, [.ref l2])), (l2, aI G 23 (fun _ => 9)), (ta, aI G 16 (fun _ => 0))] := hD
  refine W.cs (cells' := 27) (slots' := 2257) rfl rfl ?_
  obtain ⟨hP, hD⟩ := PD_arr (F' := errT) hP hD 2 rfl mdT_eq
  have hP : va_P G.1 vwCl [(o, .inr (4, [.ref me, .ref h0, .ref im, .int (nI 0), .ref ta])), (me, .inr (1, [.ref et])), (et, aI G 2048 errT), (h0, .inr (0, [.ref m0, .ref t0])), (m0, .inr (2, [.int (nI 0), .ref f0, .ref s0, .ref b0])), (f0, aI G 8 (fun _ => 0)), (s0, aI G 8 (fun _ => 0)), (b0, aI G 8 (fun _ => 0)), (t0, .inr (3, [.ref l0])), (l0, aI G 23 (fun _ => 9)), (im, aO G 2 (imF h1 h2)), (h1, .inr (0, [.ref m1, .ref t1])), (m1, .inr (2, [.int (nI 0), .ref f1, .ref s1, .ref b1])), (f1, aI G 8 (fun _ => 0)), (s1, aI G 8 (fun _ => 0)), (b1, aI G 8 (fun _ => 0)), (t1, .inr (3, [.ref l1])), (l1, aI G 23 (fun _ => 9)), (h2, .inr (0, [.ref m2, .ref t2])), (m2, .inr (2, [.int (nI 0), .ref f2, .ref s2, .ref b2])), (f2, aI G 8 (fun _ => 0)), (s2, aI G 8 (fun _ => 0)), (b2, aI G 8 (fun _ => 0)), (t2, .inr (3, [.ref l2])), (l2, aI G 23 (fun _ => 9)), (ta, aI G 16 (fun _ => 0))] H := hP
  have hD : va_D (fun q : Nat => s.heap.size ≤ q) [(o, .inr (4, [.ref me, .ref h0, .ref im, .int (nI 0), .ref ta])), (me, .inr (1, [.ref et])), (et, aI G 2048 errT), (h0, .inr (0, [.ref m0, .ref t0])), (m0, .inr (2, [.int (nI 0), .ref f0, .ref s0, .ref b0])), (f0, aI G 8 (fun _ => 0)), (s0, aI G 8 (fun _ => 0)), (b0, aI G 8 (fun _ => 0)), (t0, .inr (3, [.ref l0])), (l0, aI G 23 (fun _ => 9)), (im, aO G 2 (imF h1 h2)), (h1, .inr (0, [.ref m1, .ref t1])), (m1, .inr (2, [.int (nI 0), .ref f1, .ref s1, .ref b1])), (f1, aI G 8 (fun _ => 0)), (s1, aI G 8 (fun _ => 0)), (b1, aI G 8 (fun _ => 0)), (t1, .inr (3, [.ref l1])), (l1, aI G 23 (fun _ => 9)), (h2, .inr (0, [.ref m2, .ref t2])), (m2, .inr (2, [.int (nI 0), .ref f2, .ref s2, .ref b2])), (f2, aI G 8 (fun _ => 0)), (s2, aI G 8 (fun _ => 0)), (b2, aI G 8 (fun _ => 0)), (t2, .inr (3, [.ref l2])), (l2, aI G 23 (fun _ => 9)), (ta, aI G 16 (fun _ => 0))] := hD
  refine lv_astore_n (lv' := [(1, .ref o), (0, .ref b)]) hx hb dL_law_7 rfl hl (by decide) rfl (fun ls hl => ?_)
  refine va_new (ci := 5) (fs := [.null, .null, .null, .null, .int (nI 0), .int (nI 0), .null]) (C := RX6) (T := TX6) (N := 7) hx hb htl inlX6 tyX6 tyX6_ok hown (htl (.classLink RL 10 RX6) (List.mem_of_getElem? (i := 3) rfl)) (htl (.instantiable RX6 7) (List.mem_of_getElem? (i := 4) rfl)) (htl (.initialized RX6) (List.mem_of_getElem? (i := 5) rfl)) hE.1 hP hD hS hA rfl (fun j hj => by rcases (show j = 0 ∨ j = 1 ∨ j = 2 ∨ j = 3 ∨ j = 4 ∨ j = 5 ∨ j = 6 by omega) with rfl | rfl | rfl | rfl | rfl | rfl | rfl <;> rfl) (Nat.le_of_ble_eq_true rfl) (Nat.le_of_ble_eq_true rfl) dL_law_8 (fun mo H hP hD hS => ?_)
  have hP : va_P G.1 vwCl [(o, .inr (4, [.ref me, .ref h0, .ref im, .int (nI 0), .ref ta])), (me, .inr (1, [.ref et])), (et, aI G 2048 errT), (h0, .inr (0, [.ref m0, .ref t0])), (m0, .inr (2, [.int (nI 0), .ref f0, .ref s0, .ref b0])), (f0, aI G 8 (fun _ => 0)), (s0, aI G 8 (fun _ => 0)), (b0, aI G 8 (fun _ => 0)), (t0, .inr (3, [.ref l0])), (l0, aI G 23 (fun _ => 9)), (im, aO G 2 (imF h1 h2)), (h1, .inr (0, [.ref m1, .ref t1])), (m1, .inr (2, [.int (nI 0), .ref f1, .ref s1, .ref b1])), (f1, aI G 8 (fun _ => 0)), (s1, aI G 8 (fun _ => 0)), (b1, aI G 8 (fun _ => 0)), (t1, .inr (3, [.ref l1])), (l1, aI G 23 (fun _ => 9)), (h2, .inr (0, [.ref m2, .ref t2])), (m2, .inr (2, [.int (nI 0), .ref f2, .ref s2, .ref b2])), (f2, aI G 8 (fun _ => 0)), (s2, aI G 8 (fun _ => 0)), (b2, aI G 8 (fun _ => 0)), (t2, .inr (3, [.ref l2])), (l2, aI G 23 (fun _ => 9)), (ta, aI G 16 (fun _ => 0)), (mo, .inr (5, [.null, .null, .null, .null, .int (nI 0), .int (nI 0), .null]))] H := hP
  have hD : va_D (fun q : Nat => s.heap.size ≤ q) [(o, .inr (4, [.ref me, .ref h0, .ref im, .int (nI 0), .ref ta])), (me, .inr (1, [.ref et])), (et, aI G 2048 errT), (h0, .inr (0, [.ref m0, .ref t0])), (m0, .inr (2, [.int (nI 0), .ref f0, .ref s0, .ref b0])), (f0, aI G 8 (fun _ => 0)), (s0, aI G 8 (fun _ => 0)), (b0, aI G 8 (fun _ => 0)), (t0, .inr (3, [.ref l0])), (l0, aI G 23 (fun _ => 9)), (im, aO G 2 (imF h1 h2)), (h1, .inr (0, [.ref m1, .ref t1])), (m1, .inr (2, [.int (nI 0), .ref f1, .ref s1, .ref b1])), (f1, aI G 8 (fun _ => 0)), (s1, aI G 8 (fun _ => 0)), (b1, aI G 8 (fun _ => 0)), (t1, .inr (3, [.ref l1])), (l1, aI G 23 (fun _ => 9)), (h2, .inr (0, [.ref m2, .ref t2])), (m2, .inr (2, [.int (nI 0), .ref f2, .ref s2, .ref b2])), (f2, aI G 8 (fun _ => 0)), (s2, aI G 8 (fun _ => 0)), (b2, aI G 8 (fun _ => 0)), (t2, .inr (3, [.ref l2])), (l2, aI G 23 (fun _ => 9)), (ta, aI G 16 (fun _ => 0)), (mo, .inr (5, [.null, .null, .null, .null, .int (nI 0), .int (nI 0), .null]))] := hD
  refine W.cs (cells' := 28) (slots' := 2264) rfl rfl ?_
  refine lv_dup hx hb dL_law_11 rfl ?_
  refine cr_I (As := []) (rest := [.ref mo]) (wr := [(o, .inr (4, [.ref me, .ref h0, .ref im, .int (nI 0), .ref ta])), (me, .inr (1, [.ref et])), (et, aI G 2048 errT), (h0, .inr (0, [.ref m0, .ref t0])), (m0, .inr (2, [.int (nI 0), .ref f0, .ref s0, .ref b0])), (f0, aI G 8 (fun _ => 0)), (s0, aI G 8 (fun _ => 0)), (b0, aI G 8 (fun _ => 0)), (t0, .inr (3, [.ref l0])), (l0, aI G 23 (fun _ => 9)), (im, aO G 2 (imF h1 h2)), (h1, .inr (0, [.ref m1, .ref t1])), (m1, .inr (2, [.int (nI 0), .ref f1, .ref s1, .ref b1])), (f1, aI G 8 (fun _ => 0)), (s1, aI G 8 (fun _ => 0)), (b1, aI G 8 (fun _ => 0)), (t1, .inr (3, [.ref l1])), (l1, aI G 23 (fun _ => 9)), (h2, .inr (0, [.ref m2, .ref t2])), (m2, .inr (2, [.int (nI 0), .ref f2, .ref s2, .ref b2])), (f2, aI G 8 (fun _ => 0)), (s2, aI G 8 (fun _ => 0)), (b2, aI G 8 (fun _ => 0)), (t2, .inr (3, [.ref l2])), (l2, aI G 23 (fun _ => 9)), (ta, aI G 16 (fun _ => 0))]) ⟨hx, hb, hml, hown, htl⟩ (c_X6_init l G mo H.size) (cwI 0 htl gL_law_X6_init rfl rfl rfl (htl (.initialized RX6) (List.mem_of_getElem? (i := 5) rfl)) (htl (.methodLink RL 12 yX6_init) (List.mem_of_getElem? (i := 59) rfl)) (htl (.instanceMethod yX6_init) (List.mem_of_getElem? (i := 60) rfl)) rfl (by decide +kernel) ⟨Nat.le_of_ble_eq_true rfl, Nat.le_of_ble_eq_true rfl⟩) hE hP hD hS hA [26] [0, 1, 2, 3, 4, 5, 6, 7, 8, 9, 10, 11, 12, 13, 14, 15, 16, 17, 18, 19, 20, 21, 22, 23, 24, 25] rfl rfl (by decide) (by decide) (by decide) rfl hl.1 rfl (Nat.le_of_ble_eq_true rfl) dL_law_12 ⟨Nat.le_of_ble_eq_true rfl, Nat.le_of_ble_eq_true rfl⟩ (fun u H locs hP hD hS => ?_)
  obtain ⟨sa, ia, ka, ea, ca⟩ := u
  have hP : va_P G.1 vwCl [(o, .inr (4, [.ref me, .ref h0, .ref im, .int (nI 0), .ref ta])), (me, .inr (1, [.ref et])), (et, aI G 2048 errT), (h0, .inr (0, [.ref m0, .ref t0])), (m0, .inr (2, [.int (nI 0), .ref f0, .ref s0, .ref b0])), (f0, aI G 8 (fun _ => 0)), (s0, aI G 8 (fun _ => 0)), (b0, aI G 8 (fun _ => 0)), (t0, .inr (3, [.ref l0])), (l0, aI G 23 (fun _ => 9)), (im, aO G 2 (imF h1 h2)), (h1, .inr (0, [.ref m1, .ref t1])), (m1, .inr (2, [.int (nI 0), .ref f1, .ref s1, .ref b1])), (f1, aI G 8 (fun _ => 0)), (s1, aI G 8 (fun _ => 0)), (b1, aI G 8 (fun _ => 0)), (t1, .inr (3, [.ref l1])), (l1, aI G 23 (fun _ => 9)), (h2, .inr (0, [.ref m2, .ref t2])), (m2, .inr (2, [.int (nI 0), .ref f2, .ref s2, .ref b2])), (f2, aI G 8 (fun _ => 0)), (s2, aI G 8 (fun _ => 0)), (b2, aI G 8 (fun _ => 0)), (t2, .inr (3, [.ref l2])), (l2, aI G 23 (fun _ => 9)), (ta, aI G 16 (fun _ => 0)), (mo, .inr (5, [.ref sa, .ref ia, .ref ka, .ref ea, .int (nI 0), .int (nI 0), .ref ca])), (sa, aI G 40 stX0), (ia, aI G 80 (fun _ => 0)), (ka, aZ G 2 (fun _ => 0)), (ea, aI G 2048 moT), (ca, aI G 16 (fun _ => 0))] H := hP
  have hD : va_D (fun q : Nat => s.heap.size ≤ q) [(o, .inr (4, [.ref me, .ref h0, .ref im, .int (nI 0), .ref ta])), (me, .inr (1, [.ref et])), (et, aI G 2048 errT), (h0, .inr (0, [.ref m0, .ref t0])), (m0, .inr (2, [.int (nI 0), .ref f0, .ref s0, .ref b0])), (f0, aI G 8 (fun _ => 0)), (s0, aI G 8 (fun _ => 0)), (b0, aI G 8 (fun _ => 0)), (t0, .inr (3, [.ref l0])), (l0, aI G 23 (fun _ => 9)), (im, aO G 2 (imF h1 h2)), (h1, .inr (0, [.ref m1, .ref t1])), (m1, .inr (2, [.int (nI 0), .ref f1, .ref s1, .ref b1])), (f1, aI G 8 (fun _ => 0)), (s1, aI G 8 (fun _ => 0)), (b1, aI G 8 (fun _ => 0)), (t1, .inr (3, [.ref l1])), (l1, aI G 23 (fun _ => 9)), (h2, .inr (0, [.ref m2, .ref t2])), (m2, .inr (2, [.int (nI 0), .ref f2, .ref s2, .ref b2])), (f2, aI G 8 (fun _ => 0)), (s2, aI G 8 (fun _ => 0)), (b2, aI G 8 (fun _ => 0)), (t2, .inr (3, [.ref l2])), (l2, aI G 23 (fun _ => 9)), (ta, aI G 16 (fun _ => 0)), (mo, .inr (5, [.ref sa, .ref ia, .ref ka, .ref ea, .int (nI 0), .int (nI 0), .ref ca])), (sa, aI G 40 stX0), (ia, aI G 80 (fun _ => 0)), (ka, aZ G 2 (fun _ => 0)), (ea, aI G 2048 moT), (ca, aI G 16 (fun _ => 0))] := hD
  refine W.cs (cells' := 33) (slots' := 4450) rfl rfl ?_
  obtain ⟨hP, hD⟩ := PD_arr (F' := errT) hP hD 30 rfl moT_eq
  have hP : va_P G.1 vwCl [(o, .inr (4, [.ref me, .ref h0, .ref im, .int (nI 0), .ref ta])), (me, .inr (1, [.ref et])), (et, aI G 2048 errT), (h0, .inr (0, [.ref m0, .ref t0])), (m0, .inr (2, [.int (nI 0), .ref f0, .ref s0, .ref b0])), (f0, aI G 8 (fun _ => 0)), (s0, aI G 8 (fun _ => 0)), (b0, aI G 8 (fun _ => 0)), (t0, .inr (3, [.ref l0])), (l0, aI G 23 (fun _ => 9)), (im, aO G 2 (imF h1 h2)), (h1, .inr (0, [.ref m1, .ref t1])), (m1, .inr (2, [.int (nI 0), .ref f1, .ref s1, .ref b1])), (f1, aI G 8 (fun _ => 0)), (s1, aI G 8 (fun _ => 0)), (b1, aI G 8 (fun _ => 0)), (t1, .inr (3, [.ref l1])), (l1, aI G 23 (fun _ => 9)), (h2, .inr (0, [.ref m2, .ref t2])), (m2, .inr (2, [.int (nI 0), .ref f2, .ref s2, .ref b2])), (f2, aI G 8 (fun _ => 0)), (s2, aI G 8 (fun _ => 0)), (b2, aI G 8 (fun _ => 0)), (t2, .inr (3, [.ref l2])), (l2, aI G 23 (fun _ => 9)), (ta, aI G 16 (fun _ => 0)), (mo, .inr (5, [.ref sa, .ref ia, .ref ka, .ref ea, .int (nI 0), .int (nI 0), .ref ca])), (sa, aI G 40 stX0), (ia, aI G 80 (fun _ => 0)), (ka, aZ G 2 (fun _ => 0)), (ea, aI G 2048 errT), (ca, aI G 16 (fun _ => 0))] H := hP
  have hD : va_D (fun q : Nat => s.heap.size ≤ q) [(o, .inr (4, [.ref me, .ref h0, .ref im, .int (nI 0), .ref ta])), (me, .inr (1, [.ref et])), (et, aI G 2048 errT), (h0, .inr (0, [.ref m0, .ref t0])), (m0, .inr (2, [.int (nI 0), .ref f0, .ref s0, .ref b0])), (f0, aI G 8 (fun _ => 0)), (s0, aI G 8 (fun _ => 0)), (b0, aI G 8 (fun _ => 0)), (t0, .inr (3, [.ref l0])), (l0, aI G 23 (fun _ => 9)), (im, aO G 2 (imF h1 h2)), (h1, .inr (0, [.ref m1, .ref t1])), (m1, .inr (2, [.int (nI 0), .ref f1, .ref s1, .ref b1])), (f1, aI G 8 (fun _ => 0)), (s1, aI G 8 (fun _ => 0)), (b1, aI G 8 (fun _ => 0)), (t1, .inr (3, [.ref l1])), (l1, aI G 23 (fun _ => 9)), (h2, .inr (0, [.ref m2, .ref t2])), (m2, .inr (2, [.int (nI 0), .ref f2, .ref s2, .ref b2])), (f2, aI G 8 (fun _ => 0)), (s2, aI G 8 (fun _ => 0)), (b2, aI G 8 (fun _ => 0)), (t2, .inr (3, [.ref l2])), (l2, aI G 23 (fun _ => 9)), (ta, aI G 16 (fun _ => 0)), (mo, .inr (5, [.ref sa, .ref ia, .ref ka, .ref ea, .int (nI 0), .int (nI 0), .ref ca])), (sa, aI G 40 stX0), (ia, aI G 80 (fun _ => 0)), (ka, aZ G 2 (fun _ => 0)), (ea, aI G 2048 errT), (ca, aI G 16 (fun _ => 0))] := hD
  refine lv_astore_n (lv' := [(2, .ref mo), (1, .ref o), (0, .ref b)]) hx hb dL_law_15 rfl hl (by decide) rfl (fun ls hl => ?_)
  refine lv_iconst (v := nI 0) hx hb dL_law_16 (by decide) ?_
  refine lv_istore_n (lv' := [(3, .int (nI 0)), (2, .ref mo), (1, .ref o), (0, .ref b)]) hx hb dL_law_17 rfl hl (by decide) rfl (fun ls hl => ?_)
  exact law_loop (q := fun z => match z with | 0 => o | 1 => me | 2 => et | 3 => h0 | 4 => m0 | 5 => f0 | 6 => s0 | 7 => b0 | 8 => t0 | 9 => l0 | 10 => im | 11 => h1 | 12 => m1 | 13 => f1 | 14 => s1 | 15 => b1 | 16 => t1 | 17 => l1 | 18 => h2 | 19 => m2 | 20 => f2 | 21 => s2 | 22 => b2 | 23 => t2 | 24 => l2 | 25 => ta | 26 => mo | 27 => sa | 28 => ia | 29 => ka | 30 => ea | 31 => ca | _ => 0) ⟨hx, hb, hml, hown, htl, hX, hbl, hbA, hE, hA, hZ, hT, hL⟩ hr hlocks (L + 5) 0 (Nat.zero_le _) (by omega) 0 0 (fun _ => 0) (fun _ => 0) (fun _ => 0) (fun _ => 9) 0 (fun _ => 0) (fun _ => 0) (fun _ => 0) (fun _ => 9) 0 (fun _ => 0) (fun _ => 0) (fun _ => 0) (fun _ => 9) (fun _ => 0) 0 (nI 0) stX0 (fun _ => 0) (fun _ => 0) (fun _ => 0) LR_start H locs hP hD hS ls hl

