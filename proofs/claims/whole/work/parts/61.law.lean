/-- the world of the law: the class's cells, then the reference's -/
abbrev LW (G : EG) (q : Nat → Nat) (kp : Nat) (n0 : Nat) (F : Nat → Nat) (S : Nat → Nat) (B : Nat → Nat) (V : Nat → Nat) (n1 : Nat) (F1 : Nat → Nat) (S1 : Nat → Nat) (B1 : Nat → Nat) (V1 : Nat → Nat) (n2 : Nat) (F2 : Nat → Nat) (S2 : Nat → Nat) (B2 : Nat → Nat) (V2 : Nat → Nat) (C : Nat → Nat) (tr : Nat) (fi : Int32) (X : Nat → Nat) (Y : Nat → Nat) (K : Nat → Nat) (D : Nat → Nat) : va_W := [(q 0, .inr (4, [.ref (q 1), .ref (q 3), .ref (q 10), .int (nI kp), .ref (q 25)])), (q 1, .inr (1, [.ref (q 2)])), (q 2, aI G 2048 errT), (q 3, .inr (0, [.ref (q 4), .ref (q 8)])), (q 4, .inr (2, [.int (nI n0), .ref (q 5), .ref (q 6), .ref (q 7)])), (q 5, aI G 8 F), (q 6, aI G 8 S), (q 7, aI G 8 B), (q 8, .inr (3, [.ref (q 9)])), (q 9, aI G 23 V), (q 10, aO G 2 (imF (q 11) (q 18))), (q 11, .inr (0, [.ref (q 12), .ref (q 16)])), (q 12, .inr (2, [.int (nI n1), .ref (q 13), .ref (q 14), .ref (q 15)])), (q 13, aI G 8 F1), (q 14, aI G 8 S1), (q 15, aI G 8 B1), (q 16, .inr (3, [.ref (q 17)])), (q 17, aI G 23 V1), (q 18, .inr (0, [.ref (q 19), .ref (q 23)])), (q 19, .inr (2, [.int (nI n2), .ref (q 20), .ref (q 21), .ref (q 22)])), (q 20, aI G 8 F2), (q 21, aI G 8 S2), (q 22, aI G 8 B2), (q 23, .inr (3, [.ref (q 24)])), (q 24, aI G 23 V2), (q 25, aI G 16 C), (q 26, .inr (5, [.ref (q 27), .ref (q 28), .ref (q 29), .ref (q 30), .int (nI tr), .int fi, .ref (q 31)])), (q 27, aI G 40 X), (q 28, aI G 80 Y), (q 29, aZ G 2 K), (q 30, aI G 2048 errT), (q 31, aI G 16 D)]
def LC (p : Program) (s : State) (m : MethodId) (c : Code) (b L : Nat) (xs : Nat → Int32) (A : Nat → Prop) (G : EG) (at0 : Nat) : Prop := p.tables.exec = Jvm.exec ∧ c.code = code ∧ c.maxLocals = 4 ∧ s.vm.findClass RL = some m.cls ∧ (∀ w ∈ wsL_law, w.before #[Value.ref b] s = true) ∧ va_X b L xs s s.heap ∧ b < s.heap.size ∧ ¬ A b ∧ Ev G s ∧ (∀ q, s.heap.size ≤ q → A q) ∧ va_Z "TripleTrap" "AROUND" "[I" (.ref at0) A s s.heap ∧ va_T .int at0 96 (fun i => .int (nI (arT i))) A s s.heap ∧ L ≤ 2048
def LK (p : Program) (l : Launch) (e : Env) (s : State) (m : MethodId) (below : List Frame) (meth : Method) (c : Code) (b i : Nat) (A : Nat → Prop) (G : EG) (q : Nat → Nat) (Q : State → Prop) (pc : Nat) : Prop := ∀ (kp : Nat) (n0 : Nat) (F : Nat → Nat) (S : Nat → Nat) (B : Nat → Nat) (V : Nat → Nat) (n1 : Nat) (F1 : Nat → Nat) (S1 : Nat → Nat) (B1 : Nat → Nat) (V1 : Nat → Nat) (n2 : Nat) (F2 : Nat → Nat) (S2 : Nat → Nat) (B2 : Nat → Nat) (V2 : Nat → Nat) (C : Nat → Nat) (tr : Nat) (fi : Int32) (X : Nat → Nat) (Y : Nat → Nat) (K : Nat → Nat) (D : Nat → Nat), LR kp n0 F S B V n1 F1 S1 B1 V1 n2 F2 S2 B2 V2 C X Y K D → ∀ (H : Heap) (locs : List Loc), va_P G.1 vwCl (LW G q kp n0 F S B V n1 F1 S1 B1 V1 n2 F2 S2 B2 V2 C tr fi X Y K D) H → va_D A (LW G q kp n0 F S B V n1 F1 S1 B1 V1 n2 F2 S2 B2 V2 C tr fi X Y K D) → va_S A s.heap H locs → ∀ ls : Array Slot, lv_has ls 4 [(3, .int (nI i)), (2, .ref (q 26)), (1, .ref (q 0)), (0, .ref b)] → W p l e room_1 s m #[Value.ref b] below meth c H locs 33 4450 Q (F0 m pc ls [])
section LROWS
variable {p : Program} {l : Launch} {e : Env} {R : Room} {s : State} {m : MethodId} {args : Array Value} {below : List Frame} {meth : Method} {c : Code} {H H0 : Heap} {locs : List Loc} {cells slots : Nat} {Q : State → Prop}
variable {cc bytes : ByteArray} {pc nL maxL n index t b a : Nat} {ls : Array Slot} {rest As : List Value} {G : EG} {wc : va_W} {ws Ts : List Cond} {own : String} {y : MethodName} {ret : Option FieldType} {rm : Room} {r : Value} {A : Nat → Prop}
theorem j_sld (hx : p.tables.exec = Jvm.exec) (hb : c.code = cc) {b L : Nat} {xs : Nat → Int32} (hX : va_X b L xs s H0) (hbl : b < H0.size) (hbA : ¬ A b) (hS : va_S A H0 H locs) {k : Nat} (hk : k < L) (hL : L ≤ 2048) (hdg : decode cc pc = .ok (.iaload, 1))
    (kk : W p l e R s m args below meth c H locs cells slots Q (F0 m (pc + 1) ls (.int (xs k) :: rest))) : W p l e R s m args below meth c H locs cells slots Q (F0 m pc ls (.int (nI k) :: .ref b :: rest)) :=
  va_sld hx hb hX hbl hbA hS (vp_in_nI hk (by omega)) hdg (by rw [nI_clamp (by omega)]; exact kk)
theorem ra_V (ci q0 : Nat) {q : vw_C} {fs : List Value} (S : CallFix p m c cc nL s args Ts own) (hM : RA l y ws rm G t wc (.ref b :: As) r) (cw : CallW R s args own q.1 index y bytes maxL ret ws rm 0 0 n) (hE : Ev G s) (hP : va_P G.1 vwCl wc H) (h1 : va_Z "TripleTrap" "AROUND" "[I" (.ref t) A s s.heap) (h2 : va_T .int t 96 (fun i => .int (nI (arT i))) A s s.heap) (hS : va_S A s.heap H locs) (hc : vwCl[ci]? = some q) (he : wc[q0]? = some (b, .inr (ci, fs))) (hn : As.length = n) (hsize : ls.size = nL) {st : List Value} (hst : st = As.reverse ++ .ref b :: rest) (hW : (rest.map fun v => v.category).sum ≤ 8) (hdg : decode cc pc = .ok (.invokevirtual index, 3)) (hf : cells ≤ R.cells ∧ slots ≤ R.slots)
    (kk : W p l e R s m args below meth c H locs cells slots Q (F0 m (pc + 3) ls (r :: rest))) : W p l e R s m args below meth c H locs cells slots Q (F0 m pc ls st) :=
  W.callV (va_runV S hM cw ⟨preA_blind G t wc _, va_recv hE.1 hP hc he, fun U hU hW => ⟨rfl, by rw [hU]; exact hP, hE.warm hW, ArAt.warm h1 h2 hS hU hW⟩⟩ rfl hn hsize hst (lv_room hW) hdg hf).run kk
end LROWS

set_option maxHeartbeats 4000000 in
set_option maxRecDepth 100000 in
/-- the law: made -/
theorem law_made {p : Program} {l : Launch} {e : Env} {s : State} {m : MethodId} {below : List Frame} {meth : Method} {c : Code} {b L i at0 : Nat} {xs : Nat → Int32} {A : Nat → Prop} {G : EG} {q : Nat → Nat} {Q : State → Prop} (C0 : LC p s m c b L xs A G at0) (hi : i + 4 ≤ L) {kp : Nat} {n0 : Nat} {F : Nat → Nat} {S : Nat → Nat} {B : Nat → Nat} {V : Nat → Nat} {n1 : Nat} {F1 : Nat → Nat} {S1 : Nat → Nat} {B1 : Nat → Nat} {V1 : Nat → Nat} {n2 : Nat} {F2 : Nat → Nat} {S2 : Nat → Nat} {B2 : Nat → Nat} {V2 : Nat → Nat} {C : Nat → Nat} {tr : Nat} {fi : Int32} {X : Nat → Nat} {Y : Nat → Nat} {K : Nat → Nat} {D : Nat → Nat} (hR : LR kp n0 F S B V n1 F1 S1 B1 V1 n2 F2 S2 B2 V2 C X Y K D) {H : Heap} {locs : List Loc} (hP : va_P G.1 vwCl (LW G q kp n0 F S B V n1 F1 S1 B1 V1 n2 F2 S2 B2 V2 C tr fi X Y K D) H) (hD : va_D A (LW G q kp n0 F S B V n1 F1 S1 B1 V1 n2 F2 S2 B2 V2 C tr fi X Y K D)) (hS : va_S A s.heap H locs) {ls : Array Slot} (hl : lv_has ls 4 [(3, .int (nI i)), (2, .ref (q 26)), (1, .ref (q 0)), (0, .ref b)]) (kc : LK p l e s m below meth c b i A G q Q 755) : W p l e room_1 s m #[Value.ref b] below meth c H locs 33 4450 Q (F0 m 132 ls []) := by
  obtain ⟨hx, hb, hml, hown, hts, hX, hbl, hbA, hE, hA, hZ, hT, hL⟩ := C0
  refine lv_aload_n hx hb dL_law_132 rfl (lv_at hl 2 rfl) ?_
  refine lv_aload_n hx hb dL_law_133 rfl (lv_at hl 3 rfl) ?_
  refine lv_iload_n hx hb dL_law_134 rfl (lv_at hl 0 rfl) ?_
  refine lv_iconst (v := nI 1) hx hb dL_law_135 (by decide) ?_
  refine j_add hx hb dL_law_136 ?_
  refine j_sld hx hb hX hbl hbA hS (show i + 1 < L by omega) hL dL_law_137 ?_
  refine ro_V 4 0 (rest := []) ⟨hx, hb, hml, hown, hts⟩ (c_X5_made l G (q 0) (q 1) (q 3) (q 10) kp (q 25) (xs (i + 1))) (cwV 1 hts gL_law_X5_made rfl rfl rfl (by decide +kernel) ⟨Nat.le_of_ble_eq_true rfl, Nat.le_of_ble_eq_true rfl⟩) hE (hP.sub [0] rfl) rfl rfl rfl hl.1 rfl (Nat.le_of_ble_eq_true rfl) dL_law_138 ⟨Nat.le_of_ble_eq_true rfl, Nat.le_of_ble_eq_true rfl⟩ ?_
  refine W.eq (g2 := F0 m 141 ls [.int (cMade (xs (i + 1)))]) rfl ?_
  refine lv_aload_n hx hb dL_law_141 rfl (lv_at hl 1 rfl) ?_
  refine lv_aload_n hx hb dL_law_142 rfl (lv_at hl 3 rfl) ?_
  refine lv_iload_n hx hb dL_law_143 rfl (lv_at hl 0 rfl) ?_
  refine lv_iconst (v := nI 1) hx hb dL_law_144 (by decide) ?_
  refine j_add hx hb dL_law_145 ?_
  refine j_sld hx hb hX hbl hbA hS (show i + 1 < L by omega) hL dL_law_146 ?_
  refine ro_V 5 0 (rest := [.int (cMade (xs (i + 1)))]) ⟨hx, hb, hml, hown, hts⟩ (c_X6_made l G (q 26) (q 27) (q 28) (q 29) (q 30) (q 31) tr fi (xs (i + 1))) (cwV 1 hts gL_law_X6_made rfl rfl rfl (by decide +kernel) ⟨Nat.le_of_ble_eq_true rfl, Nat.le_of_ble_eq_true rfl⟩) hE (hP.sub [26] rfl) rfl rfl rfl hl.1 rfl (Nat.le_of_ble_eq_true rfl) dL_law_147 ⟨Nat.le_of_ble_eq_true rfl, Nat.le_of_ble_eq_true rfl⟩ ?_
  refine W.eq (g2 := F0 m 150 ls [.int (mMade (xs (i + 1))), .int (cMade (xs (i + 1)))]) rfl ?_
  refine lv_icmp_eq (tgt := 755) hx hb dL_law_150 (by decide) (fun _ => ?_) (fun cq => absurd (E_made _) cq)
  exact kc kp n0 F S B V n1 F1 S1 B1 V1 n2 F2 S2 B2 V2 C tr _ X Y K D hR H locs hP hD hS ls hl

set_option maxHeartbeats 4000000 in
set_option maxRecDepth 100000 in
/-- the law: rest -/
theorem law_rest {p : Program} {l : Launch} {e : Env} {s : State} {m : MethodId} {below : List Frame} {meth : Method} {c : Code} {b L i at0 : Nat} {xs : Nat → Int32} {A : Nat → Prop} {G : EG} {q : Nat → Nat} {Q : State → Prop} (C0 : LC p s m c b L xs A G at0) (hi : i + 4 ≤ L) {kp : Nat} {n0 : Nat} {F : Nat → Nat} {S : Nat → Nat} {B : Nat → Nat} {V : Nat → Nat} {n1 : Nat} {F1 : Nat → Nat} {S1 : Nat → Nat} {B1 : Nat → Nat} {V1 : Nat → Nat} {n2 : Nat} {F2 : Nat → Nat} {S2 : Nat → Nat} {B2 : Nat → Nat} {V2 : Nat → Nat} {C : Nat → Nat} {tr : Nat} {fi : Int32} {X : Nat → Nat} {Y : Nat → Nat} {K : Nat → Nat} {D : Nat → Nat} (hR : LR kp n0 F S B V n1 F1 S1 B1 V1 n2 F2 S2 B2 V2 C X Y K D) {H : Heap} {locs : List Loc} (hP : va_P G.1 vwCl (LW G q kp n0 F S B V n1 F1 S1 B1 V1 n2 F2 S2 B2 V2 C tr fi X Y K D) H) (hD : va_D A (LW G q kp n0 F S B V n1 F1 S1 B1 V1 n2 F2 S2 B2 V2 C tr fi X Y K D)) (hS : va_S A s.heap H locs) {ls : Array Slot} (hl : lv_has ls 4 [(3, .int (nI i)), (2, .ref (q 26)), (1, .ref (q 0)), (0, .ref b)]) (kc : LK p l e s m below meth c b i A G q Q 755) : W p l e room_1 s m #[Value.ref b] below meth c H locs 33 4450 Q (F0 m 155 ls []) := by
  obtain ⟨hx, hb, hml, hown, hts, hX, hbl, hbA, hE, hA, hZ, hT, hL⟩ := C0
  refine lv_aload_n hx hb dL_law_155 rfl (lv_at hl 2 rfl) ?_
  refine lv_aload_n hx hb dL_law_156 rfl (lv_at hl 3 rfl) ?_
  refine lv_iload_n hx hb dL_law_157 rfl (lv_at hl 0 rfl) ?_
  refine lv_iconst (v := nI 1) hx hb dL_law_158 (by decide) ?_
  refine j_add hx hb dL_law_159 ?_
  refine j_sld hx hb hX hbl hbA hS (show i + 1 < L by omega) hL dL_law_160 ?_
  refine ro_V 4 0 (rest := []) ⟨hx, hb, hml, hown, hts⟩ (c_X5_rest l G (q 0) (q 1) (q 3) (q 10) kp (q 25) (xs (i + 1))) (cwV 1 hts gL_law_X5_rest rfl rfl rfl (by decide +kernel) ⟨Nat.le_of_ble_eq_true rfl, Nat.le_of_ble_eq_true rfl⟩) hE (hP.sub [0] rfl) rfl rfl rfl hl.1 rfl (Nat.le_of_ble_eq_true rfl) dL_law_161 ⟨Nat.le_of_ble_eq_true rfl, Nat.le_of_ble_eq_true rfl⟩ ?_
  refine W.eq (g2 := F0 m 164 ls [.int (mRest (xs (i + 1)))]) rfl ?_
  refine lv_aload_n hx hb dL_law_164 rfl (lv_at hl 1 rfl) ?_
  refine lv_aload_n hx hb dL_law_165 rfl (lv_at hl 3 rfl) ?_
  refine lv_iload_n hx hb dL_law_166 rfl (lv_at hl 0 rfl) ?_
  refine lv_iconst (v := nI 1) hx hb dL_law_167 (by decide) ?_
  refine j_add hx hb dL_law_168 ?_
  refine j_sld hx hb hX hbl hbA hS (show i + 1 < L by omega) hL dL_law_169 ?_
  refine ro_V 5 0 (rest := [.int (mRest (xs (i + 1)))]) ⟨hx, hb, hml, hown, hts⟩ (c_X6_rest l G (q 26) (q 27) (q 28) (q 29) (q 30) (q 31) tr fi (xs (i + 1))) (cwV 1 hts gL_law_X6_rest rfl rfl rfl (by decide +kernel) ⟨Nat.le_of_ble_eq_true rfl, Nat.le_of_ble_eq_true rfl⟩) hE (hP.sub [26] rfl) rfl rfl rfl hl.1 rfl (Nat.le_of_ble_eq_true rfl) dL_law_170 ⟨Nat.le_of_ble_eq_true rfl, Nat.le_of_ble_eq_true rfl⟩ ?_
  refine W.eq (g2 := F0 m 173 ls [.int (mRest (xs (i + 1))), .int (mRest (xs (i + 1)))]) rfl ?_
  refine lv_icmp_eq (tgt := 755) hx hb dL_law_173 (by decide) (fun _ => ?_) (fun cq => absurd rfl cq)
  exact kc kp n0 F S B V n1 F1 S1 B1 V1 n2 F2 S2 B2 V2 C tr _ X Y K D hR H locs hP hD hS ls hl

set_option maxHeartbeats 4000000 in
set_option maxRecDepth 100000 in
/-- the law: of -/
theorem law_of {p : Program} {l : Launch} {e : Env} {s : State} {m : MethodId} {below : List Frame} {meth : Method} {c : Code} {b L i at0 : Nat} {xs : Nat → Int32} {A : Nat → Prop} {G : EG} {q : Nat → Nat} {Q : State → Prop} (C0 : LC p s m c b L xs A G at0) (hi : i + 4 ≤ L) {kp : Nat} {n0 : Nat} {F : Nat → Nat} {S : Nat → Nat} {B : Nat → Nat} {V : Nat → Nat} {n1 : Nat} {F1 : Nat → Nat} {S1 : Nat → Nat} {B1 : Nat → Nat} {V1 : Nat → Nat} {n2 : Nat} {F2 : Nat → Nat} {S2 : Nat → Nat} {B2 : Nat → Nat} {V2 : Nat → Nat} {C : Nat → Nat} {tr : Nat} {fi : Int32} {X : Nat → Nat} {Y : Nat → Nat} {K : Nat → Nat} {D : Nat → Nat} (hR : LR kp n0 F S B V n1 F1 S1 B1 V1 n2 F2 S2 B2 V2 C X Y K D) {H : Heap} {locs : List Loc} (hP : va_P G.1 vwCl (LW G q kp n0 F S B V n1 F1 S1 B1 V1 n2 F2 S2 B2 V2 C tr fi X Y K D) H) (hD : va_D A (LW G q kp n0 F S B V n1 F1 S1 B1 V1 n2 F2 S2 B2 V2 C tr fi X Y K D)) (hS : va_S A s.heap H locs) {ls : Array Slot} (hl : lv_has ls 4 [(3, .int (nI i)), (2, .ref (q 26)), (1, .ref (q 0)), (0, .ref b)]) (kc : LK p l e s m below meth c b i A G q Q 755) : W p l e room_1 s m #[Value.ref b] below meth c H locs 33 4450 Q (F0 m 178 ls []) := by
  obtain ⟨hx, hb, hml, hown, hts, hX, hbl, hbA, hE, hA, hZ, hT, hL⟩ := C0
  refine lv_aload_n hx hb dL_law_178 rfl (lv_at hl 2 rfl) ?_
  refine lv_aload_n hx hb dL_law_179 rfl (lv_at hl 3 rfl) ?_
  refine lv_iload_n hx hb dL_law_180 rfl (lv_at hl 0 rfl) ?_
  refine lv_iconst (v := nI 1) hx hb dL_law_181 (by decide) ?_
  refine j_add hx hb dL_law_182 ?_
  refine j_sld hx hb hX hbl hbA hS (show i + 1 < L by omega) hL dL_law_183 ?_
  refine lv_aload_n hx hb dL_law_184 rfl (lv_at hl 3 rfl) ?_
  refine lv_iload_n hx hb dL_law_185 rfl (lv_at hl 0 rfl) ?_
  refine lv_iconst (v := nI 2) hx hb dL_law_186 (by decide) ?_
  refine j_add hx hb dL_law_187 ?_
  refine j_sld hx hb hX hbl hbA hS (show i + 2 < L by omega) hL dL_law_188 ?_
  refine ro_V 4 0 (rest := []) ⟨hx, hb, hml, hown, hts⟩ (c_X5_of l G (q 0) (q 1) (q 3) (q 10) kp (q 25) (q 2) errT errT_lt (xs (i + 1)) (xs (i + 2))) (cwV 2 hts gL_law_X5_of rfl rfl rfl (by decide +kernel) ⟨Nat.le_of_ble_eq_true rfl, Nat.le_of_ble_eq_true rfl⟩) hE (hP.sub [0, 1, 2] rfl) rfl rfl rfl hl.1 rfl (Nat.le_of_ble_eq_true rfl) dL_law_189 ⟨Nat.le_of_ble_eq_true rfl, Nat.le_of_ble_eq_true rfl⟩ ?_
  refine W.eq (g2 := F0 m 192 ls [.int (cOf errT (xs (i + 1)) (xs (i + 2)))]) rfl ?_
  refine lv_aload_n hx hb dL_law_192 rfl (lv_at hl 1 rfl) ?_
  refine lv_aload_n hx hb dL_law_193 rfl (lv_at hl 3 rfl) ?_
  refine lv_iload_n hx hb dL_law_194 rfl (lv_at hl 0 rfl) ?_
  refine lv_iconst (v := nI 1) hx hb dL_law_195 (by decide) ?_
  refine j_add hx hb dL_law_196 ?_
  refine j_sld hx hb hX hbl hbA hS (show i + 1 < L by omega) hL dL_law_197 ?_
  refine lv_aload_n hx hb dL_law_198 rfl (lv_at hl 3 rfl) ?_
  refine lv_iload_n hx hb dL_law_199 rfl (lv_at hl 0 rfl) ?_
  refine lv_iconst (v := nI 2) hx hb dL_law_200 (by decide) ?_
  refine j_add hx hb dL_law_201 ?_
  refine j_sld hx hb hX hbl hbA hS (show i + 2 < L by omega) hL dL_law_202 ?_
  refine ro_V 5 0 (rest := [.int (cOf errT (xs (i + 1)) (xs (i + 2)))]) ⟨hx, hb, hml, hown, hts⟩ (c_X6_of l G (q 26) (q 27) (q 28) (q 29) (q 30) (q 31) tr fi errT errT_lt (xs (i + 1)) (xs (i + 2))) (cwV 2 hts gL_law_X6_of rfl rfl rfl (by decide +kernel) ⟨Nat.le_of_ble_eq_true rfl, Nat.le_of_ble_eq_true rfl⟩) hE (hP.sub [26, 30] rfl) rfl rfl rfl hl.1 rfl (Nat.le_of_ble_eq_true rfl) dL_law_203 ⟨Nat.le_of_ble_eq_true rfl, Nat.le_of_ble_eq_true rfl⟩ ?_
  refine W.eq (g2 := F0 m 206 ls [.int (mOf errT (xs (i + 1)) (xs (i + 2))), .int (cOf errT (xs (i + 1)) (xs (i + 2)))]) rfl ?_
  refine lv_icmp_eq (tgt := 755) hx hb dL_law_206 (by decide) (fun _ => ?_) (fun cq => absurd (E_of _ _) cq)
  exact kc kp n0 F S B V n1 F1 S1 B1 V1 n2 F2 S2 B2 V2 C tr _ X Y K D hR H locs hP hD hS ls hl

set_option maxHeartbeats 4000000 in
set_option maxRecDepth 100000 in
/-- the law: around -/
theorem law_around {p : Program} {l : Launch} {e : Env} {s : State} {m : MethodId} {below : List Frame} {meth : Method} {c : Code} {b L i at0 : Nat} {xs : Nat → Int32} {A : Nat → Prop} {G : EG} {q : Nat → Nat} {Q : State → Prop} (C0 : LC p s m c b L xs A G at0) (hi : i + 4 ≤ L) {kp : Nat} {n0 : Nat} {F : Nat → Nat} {S : Nat → Nat} {B : Nat → Nat} {V : Nat → Nat} {n1 : Nat} {F1 : Nat → Nat} {S1 : Nat → Nat} {B1 : Nat → Nat} {V1 : Nat → Nat} {n2 : Nat} {F2 : Nat → Nat} {S2 : Nat → Nat} {B2 : Nat → Nat} {V2 : Nat → Nat} {C : Nat → Nat} {tr : Nat} {fi : Int32} {X : Nat → Nat} {Y : Nat → Nat} {K : Nat → Nat} {D : Nat → Nat} (hR : LR kp n0 F S B V n1 F1 S1 B1 V1 n2 F2 S2 B2 V2 C X Y K D) {H : Heap} {locs : List Loc} (hP : va_P G.1 vwCl (LW G q kp n0 F S B V n1 F1 S1 B1 V1 n2 F2 S2 B2 V2 C tr fi X Y K D) H) (hD : va_D A (LW G q kp n0 F S B V n1 F1 S1 B1 V1 n2 F2 S2 B2 V2 C tr fi X Y K D)) (hS : va_S A s.heap H locs) {ls : Array Slot} (hl : lv_has ls 4 [(3, .int (nI i)), (2, .ref (q 26)), (1, .ref (q 0)), (0, .ref b)]) (kc : LK p l e s m below meth c b i A G q Q 755) : W p l e room_1 s m #[Value.ref b] below meth c H locs 33 4450 Q (F0 m 211 ls []) := by
  obtain ⟨hx, hb, hml, hown, hts, hX, hbl, hbA, hE, hA, hZ, hT, hL⟩ := C0
  refine lv_aload_n hx hb dL_law_211 rfl (lv_at hl 2 rfl) ?_
  refine lv_aload_n hx hb dL_law_212 rfl (lv_at hl 3 rfl) ?_
  refine lv_iload_n hx hb dL_law_213 rfl (lv_at hl 0 rfl) ?_
  refine lv_iconst (v := nI 1) hx hb dL_law_214 (by decide) ?_
  refine j_add hx hb dL_law_215 ?_
  refine j_sld hx hb hX hbl hbA hS (show i + 1 < L by omega) hL dL_law_216 ?_
  refine lv_aload_n hx hb dL_law_217 rfl (lv_at hl 3 rfl) ?_
  refine lv_iload_n hx hb dL_law_218 rfl (lv_at hl 0 rfl) ?_
  refine lv_iconst (v := nI 2) hx hb dL_law_219 (by decide) ?_
  refine j_add hx hb dL_law_220 ?_
  refine j_sld hx hb hX hbl hbA hS (show i + 2 < L by omega) hL dL_law_221 ?_
  refine ra_V 4 0 (rest := []) ⟨hx, hb, hml, hown, hts⟩ (c_X5_around l G at0 (q 0) (q 1) (q 3) (q 10) kp (q 25) (q 2) errT errT_lt errT_4 (xs (i + 1)) (xs (i + 2))) (cwV 2 hts gL_law_X5_around rfl rfl rfl (by decide +kernel) ⟨Nat.le_of_ble_eq_true rfl, Nat.le_of_ble_eq_true rfl⟩) hE (hP.sub [0, 1, 2] rfl) hZ hT hS rfl rfl rfl hl.1 rfl (Nat.le_of_ble_eq_true rfl) dL_law_222 ⟨Nat.le_of_ble_eq_true rfl, Nat.le_of_ble_eq_true rfl⟩ ?_
  refine W.eq (g2 := F0 m 225 ls [.int (cAround errT (xs (i + 1)) (xs (i + 2)))]) rfl ?_
  refine lv_aload_n hx hb dL_law_225 rfl (lv_at hl 1 rfl) ?_
  refine lv_aload_n hx hb dL_law_226 rfl (lv_at hl 3 rfl) ?_
  refine lv_iload_n hx hb dL_law_227 rfl (lv_at hl 0 rfl) ?_
  refine lv_iconst (v := nI 1) hx hb dL_law_228 (by decide) ?_
  refine j_add hx hb dL_law_229 ?_
  refine j_sld hx hb hX hbl hbA hS (show i + 1 < L by omega) hL dL_law_230 ?_
  refine lv_aload_n hx hb dL_law_231 rfl (lv_at hl 3 rfl) ?_
  refine lv_iload_n hx hb dL_law_232 rfl (lv_at hl 0 rfl) ?_
  refine lv_iconst (v := nI 2) hx hb dL_law_233 (by decide) ?_
  refine j_add hx hb dL_law_234 ?_
  refine j_sld hx hb hX hbl hbA hS (show i + 2 < L by omega) hL dL_law_235 ?_
  refine ro_V 5 0 (rest := [.int (cAround errT (xs (i + 1)) (xs (i + 2)))]) ⟨hx, hb, hml, hown, hts⟩ (c_X6_around l G (q 26) (q 27) (q 28) (q 29) (q 30) (q 31) tr fi (xs (i + 1)) (xs (i + 2))) (cwV 2 hts gL_law_X6_around rfl rfl rfl (by decide +kernel) ⟨Nat.le_of_ble_eq_true rfl, Nat.le_of_ble_eq_true rfl⟩) hE (hP.sub [26] rfl) rfl rfl rfl hl.1 rfl (Nat.le_of_ble_eq_true rfl) dL_law_236 ⟨Nat.le_of_ble_eq_true rfl, Nat.le_of_ble_eq_true rfl⟩ ?_
  refine W.eq (g2 := F0 m 239 ls [.int (mAround (xs (i + 1)) (xs (i + 2))), .int (cAround errT (xs (i + 1)) (xs (i + 2)))]) rfl ?_
  refine lv_icmp_eq (tgt := 755) hx hb dL_law_239 (by decide) (fun _ => ?_) (fun cq => absurd (E_around _ _) cq)
  exact kc kp n0 F S B V n1 F1 S1 B1 V1 n2 F2 S2 B2 V2 C tr _ X Y K D hR H locs hP hD hS ls hl

set_option maxHeartbeats 4000000 in
set_option maxRecDepth 100000 in
/-- the law: turned -/
theorem law_turned {p : Program} {l : Launch} {e : Env} {s : State} {m : MethodId} {below : List Frame} {meth : Method} {c : Code} {b L i at0 : Nat} {xs : Nat → Int32} {A : Nat → Prop} {G : EG} {q : Nat → Nat} {Q : State → Prop} (C0 : LC p s m c b L xs A G at0) (hi : i + 4 ≤ L) {kp : Nat} {n0 : Nat} {F : Nat → Nat} {S : Nat → Nat} {B : Nat → Nat} {V : Nat → Nat} {n1 : Nat} {F1 : Nat → Nat} {S1 : Nat → Nat} {B1 : Nat → Nat} {V1 : Nat → Nat} {n2 : Nat} {F2 : Nat → Nat} {S2 : Nat → Nat} {B2 : Nat → Nat} {V2 : Nat → Nat} {C : Nat → Nat} {tr : Nat} {fi : Int32} {X : Nat → Nat} {Y : Nat → Nat} {K : Nat → Nat} {D : Nat → Nat} (hR : LR kp n0 F S B V n1 F1 S1 B1 V1 n2 F2 S2 B2 V2 C X Y K D) {H : Heap} {locs : List Loc} (hP : va_P G.1 vwCl (LW G q kp n0 F S B V n1 F1 S1 B1 V1 n2 F2 S2 B2 V2 C tr fi X Y K D) H) (hD : va_D A (LW G q kp n0 F S B V n1 F1 S1 B1 V1 n2 F2 S2 B2 V2 C tr fi X Y K D)) (hS : va_S A s.heap H locs) {ls : Array Slot} (hl : lv_has ls 4 [(3, .int (nI i)), (2, .ref (q 26)), (1, .ref (q 0)), (0, .ref b)]) (kc : LK p l e s m below meth c b i A G q Q 755) : W p l e room_1 s m #[Value.ref b] below meth c H locs 33 4450 Q (F0 m 244 ls []) := by
  obtain ⟨hx, hb, hml, hown, hts, hX, hbl, hbA, hE, hA, hZ, hT, hL⟩ := C0
  refine lv_aload_n hx hb dL_law_244 rfl (lv_at hl 2 rfl) ?_
  refine lv_aload_n hx hb dL_law_245 rfl (lv_at hl 3 rfl) ?_
  refine lv_iload_n hx hb dL_law_246 rfl (lv_at hl 0 rfl) ?_
  refine lv_iconst (v := nI 1) hx hb dL_law_247 (by decide) ?_
  refine j_add hx hb dL_law_248 ?_
  refine j_sld hx hb hX hbl hbA hS (show i + 1 < L by omega) hL dL_law_249 ?_
  refine lv_aload_n hx hb dL_law_250 rfl (lv_at hl 3 rfl) ?_
  refine lv_iload_n hx hb dL_law_251 rfl (lv_at hl 0 rfl) ?_
  refine lv_iconst (v := nI 2) hx hb dL_law_252 (by decide) ?_
  refine j_add hx hb dL_law_253 ?_
  refine j_sld hx hb hX hbl hbA hS (show i + 2 < L by omega) hL dL_law_254 ?_
  refine ro_V 4 0 (rest := []) ⟨hx, hb, hml, hown, hts⟩ (c_X5_turned l G (q 0) (q 1) (q 3) (q 10) kp (q 25) (xs (i + 1)) (xs (i + 2))) (cwV 2 hts gL_law_X5_turned rfl rfl rfl (by decide +kernel) ⟨Nat.le_of_ble_eq_true rfl, Nat.le_of_ble_eq_true rfl⟩) hE (hP.sub [0] rfl) rfl rfl rfl hl.1 rfl (Nat.le_of_ble_eq_true rfl) dL_law_255 ⟨Nat.le_of_ble_eq_true rfl, Nat.le_of_ble_eq_true rfl⟩ ?_
  refine W.eq (g2 := F0 m 258 ls [.int (cTurned (xs (i + 1)) (xs (i + 2)))]) rfl ?_
  refine lv_aload_n hx hb dL_law_258 rfl (lv_at hl 1 rfl) ?_
  refine lv_aload_n hx hb dL_law_259 rfl (lv_at hl 3 rfl) ?_
  refine lv_iload_n hx hb dL_law_260 rfl (lv_at hl 0 rfl) ?_
  refine lv_iconst (v := nI 1) hx hb dL_law_261 (by decide) ?_
  refine j_add hx hb dL_law_262 ?_
  refine j_sld hx hb hX hbl hbA hS (show i + 1 < L by omega) hL dL_law_263 ?_
  refine lv_aload_n hx hb dL_law_264 rfl (lv_at hl 3 rfl) ?_
  refine lv_iload_n hx hb dL_law_265 rfl (lv_at hl 0 rfl) ?_
  refine lv_iconst (v := nI 2) hx hb dL_law_266 (by decide) ?_
  refine j_add hx hb dL_law_267 ?_
  refine j_sld hx hb hX hbl hbA hS (show i + 2 < L by omega) hL dL_law_268 ?_
  refine ro_V 5 0 (rest := [.int (cTurned (xs (i + 1)) (xs (i + 2)))]) ⟨hx, hb, hml, hown, hts⟩ (c_X6_turned l G (q 26) (q 27) (q 28) (q 29) (q 30) (q 31) tr fi (xs (i + 1)) (xs (i + 2))) (cwV 2 hts gL_law_X6_turned rfl rfl rfl (by decide +kernel) ⟨Nat.le_of_ble_eq_true rfl, Nat.le_of_ble_eq_true rfl⟩) hE (hP.sub [26] rfl) rfl rfl rfl hl.1 rfl (Nat.le_of_ble_eq_true rfl) dL_law_269 ⟨Nat.le_of_ble_eq_true rfl, Nat.le_of_ble_eq_true rfl⟩ ?_
  refine W.eq (g2 := F0 m 272 ls [.int (mTurned (xs (i + 1)) (xs (i + 2))), .int (cTurned (xs (i + 1)) (xs (i + 2)))]) rfl ?_
  refine lv_icmp_eq (tgt := 755) hx hb dL_law_272 (by decide) (fun _ => ?_) (fun cq => absurd (E_turned _ _) cq)
  exact kc kp n0 F S B V n1 F1 S1 B1 V1 n2 F2 S2 B2 V2 C tr _ X Y K D hR H locs hP hD hS ls hl

set_option maxHeartbeats 4000000 in
set_option maxRecDepth 100000 in
/-- the law: trapped -/
theorem law_trapped {p : Program} {l : Launch} {e : Env} {s : State} {m : MethodId} {below : List Frame} {meth : Method} {c : Code} {b L i at0 : Nat} {xs : Nat → Int32} {A : Nat → Prop} {G : EG} {q : Nat → Nat} {Q : State → Prop} (C0 : LC p s m c b L xs A G at0) (hi : i + 4 ≤ L) {kp : Nat} {n0 : Nat} {F : Nat → Nat} {S : Nat → Nat} {B : Nat → Nat} {V : Nat → Nat} {n1 : Nat} {F1 : Nat → Nat} {S1 : Nat → Nat} {B1 : Nat → Nat} {V1 : Nat → Nat} {n2 : Nat} {F2 : Nat → Nat} {S2 : Nat → Nat} {B2 : Nat → Nat} {V2 : Nat → Nat} {C : Nat → Nat} {tr : Nat} {fi : Int32} {X : Nat → Nat} {Y : Nat → Nat} {K : Nat → Nat} {D : Nat → Nat} (hR : LR kp n0 F S B V n1 F1 S1 B1 V1 n2 F2 S2 B2 V2 C X Y K D) {H : Heap} {locs : List Loc} (hP : va_P G.1 vwCl (LW G q kp n0 F S B V n1 F1 S1 B1 V1 n2 F2 S2 B2 V2 C tr fi X Y K D) H) (hD : va_D A (LW G q kp n0 F S B V n1 F1 S1 B1 V1 n2 F2 S2 B2 V2 C tr fi X Y K D)) (hS : va_S A s.heap H locs) {ls : Array Slot} (hl : lv_has ls 4 [(3, .int (nI i)), (2, .ref (q 26)), (1, .ref (q 0)), (0, .ref b)]) (kc : LK p l e s m below meth c b i A G q Q 755) : W p l e room_1 s m #[Value.ref b] below meth c H locs 33 4450 Q (F0 m 277 ls []) := by
  obtain ⟨hx, hb, hml, hown, hts, hX, hbl, hbA, hE, hA, hZ, hT, hL⟩ := C0
  refine lv_aload_n hx hb dL_law_277 rfl (lv_at hl 2 rfl) ?_
  refine lv_aload_n hx hb dL_law_278 rfl (lv_at hl 3 rfl) ?_
  refine lv_iload_n hx hb dL_law_279 rfl (lv_at hl 0 rfl) ?_
  refine lv_iconst (v := nI 1) hx hb dL_law_280 (by decide) ?_
  refine j_add hx hb dL_law_281 ?_
  refine j_sld hx hb hX hbl hbA hS (show i + 1 < L by omega) hL dL_law_282 ?_
  refine lv_aload_n hx hb dL_law_283 rfl (lv_at hl 3 rfl) ?_
  refine lv_iload_n hx hb dL_law_284 rfl (lv_at hl 0 rfl) ?_
  refine lv_iconst (v := nI 2) hx hb dL_law_285 (by decide) ?_
  refine j_add hx hb dL_law_286 ?_
  refine j_sld hx hb hX hbl hbA hS (show i + 2 < L by omega) hL dL_law_287 ?_
  refine ro_V 4 0 (rest := []) ⟨hx, hb, hml, hown, hts⟩ (c_X5_trapped l G (q 0) (q 1) (q 3) (q 10) kp (q 25) (xs (i + 1)) (xs (i + 2))) (cwV 2 hts gL_law_X5_trapped rfl rfl rfl (by decide +kernel) ⟨Nat.le_of_ble_eq_true rfl, Nat.le_of_ble_eq_true rfl⟩) hE (hP.sub [0] rfl) rfl rfl rfl hl.1 rfl (Nat.le_of_ble_eq_true rfl) dL_law_288 ⟨Nat.le_of_ble_eq_true rfl, Nat.le_of_ble_eq_true rfl⟩ ?_
  refine W.eq (g2 := F0 m 291 ls [.int (cTrapped (xs (i + 1)) (xs (i + 2)))]) rfl ?_
  refine lv_aload_n hx hb dL_law_291 rfl (lv_at hl 1 rfl) ?_
  refine lv_aload_n hx hb dL_law_292 rfl (lv_at hl 3 rfl) ?_
  refine lv_iload_n hx hb dL_law_293 rfl (lv_at hl 0 rfl) ?_
  refine lv_iconst (v := nI 1) hx hb dL_law_294 (by decide) ?_
  refine j_add hx hb dL_law_295 ?_
  refine j_sld hx hb hX hbl hbA hS (show i + 1 < L by omega) hL dL_law_296 ?_
  refine lv_aload_n hx hb dL_law_297 rfl (lv_at hl 3 rfl) ?_
  refine lv_iload_n hx hb dL_law_298 rfl (lv_at hl 0 rfl) ?_
  refine lv_iconst (v := nI 2) hx hb dL_law_299 (by decide) ?_
  refine j_add hx hb dL_law_300 ?_
  refine j_sld hx hb hX hbl hbA hS (show i + 2 < L by omega) hL dL_law_301 ?_
  refine ro_V 5 0 (rest := [.int (cTrapped (xs (i + 1)) (xs (i + 2)))]) ⟨hx, hb, hml, hown, hts⟩ (c_X6_trapped l G (q 26) (q 27) (q 28) (q 29) (q 30) (q 31) tr fi (xs (i + 1)) (xs (i + 2))) (cwV 2 hts gL_law_X6_trapped rfl rfl rfl (by decide +kernel) ⟨Nat.le_of_ble_eq_true rfl, Nat.le_of_ble_eq_true rfl⟩) hE (hP.sub [26] rfl) rfl rfl rfl hl.1 rfl (Nat.le_of_ble_eq_true rfl) dL_law_302 ⟨Nat.le_of_ble_eq_true rfl, Nat.le_of_ble_eq_true rfl⟩ ?_
  refine W.eq (g2 := F0 m 305 ls [.int (mTrapped (xs (i + 1)) (xs (i + 2))), .int (cTrapped (xs (i + 1)) (xs (i + 2)))]) rfl ?_
  refine lv_icmp_eq (tgt := 755) hx hb dL_law_305 (by decide) (fun _ => ?_) (fun cq => absurd (E_trapped _ _) cq)
  exact kc kp n0 F S B V n1 F1 S1 B1 V1 n2 F2 S2 B2 V2 C tr _ X Y K D hR H locs hP hD hS ls hl

set_option maxHeartbeats 4000000 in
set_option maxRecDepth 100000 in
/-- the law: wide -/
theorem law_wide {p : Program} {l : Launch} {e : Env} {s : State} {m : MethodId} {below : List Frame} {meth : Method} {c : Code} {b L i at0 : Nat} {xs : Nat → Int32} {A : Nat → Prop} {G : EG} {q : Nat → Nat} {Q : State → Prop} (C0 : LC p s m c b L xs A G at0) (hi : i + 4 ≤ L) {kp : Nat} {n0 : Nat} {F : Nat → Nat} {S : Nat → Nat} {B : Nat → Nat} {V : Nat → Nat} {n1 : Nat} {F1 : Nat → Nat} {S1 : Nat → Nat} {B1 : Nat → Nat} {V1 : Nat → Nat} {n2 : Nat} {F2 : Nat → Nat} {S2 : Nat → Nat} {B2 : Nat → Nat} {V2 : Nat → Nat} {C : Nat → Nat} {tr : Nat} {fi : Int32} {X : Nat → Nat} {Y : Nat → Nat} {K : Nat → Nat} {D : Nat → Nat} (hR : LR kp n0 F S B V n1 F1 S1 B1 V1 n2 F2 S2 B2 V2 C X Y K D) {H : Heap} {locs : List Loc} (hP : va_P G.1 vwCl (LW G q kp n0 F S B V n1 F1 S1 B1 V1 n2 F2 S2 B2 V2 C tr fi X Y K D) H) (hD : va_D A (LW G q kp n0 F S B V n1 F1 S1 B1 V1 n2 F2 S2 B2 V2 C tr fi X Y K D)) (hS : va_S A s.heap H locs) {ls : Array Slot} (hl : lv_has ls 4 [(3, .int (nI i)), (2, .ref (q 26)), (1, .ref (q 0)), (0, .ref b)]) (kc : LK p l e s m below meth c b i A G q Q 755) : W p l e room_1 s m #[Value.ref b] below meth c H locs 33 4450 Q (F0 m 310 ls []) := by
  obtain ⟨hx, hb, hml, hown, hts, hX, hbl, hbA, hE, hA, hZ, hT, hL⟩ := C0
  refine lv_aload_n hx hb dL_law_310 rfl (lv_at hl 2 rfl) ?_
  refine lv_aload_n hx hb dL_law_311 rfl (lv_at hl 3 rfl) ?_
  refine lv_iload_n hx hb dL_law_312 rfl (lv_at hl 0 rfl) ?_
  refine lv_iconst (v := nI 1) hx hb dL_law_313 (by decide) ?_
  refine j_add hx hb dL_law_314 ?_
  refine j_sld hx hb hX hbl hbA hS (show i + 1 < L by omega) hL dL_law_315 ?_
  refine ro_V 4 0 (rest := []) ⟨hx, hb, hml, hown, hts⟩ (c_X5_wide l G (q 0) (q 1) (q 3) (q 10) kp (q 25) (xs (i + 1))) (cwV 1 hts gL_law_X5_wide rfl rfl rfl (by decide +kernel) ⟨Nat.le_of_ble_eq_true rfl, Nat.le_of_ble_eq_true rfl⟩) hE (hP.sub [0] rfl) rfl rfl rfl hl.1 rfl (Nat.le_of_ble_eq_true rfl) dL_law_316 ⟨Nat.le_of_ble_eq_true rfl, Nat.le_of_ble_eq_true rfl⟩ ?_
  refine W.eq (g2 := F0 m 319 ls [.int (cWide (xs (i + 1)))]) rfl ?_
  refine lv_aload_n hx hb dL_law_319 rfl (lv_at hl 1 rfl) ?_
  refine lv_aload_n hx hb dL_law_320 rfl (lv_at hl 3 rfl) ?_
  refine lv_iload_n hx hb dL_law_321 rfl (lv_at hl 0 rfl) ?_
  refine lv_iconst (v := nI 1) hx hb dL_law_322 (by decide) ?_
  refine j_add hx hb dL_law_323 ?_
  refine j_sld hx hb hX hbl hbA hS (show i + 1 < L by omega) hL dL_law_324 ?_
  refine ro_V 5 0 (rest := [.int (cWide (xs (i + 1)))]) ⟨hx, hb, hml, hown, hts⟩ (c_X6_wide l G (q 26) (q 27) (q 28) (q 29) (q 30) (q 31) tr fi (xs (i + 1))) (cwV 1 hts gL_law_X6_wide rfl rfl rfl (by decide +kernel) ⟨Nat.le_of_ble_eq_true rfl, Nat.le_of_ble_eq_true rfl⟩) hE (hP.sub [26] rfl) rfl rfl rfl hl.1 rfl (Nat.le_of_ble_eq_true rfl) dL_law_325 ⟨Nat.le_of_ble_eq_true rfl, Nat.le_of_ble_eq_true rfl⟩ ?_
  refine W.eq (g2 := F0 m 328 ls [.int (mWide (xs (i + 1))), .int (cWide (xs (i + 1)))]) rfl ?_
  refine lv_icmp_eq (tgt := 755) hx hb dL_law_328 (by decide) (fun _ => ?_) (fun cq => absurd (E_wide _) cq)
  exact kc kp n0 F S B V n1 F1 S1 B1 V1 n2 F2 S2 B2 V2 C tr _ X Y K D hR H locs hP hD hS ls hl

set_option maxHeartbeats 4000000 in
set_option maxRecDepth 100000 in
/-- the law: read -/
theorem law_read {p : Program} {l : Launch} {e : Env} {s : State} {m : MethodId} {below : List Frame} {meth : Method} {c : Code} {b L i at0 : Nat} {xs : Nat → Int32} {A : Nat → Prop} {G : EG} {q : Nat → Nat} {Q : State → Prop} (C0 : LC p s m c b L xs A G at0) (hi : i + 4 ≤ L) {kp : Nat} {n0 : Nat} {F : Nat → Nat} {S : Nat → Nat} {B : Nat → Nat} {V : Nat → Nat} {n1 : Nat} {F1 : Nat → Nat} {S1 : Nat → Nat} {B1 : Nat → Nat} {V1 : Nat → Nat} {n2 : Nat} {F2 : Nat → Nat} {S2 : Nat → Nat} {B2 : Nat → Nat} {V2 : Nat → Nat} {C : Nat → Nat} {tr : Nat} {fi : Int32} {X : Nat → Nat} {Y : Nat → Nat} {K : Nat → Nat} {D : Nat → Nat} (hR : LR kp n0 F S B V n1 F1 S1 B1 V1 n2 F2 S2 B2 V2 C X Y K D) {H : Heap} {locs : List Loc} (hP : va_P G.1 vwCl (LW G q kp n0 F S B V n1 F1 S1 B1 V1 n2 F2 S2 B2 V2 C tr fi X Y K D) H) (hD : va_D A (LW G q kp n0 F S B V n1 F1 S1 B1 V1 n2 F2 S2 B2 V2 C tr fi X Y K D)) (hS : va_S A s.heap H locs) {ls : Array Slot} (hl : lv_has ls 4 [(3, .int (nI i)), (2, .ref (q 26)), (1, .ref (q 0)), (0, .ref b)]) (kc : LK p l e s m below meth c b i A G q Q 755) : W p l e room_1 s m #[Value.ref b] below meth c H locs 33 4450 Q (F0 m 333 ls []) := by
  obtain ⟨hx, hb, hml, hown, hts, hX, hbl, hbA, hE, hA, hZ, hT, hL⟩ := C0
  refine lv_aload_n hx hb dL_law_333 rfl (lv_at hl 2 rfl) ?_
  refine lv_aload_n hx hb dL_law_334 rfl (lv_at hl 3 rfl) ?_
  refine lv_iload_n hx hb dL_law_335 rfl (lv_at hl 0 rfl) ?_
  refine lv_iconst (v := nI 1) hx hb dL_law_336 (by decide) ?_
  refine j_add hx hb dL_law_337 ?_
  refine j_sld hx hb hX hbl hbA hS (show i + 1 < L by omega) hL dL_law_338 ?_
  refine lv_aload_n hx hb dL_law_339 rfl (lv_at hl 3 rfl) ?_
  refine lv_iload_n hx hb dL_law_340 rfl (lv_at hl 0 rfl) ?_
  refine lv_iconst (v := nI 2) hx hb dL_law_341 (by decide) ?_
  refine j_add hx hb dL_law_342 ?_
  refine j_sld hx hb hX hbl hbA hS (show i + 2 < L by omega) hL dL_law_343 ?_
  refine ro_V 4 0 (rest := []) ⟨hx, hb, hml, hown, hts⟩ (c_X5_read l G (q 0) (q 1) (q 3) (q 10) kp (q 25) (q 2) errT errT_lt (xs (i + 1)) (xs (i + 2))) (cwV 2 hts gL_law_X5_read rfl rfl rfl (by decide +kernel) ⟨Nat.le_of_ble_eq_true rfl, Nat.le_of_ble_eq_true rfl⟩) hE (hP.sub [0, 1, 2] rfl) rfl rfl rfl hl.1 rfl (Nat.le_of_ble_eq_true rfl) dL_law_344 ⟨Nat.le_of_ble_eq_true rfl, Nat.le_of_ble_eq_true rfl⟩ ?_
  refine W.eq (g2 := F0 m 347 ls [.int (cRead errT (xs (i + 1)) (xs (i + 2)))]) rfl ?_
  refine lv_aload_n hx hb dL_law_347 rfl (lv_at hl 1 rfl) ?_
  refine lv_aload_n hx hb dL_law_348 rfl (lv_at hl 3 rfl) ?_
  refine lv_iload_n hx hb dL_law_349 rfl (lv_at hl 0 rfl) ?_
  refine lv_iconst (v := nI 1) hx hb dL_law_350 (by decide) ?_
  refine j_add hx hb dL_law_351 ?_
  refine j_sld hx hb hX hbl hbA hS (show i + 1 < L by omega) hL dL_law_352 ?_
  refine lv_aload_n hx hb dL_law_353 rfl (lv_at hl 3 rfl) ?_
  refine lv_iload_n hx hb dL_law_354 rfl (lv_at hl 0 rfl) ?_
  refine lv_iconst (v := nI 2) hx hb dL_law_355 (by decide) ?_
  refine j_add hx hb dL_law_356 ?_
  refine j_sld hx hb hX hbl hbA hS (show i + 2 < L by omega) hL dL_law_357 ?_
  refine ro_V 5 0 (rest := [.int (cRead errT (xs (i + 1)) (xs (i + 2)))]) ⟨hx, hb, hml, hown, hts⟩ (c_X6_read l G (q 26) (q 27) (q 28) (q 29) (q 30) (q 31) tr fi errT errT_lt (xs (i + 1)) (xs (i + 2))) (cwV 2 hts gL_law_X6_read rfl rfl rfl (by decide +kernel) ⟨Nat.le_of_ble_eq_true rfl, Nat.le_of_ble_eq_true rfl⟩) hE (hP.sub [26, 30] rfl) rfl rfl rfl hl.1 rfl (Nat.le_of_ble_eq_true rfl) dL_law_358 ⟨Nat.le_of_ble_eq_true rfl, Nat.le_of_ble_eq_true rfl⟩ ?_
  refine W.eq (g2 := F0 m 361 ls [.int (mRead errT (xs (i + 1)) (xs (i + 2))), .int (cRead errT (xs (i + 1)) (xs (i + 2)))]) rfl ?_
  refine lv_icmp_eq (tgt := 755) hx hb dL_law_361 (by decide) (fun _ => ?_) (fun cq => absurd (E_read _ _) cq)
  exact kc kp n0 F S B V n1 F1 S1 B1 V1 n2 F2 S2 B2 V2 C tr _ X Y K D hR H locs hP hD hS ls hl

set_option maxHeartbeats 4000000 in
set_option maxRecDepth 100000 in
/-- the law: keeps -/
theorem law_keeps {p : Program} {l : Launch} {e : Env} {s : State} {m : MethodId} {below : List Frame} {meth : Method} {c : Code} {b L i at0 : Nat} {xs : Nat → Int32} {A : Nat → Prop} {G : EG} {q : Nat → Nat} {Q : State → Prop} (C0 : LC p s m c b L xs A G at0) (hi : i + 4 ≤ L) {kp : Nat} {n0 : Nat} {F : Nat → Nat} {S : Nat → Nat} {B : Nat → Nat} {V : Nat → Nat} {n1 : Nat} {F1 : Nat → Nat} {S1 : Nat → Nat} {B1 : Nat → Nat} {V1 : Nat → Nat} {n2 : Nat} {F2 : Nat → Nat} {S2 : Nat → Nat} {B2 : Nat → Nat} {V2 : Nat → Nat} {C : Nat → Nat} {tr : Nat} {fi : Int32} {X : Nat → Nat} {Y : Nat → Nat} {K : Nat → Nat} {D : Nat → Nat} (hR : LR kp n0 F S B V n1 F1 S1 B1 V1 n2 F2 S2 B2 V2 C X Y K D) {H : Heap} {locs : List Loc} (hP : va_P G.1 vwCl (LW G q kp n0 F S B V n1 F1 S1 B1 V1 n2 F2 S2 B2 V2 C tr fi X Y K D) H) (hD : va_D A (LW G q kp n0 F S B V n1 F1 S1 B1 V1 n2 F2 S2 B2 V2 C tr fi X Y K D)) (hS : va_S A s.heap H locs) {ls : Array Slot} (hl : lv_has ls 4 [(3, .int (nI i)), (2, .ref (q 26)), (1, .ref (q 0)), (0, .ref b)]) (kc : LK p l e s m below meth c b i A G q Q 755) : W p l e room_1 s m #[Value.ref b] below meth c H locs 33 4450 Q (F0 m 366 ls []) := by
  obtain ⟨hx, hb, hml, hown, hts, hX, hbl, hbA, hE, hA, hZ, hT, hL⟩ := C0
  refine lv_aload_n hx hb dL_law_366 rfl (lv_at hl 2 rfl) ?_
  refine lv_aload_n hx hb dL_law_367 rfl (lv_at hl 3 rfl) ?_
  refine lv_iload_n hx hb dL_law_368 rfl (lv_at hl 0 rfl) ?_
  refine lv_iconst (v := nI 1) hx hb dL_law_369 (by decide) ?_
  refine j_add hx hb dL_law_370 ?_
  refine j_sld hx hb hX hbl hbA hS (show i + 1 < L by omega) hL dL_law_371 ?_
  refine lv_aload_n hx hb dL_law_372 rfl (lv_at hl 3 rfl) ?_
  refine lv_iload_n hx hb dL_law_373 rfl (lv_at hl 0 rfl) ?_
  refine lv_iconst (v := nI 2) hx hb dL_law_374 (by decide) ?_
  refine j_add hx hb dL_law_375 ?_
  refine j_sld hx hb hX hbl hbA hS (show i + 2 < L by omega) hL dL_law_376 ?_
  refine ro_V 4 0 (rest := []) ⟨hx, hb, hml, hown, hts⟩ (c_X5_keeps l G (q 0) (q 1) (q 3) (q 10) kp (q 25) (xs (i + 1)) (xs (i + 2))) (cwV 2 hts gL_law_X5_keeps rfl rfl rfl (by decide +kernel) ⟨Nat.le_of_ble_eq_true rfl, Nat.le_of_ble_eq_true rfl⟩) hE (hP.sub [0] rfl) rfl rfl rfl hl.1 rfl (Nat.le_of_ble_eq_true rfl) dL_law_377 ⟨Nat.le_of_ble_eq_true rfl, Nat.le_of_ble_eq_true rfl⟩ ?_
  refine W.eq (g2 := F0 m 380 ls [.int (cKeeps (xs (i + 1)) (xs (i + 2)))]) rfl ?_
  refine lv_aload_n hx hb dL_law_380 rfl (lv_at hl 1 rfl) ?_
  refine lv_aload_n hx hb dL_law_381 rfl (lv_at hl 3 rfl) ?_
  refine lv_iload_n hx hb dL_law_382 rfl (lv_at hl 0 rfl) ?_
  refine lv_iconst (v := nI 1) hx hb dL_law_383 (by decide) ?_
  refine j_add hx hb dL_law_384 ?_
  refine j_sld hx hb hX hbl hbA hS (show i + 1 < L by omega) hL dL_law_385 ?_
  refine lv_aload_n hx hb dL_law_386 rfl (lv_at hl 3 rfl) ?_
  refine lv_iload_n hx hb dL_law_387 rfl (lv_at hl 0 rfl) ?_
  refine lv_iconst (v := nI 2) hx hb dL_law_388 (by decide) ?_
  refine j_add hx hb dL_law_389 ?_
  refine j_sld hx hb hX hbl hbA hS (show i + 2 < L by omega) hL dL_law_390 ?_
  refine ro_V 5 0 (rest := [.int (cKeeps (xs (i + 1)) (xs (i + 2)))]) ⟨hx, hb, hml, hown, hts⟩ (c_X6_keeps l G (q 26) (q 27) (q 28) (q 29) (q 30) (q 31) tr fi (xs (i + 1)) (xs (i + 2))) (cwV 2 hts gL_law_X6_keeps rfl rfl rfl (by decide +kernel) ⟨Nat.le_of_ble_eq_true rfl, Nat.le_of_ble_eq_true rfl⟩) hE (hP.sub [26] rfl) rfl rfl rfl hl.1 rfl (Nat.le_of_ble_eq_true rfl) dL_law_391 ⟨Nat.le_of_ble_eq_true rfl, Nat.le_of_ble_eq_true rfl⟩ ?_
  refine W.eq (g2 := F0 m 394 ls [.int (mKeeps (xs (i + 1)) (xs (i + 2))), .int (cKeeps (xs (i + 1)) (xs (i + 2)))]) rfl ?_
  refine lv_icmp_eq (tgt := 755) hx hb dL_law_394 (by decide) (fun _ => ?_) (fun cq => absurd (E_keeps _ _) cq)
  exact kc kp n0 F S B V n1 F1 S1 B1 V1 n2 F2 S2 B2 V2 C tr _ X Y K D hR H locs hP hD hS ls hl

set_option maxHeartbeats 4000000 in
set_option maxRecDepth 100000 in
/-- the law: moved -/
theorem law_moved {p : Program} {l : Launch} {e : Env} {s : State} {m : MethodId} {below : List Frame} {meth : Method} {c : Code} {b L i at0 : Nat} {xs : Nat → Int32} {A : Nat → Prop} {G : EG} {q : Nat → Nat} {Q : State → Prop} (C0 : LC p s m c b L xs A G at0) (hi : i + 4 ≤ L) {kp : Nat} {n0 : Nat} {F : Nat → Nat} {S : Nat → Nat} {B : Nat → Nat} {V : Nat → Nat} {n1 : Nat} {F1 : Nat → Nat} {S1 : Nat → Nat} {B1 : Nat → Nat} {V1 : Nat → Nat} {n2 : Nat} {F2 : Nat → Nat} {S2 : Nat → Nat} {B2 : Nat → Nat} {V2 : Nat → Nat} {C : Nat → Nat} {tr : Nat} {fi : Int32} {X : Nat → Nat} {Y : Nat → Nat} {K : Nat → Nat} {D : Nat → Nat} (hR : LR kp n0 F S B V n1 F1 S1 B1 V1 n2 F2 S2 B2 V2 C X Y K D) {H : Heap} {locs : List Loc} (hP : va_P G.1 vwCl (LW G q kp n0 F S B V n1 F1 S1 B1 V1 n2 F2 S2 B2 V2 C tr fi X Y K D) H) (hD : va_D A (LW G q kp n0 F S B V n1 F1 S1 B1 V1 n2 F2 S2 B2 V2 C tr fi X Y K D)) (hS : va_S A s.heap H locs) {ls : Array Slot} (hl : lv_has ls 4 [(3, .int (nI i)), (2, .ref (q 26)), (1, .ref (q 0)), (0, .ref b)]) (kc : LK p l e s m below meth c b i A G q Q 755) : W p l e room_1 s m #[Value.ref b] below meth c H locs 33 4450 Q (F0 m 399 ls []) := by
  obtain ⟨hx, hb, hml, hown, hts, hX, hbl, hbA, hE, hA, hZ, hT, hL⟩ := C0
  refine lv_aload_n hx hb dL_law_399 rfl (lv_at hl 2 rfl) ?_
  refine lv_aload_n hx hb dL_law_400 rfl (lv_at hl 3 rfl) ?_
  refine lv_iload_n hx hb dL_law_401 rfl (lv_at hl 0 rfl) ?_
  refine lv_iconst (v := nI 1) hx hb dL_law_402 (by decide) ?_
  refine j_add hx hb dL_law_403 ?_
  refine j_sld hx hb hX hbl hbA hS (show i + 1 < L by omega) hL dL_law_404 ?_
  refine lv_aload_n hx hb dL_law_405 rfl (lv_at hl 3 rfl) ?_
  refine lv_iload_n hx hb dL_law_406 rfl (lv_at hl 0 rfl) ?_
  refine lv_iconst (v := nI 2) hx hb dL_law_407 (by decide) ?_
  refine j_add hx hb dL_law_408 ?_
  refine j_sld hx hb hX hbl hbA hS (show i + 2 < L by omega) hL dL_law_409 ?_
  refine lv_aload_n hx hb dL_law_410 rfl (lv_at hl 3 rfl) ?_
  refine lv_iload_n hx hb dL_law_411 rfl (lv_at hl 0 rfl) ?_
  refine lv_iconst (v := nI 3) hx hb dL_law_412 (by decide) ?_
  refine j_add hx hb dL_law_413 ?_
  refine j_sld hx hb hX hbl hbA hS (show i + 3 < L by omega) hL dL_law_414 ?_
  refine ro_V 4 0 (rest := []) ⟨hx, hb, hml, hown, hts⟩ (c_X5_moved l G (q 0) (q 1) (q 3) (q 10) kp (q 25) (xs (i + 1)) (xs (i + 2)) (xs (i + 3))) (cwV 3 hts gL_law_X5_moved rfl rfl rfl (by decide +kernel) ⟨Nat.le_of_ble_eq_true rfl, Nat.le_of_ble_eq_true rfl⟩) hE (hP.sub [0] rfl) rfl rfl rfl hl.1 rfl (Nat.le_of_ble_eq_true rfl) dL_law_415 ⟨Nat.le_of_ble_eq_true rfl, Nat.le_of_ble_eq_true rfl⟩ ?_
  refine W.eq (g2 := F0 m 418 ls [.int (mMoved (xs (i + 1)) (xs (i + 2)) (xs (i + 3)))]) rfl ?_
  refine lv_aload_n hx hb dL_law_418 rfl (lv_at hl 1 rfl) ?_
  refine lv_aload_n hx hb dL_law_419 rfl (lv_at hl 3 rfl) ?_
  refine lv_iload_n hx hb dL_law_420 rfl (lv_at hl 0 rfl) ?_
  refine lv_iconst (v := nI 1) hx hb dL_law_421 (by decide) ?_
  refine j_add hx hb dL_law_422 ?_
  refine j_sld hx hb hX hbl hbA hS (show i + 1 < L by omega) hL dL_law_423 ?_
  refine lv_aload_n hx hb dL_law_424 rfl (lv_at hl 3 rfl) ?_
  refine lv_iload_n hx hb dL_law_425 rfl (lv_at hl 0 rfl) ?_
  refine lv_iconst (v := nI 2) hx hb dL_law_426 (by decide) ?_
  refine j_add hx hb dL_law_427 ?_
  refine j_sld hx hb hX hbl hbA hS (show i + 2 < L by omega) hL dL_law_428 ?_
  refine lv_aload_n hx hb dL_law_429 rfl (lv_at hl 3 rfl) ?_
  refine lv_iload_n hx hb dL_law_430 rfl (lv_at hl 0 rfl) ?_
  refine lv_iconst (v := nI 3) hx hb dL_law_431 (by decide) ?_
  refine j_add hx hb dL_law_432 ?_
  refine j_sld hx hb hX hbl hbA hS (show i + 3 < L by omega) hL dL_law_433 ?_
  refine ro_V 5 0 (rest := [.int (mMoved (xs (i + 1)) (xs (i + 2)) (xs (i + 3)))]) ⟨hx, hb, hml, hown, hts⟩ (c_X6_moved l G (q 26) (q 27) (q 28) (q 29) (q 30) (q 31) tr fi (xs (i + 1)) (xs (i + 2)) (xs (i + 3))) (cwV 3 hts gL_law_X6_moved rfl rfl rfl (by decide +kernel) ⟨Nat.le_of_ble_eq_true rfl, Nat.le_of_ble_eq_true rfl⟩) hE (hP.sub [26] rfl) rfl rfl rfl hl.1 rfl (Nat.le_of_ble_eq_true rfl) dL_law_434 ⟨Nat.le_of_ble_eq_true rfl, Nat.le_of_ble_eq_true rfl⟩ ?_
  refine W.eq (g2 := F0 m 437 ls [.int (mMoved (xs (i + 1)) (xs (i + 2)) (xs (i + 3))), .int (mMoved (xs (i + 1)) (xs (i + 2)) (xs (i + 3)))]) rfl ?_
  refine lv_icmp_eq (tgt := 755) hx hb dL_law_437 (by decide) (fun _ => ?_) (fun cq => absurd rfl cq)
  exact kc kp n0 F S B V n1 F1 S1 B1 V1 n2 F2 S2 B2 V2 C tr _ X Y K D hR H locs hP hD hS ls hl

set_option maxHeartbeats 4000000 in
set_option maxRecDepth 100000 in
/-- the law: move -/
theorem law_move {p : Program} {l : Launch} {e : Env} {s : State} {m : MethodId} {below : List Frame} {meth : Method} {c : Code} {b L i at0 : Nat} {xs : Nat → Int32} {A : Nat → Prop} {G : EG} {q : Nat → Nat} {Q : State → Prop} (C0 : LC p s m c b L xs A G at0) (hi : i + 4 ≤ L) {kp : Nat} {n0 : Nat} {F : Nat → Nat} {S : Nat → Nat} {B : Nat → Nat} {V : Nat → Nat} {n1 : Nat} {F1 : Nat → Nat} {S1 : Nat → Nat} {B1 : Nat → Nat} {V1 : Nat → Nat} {n2 : Nat} {F2 : Nat → Nat} {S2 : Nat → Nat} {B2 : Nat → Nat} {V2 : Nat → Nat} {C : Nat → Nat} {tr : Nat} {fi : Int32} {X : Nat → Nat} {Y : Nat → Nat} {K : Nat → Nat} {D : Nat → Nat} (hR : LR kp n0 F S B V n1 F1 S1 B1 V1 n2 F2 S2 B2 V2 C X Y K D) {H : Heap} {locs : List Loc} (hP : va_P G.1 vwCl (LW G q kp n0 F S B V n1 F1 S1 B1 V1 n2 F2 S2 B2 V2 C tr fi X Y K D) H) (hD : va_D A (LW G q kp n0 F S B V n1 F1 S1 B1 V1 n2 F2 S2 B2 V2 C tr fi X Y K D)) (hS : va_S A s.heap H locs) {ls : Array Slot} (hl : lv_has ls 4 [(3, .int (nI i)), (2, .ref (q 26)), (1, .ref (q 0)), (0, .ref b)]) (kc : LK p l e s m below meth c b i A G q Q 755) : W p l e room_1 s m #[Value.ref b] below meth c H locs 33 4450 Q (F0 m 442 ls []) := by
  obtain ⟨hx, hb, hml, hown, hts, hX, hbl, hbA, hE, hA, hZ, hT, hL⟩ := C0
  refine lv_aload_n hx hb dL_law_442 rfl (lv_at hl 2 rfl) ?_
  refine lv_aload_n hx hb dL_law_443 rfl (lv_at hl 3 rfl) ?_
  refine lv_iload_n hx hb dL_law_444 rfl (lv_at hl 0 rfl) ?_
  refine lv_iconst (v := nI 1) hx hb dL_law_445 (by decide) ?_
  refine j_add hx hb dL_law_446 ?_
  refine j_sld hx hb hX hbl hbA hS (show i + 1 < L by omega) hL dL_law_447 ?_
  refine lv_aload_n hx hb dL_law_448 rfl (lv_at hl 3 rfl) ?_
  refine lv_iload_n hx hb dL_law_449 rfl (lv_at hl 0 rfl) ?_
  refine lv_iconst (v := nI 2) hx hb dL_law_450 (by decide) ?_
  refine j_add hx hb dL_law_451 ?_
  refine j_sld hx hb hX hbl hbA hS (show i + 2 < L by omega) hL dL_law_452 ?_
  refine wr_V 4 0 (rest := []) (wr := [1, 2, 8, 9, 10, 11, 12, 13, 14, 15, 16, 17, 18, 19, 20, 21, 22, 23, 24, 25, 26, 27, 28, 29, 30, 31].filterMap (fun z9 => (LW G q kp n0 F S B V n1 F1 S1 B1 V1 n2 F2 S2 B2 V2 C tr fi X Y K D)[z9]?)) ⟨hx, hb, hml, hown, hts⟩ (c_X5_move l G (q 0) (q 1) (q 3) (q 10) kp (q 25) (q 4) (q 8) n0 (q 5) (q 6) (q 7) F S B hR.n8 (xs (i + 1)) (xs (i + 2)) H.size) (cwV 2 hts gL_law_X5_move rfl rfl rfl (by decide +kernel) ⟨Nat.le_of_ble_eq_true rfl, Nat.le_of_ble_eq_true rfl⟩) hE hP hD hS hA [0, 3, 4, 5, 6, 7] [1, 2, 8, 9, 10, 11, 12, 13, 14, 15, 16, 17, 18, 19, 20, 21, 22, 23, 24, 25, 26, 27, 28, 29, 30, 31] rfl rfl (by decide) (by decide) (by decide) rfl rfl rfl hl.1 rfl (Nat.le_of_ble_eq_true rfl) dL_law_453 ⟨Nat.le_of_ble_eq_true rfl, Nat.le_of_ble_eq_true rfl⟩ (fun H locs hP hD hS => ?_)
  have hP : va_P G.1 vwCl (LW G q kp (cMoveN n0 (xs (i + 1)) (xs (i + 2))) (cMoveF n0 F (xs (i + 1)) (xs (i + 2))) (cMoveS n0 S (xs (i + 1)) (xs (i + 2))) (cMoveB n0 B (xs (i + 1)) (xs (i + 2))) V n1 F1 S1 B1 V1 n2 F2 S2 B2 V2 C tr fi X Y K D) H := hP.sub [26, 0, 1, 27, 28, 29, 30, 31, 2, 3, 4, 5, 6, 7, 8, 9, 10, 11, 12, 13, 14, 15, 16, 17, 18, 19, 20, 21, 22, 23, 24, 25] rfl
  have hD : va_D A (LW G q kp (cMoveN n0 (xs (i + 1)) (xs (i + 2))) (cMoveF n0 F (xs (i + 1)) (xs (i + 2))) (cMoveS n0 S (xs (i + 1)) (xs (i + 2))) (cMoveB n0 B (xs (i + 1)) (xs (i + 2))) V n1 F1 S1 B1 V1 n2 F2 S2 B2 V2 C tr fi X Y K D) := hD.sub [26, 0, 1, 27, 28, 29, 30, 31, 2, 3, 4, 5, 6, 7, 8, 9, 10, 11, 12, 13, 14, 15, 16, 17, 18, 19, 20, 21, 22, 23, 24, 25] (by decide) rfl
  refine W.eq (g2 := F0 m 456 ls [.int (cMoveR n0 (xs (i + 1)) (xs (i + 2)))]) rfl ?_
  refine lv_aload_n hx hb dL_law_456 rfl (lv_at hl 1 rfl) ?_
  refine lv_aload_n hx hb dL_law_457 rfl (lv_at hl 3 rfl) ?_
  refine lv_iload_n hx hb dL_law_458 rfl (lv_at hl 0 rfl) ?_
  refine lv_iconst (v := nI 1) hx hb dL_law_459 (by decide) ?_
  refine j_add hx hb dL_law_460 ?_
  refine j_sld hx hb hX hbl hbA hS (show i + 1 < L by omega) hL dL_law_461 ?_
  refine lv_aload_n hx hb dL_law_462 rfl (lv_at hl 3 rfl) ?_
  refine lv_iload_n hx hb dL_law_463 rfl (lv_at hl 0 rfl) ?_
  refine lv_iconst (v := nI 2) hx hb dL_law_464 (by decide) ?_
  refine j_add hx hb dL_law_465 ?_
  refine j_sld hx hb hX hbl hbA hS (show i + 2 < L by omega) hL dL_law_466 ?_
  refine wr_V 5 0 (rest := [.int (cMoveR n0 (xs (i + 1)) (xs (i + 2)))]) (wr := [0, 1, 2, 3, 4, 5, 6, 7, 8, 9, 10, 11, 12, 13, 14, 15, 16, 17, 18, 19, 20, 21, 22, 23, 24, 25, 28, 29, 30, 31].filterMap (fun z9 => (LW G q kp (cMoveN n0 (xs (i + 1)) (xs (i + 2))) (cMoveF n0 F (xs (i + 1)) (xs (i + 2))) (cMoveS n0 S (xs (i + 1)) (xs (i + 2))) (cMoveB n0 B (xs (i + 1)) (xs (i + 2))) V n1 F1 S1 B1 V1 n2 F2 S2 B2 V2 C tr fi X Y K D)[z9]?)) ⟨hx, hb, hml, hown, hts⟩ (c_X6_move l G (q 26) (q 27) (q 28) (q 29) (q 30) (q 31) tr fi X hR.x8 (xs (i + 1)) (xs (i + 2)) H.size) (cwV 2 hts gL_law_X6_move rfl rfl rfl (by decide +kernel) ⟨Nat.le_of_ble_eq_true rfl, Nat.le_of_ble_eq_true rfl⟩) hE hP hD hS hA [26, 27] [0, 1, 2, 3, 4, 5, 6, 7, 8, 9, 10, 11, 12, 13, 14, 15, 16, 17, 18, 19, 20, 21, 22, 23, 24, 25, 28, 29, 30, 31] rfl rfl (by decide) (by decide) (by decide) rfl rfl rfl hl.1 rfl (Nat.le_of_ble_eq_true rfl) dL_law_467 ⟨Nat.le_of_ble_eq_true rfl, Nat.le_of_ble_eq_true rfl⟩ (fun H locs hP hD hS => ?_)
  have hP : va_P G.1 vwCl (LW G q kp (cMoveN n0 (xs (i + 1)) (xs (i + 2))) (cMoveF n0 F (xs (i + 1)) (xs (i + 2))) (cMoveS n0 S (xs (i + 1)) (xs (i + 2))) (cMoveB n0 B (xs (i + 1)) (xs (i + 2))) V n1 F1 S1 B1 V1 n2 F2 S2 B2 V2 C tr fi (mMoveX X (xs (i + 1)) (xs (i + 2))) Y K D) H := hP.sub [0, 1, 2, 3, 4, 5, 6, 7, 8, 9, 10, 11, 12, 13, 14, 15, 16, 17, 18, 19, 20, 21, 22, 23, 24, 25, 30, 31, 26, 27, 28, 29] rfl
  have hD : va_D A (LW G q kp (cMoveN n0 (xs (i + 1)) (xs (i + 2))) (cMoveF n0 F (xs (i + 1)) (xs (i + 2))) (cMoveS n0 S (xs (i + 1)) (xs (i + 2))) (cMoveB n0 B (xs (i + 1)) (xs (i + 2))) V n1 F1 S1 B1 V1 n2 F2 S2 B2 V2 C tr fi (mMoveX X (xs (i + 1)) (xs (i + 2))) Y K D) := hD.sub [0, 1, 2, 3, 4, 5, 6, 7, 8, 9, 10, 11, 12, 13, 14, 15, 16, 17, 18, 19, 20, 21, 22, 23, 24, 25, 30, 31, 26, 27, 28, 29] (by decide) rfl
  refine W.eq (g2 := F0 m 470 ls [.int (mMoveR X (xs (i + 1)) (xs (i + 2))), .int (cMoveR n0 (xs (i + 1)) (xs (i + 2)))]) rfl ?_
  refine lv_icmp_eq (tgt := 755) hx hb dL_law_470 (by decide) (fun _ => ?_) (fun cq => absurd (E_move hR _ _) cq)
  exact kc kp (cMoveN n0 (xs (i + 1)) (xs (i + 2))) (cMoveF n0 F (xs (i + 1)) (xs (i + 2))) (cMoveS n0 S (xs (i + 1)) (xs (i + 2))) (cMoveB n0 B (xs (i + 1)) (xs (i + 2))) V n1 F1 S1 B1 V1 n2 F2 S2 B2 V2 C tr _ (mMoveX X (xs (i + 1)) (xs (i + 2))) Y K D (hR.move _ _) H locs hP hD hS ls hl

set_option maxHeartbeats 4000000 in
set_option maxRecDepth 100000 in
/-- the law: drop -/
theorem law_drop {p : Program} {l : Launch} {e : Env} {s : State} {m : MethodId} {below : List Frame} {meth : Method} {c : Code} {b L i at0 : Nat} {xs : Nat → Int32} {A : Nat → Prop} {G : EG} {q : Nat → Nat} {Q : State → Prop} (C0 : LC p s m c b L xs A G at0) (hi : i + 4 ≤ L) {kp : Nat} {n0 : Nat} {F : Nat → Nat} {S : Nat → Nat} {B : Nat → Nat} {V : Nat → Nat} {n1 : Nat} {F1 : Nat → Nat} {S1 : Nat → Nat} {B1 : Nat → Nat} {V1 : Nat → Nat} {n2 : Nat} {F2 : Nat → Nat} {S2 : Nat → Nat} {B2 : Nat → Nat} {V2 : Nat → Nat} {C : Nat → Nat} {tr : Nat} {fi : Int32} {X : Nat → Nat} {Y : Nat → Nat} {K : Nat → Nat} {D : Nat → Nat} (hR : LR kp n0 F S B V n1 F1 S1 B1 V1 n2 F2 S2 B2 V2 C X Y K D) {H : Heap} {locs : List Loc} (hP : va_P G.1 vwCl (LW G q kp n0 F S B V n1 F1 S1 B1 V1 n2 F2 S2 B2 V2 C tr fi X Y K D) H) (hD : va_D A (LW G q kp n0 F S B V n1 F1 S1 B1 V1 n2 F2 S2 B2 V2 C tr fi X Y K D)) (hS : va_S A s.heap H locs) {ls : Array Slot} (hl : lv_has ls 4 [(3, .int (nI i)), (2, .ref (q 26)), (1, .ref (q 0)), (0, .ref b)]) (kc : LK p l e s m below meth c b i A G q Q 755) : W p l e room_1 s m #[Value.ref b] below meth c H locs 33 4450 Q (F0 m 475 ls []) := by
  obtain ⟨hx, hb, hml, hown, hts, hX, hbl, hbA, hE, hA, hZ, hT, hL⟩ := C0
  refine lv_aload_n hx hb dL_law_475 rfl (lv_at hl 2 rfl) ?_
  refine lv_aload_n hx hb dL_law_476 rfl (lv_at hl 3 rfl) ?_
  refine lv_iload_n hx hb dL_law_477 rfl (lv_at hl 0 rfl) ?_
  refine lv_iconst (v := nI 1) hx hb dL_law_478 (by decide) ?_
  refine j_add hx hb dL_law_479 ?_
  refine j_sld hx hb hX hbl hbA hS (show i + 1 < L by omega) hL dL_law_480 ?_
  refine wr_V 4 0 (rest := []) (wr := [1, 2, 8, 9, 10, 11, 12, 13, 14, 15, 16, 17, 18, 19, 20, 21, 22, 23, 24, 25, 26, 27, 28, 29, 30, 31].filterMap (fun z9 => (LW G q kp n0 F S B V n1 F1 S1 B1 V1 n2 F2 S2 B2 V2 C tr fi X Y K D)[z9]?)) ⟨hx, hb, hml, hown, hts⟩ (c_X5_drop l G (q 0) (q 1) (q 3) (q 10) kp (q 25) (q 4) (q 8) n0 (q 5) (q 6) (q 7) F S B hR.n8 (xs (i + 1)) H.size) (cwV 1 hts gL_law_X5_drop rfl rfl rfl (by decide +kernel) ⟨Nat.le_of_ble_eq_true rfl, Nat.le_of_ble_eq_true rfl⟩) hE hP hD hS hA [0, 3, 4, 5, 6, 7] [1, 2, 8, 9, 10, 11, 12, 13, 14, 15, 16, 17, 18, 19, 20, 21, 22, 23, 24, 25, 26, 27, 28, 29, 30, 31] rfl rfl (by decide) (by decide) (by decide) rfl rfl rfl hl.1 rfl (Nat.le_of_ble_eq_true rfl) dL_law_481 ⟨Nat.le_of_ble_eq_true rfl, Nat.le_of_ble_eq_true rfl⟩ (fun H locs hP hD hS => ?_)
  have hP : va_P G.1 vwCl (LW G q kp (cDropN n0 (xs (i + 1))) (cDropA n0 F (xs (i + 1))) (cDropA n0 S (xs (i + 1))) (cDropA n0 B (xs (i + 1))) V n1 F1 S1 B1 V1 n2 F2 S2 B2 V2 C tr fi X Y K D) H := hP.sub [26, 0, 1, 27, 28, 29, 30, 31, 2, 3, 4, 5, 6, 7, 8, 9, 10, 11, 12, 13, 14, 15, 16, 17, 18, 19, 20, 21, 22, 23, 24, 25] rfl
  have hD : va_D A (LW G q kp (cDropN n0 (xs (i + 1))) (cDropA n0 F (xs (i + 1))) (cDropA n0 S (xs (i + 1))) (cDropA n0 B (xs (i + 1))) V n1 F1 S1 B1 V1 n2 F2 S2 B2 V2 C tr fi X Y K D) := hD.sub [26, 0, 1, 27, 28, 29, 30, 31, 2, 3, 4, 5, 6, 7, 8, 9, 10, 11, 12, 13, 14, 15, 16, 17, 18, 19, 20, 21, 22, 23, 24, 25] (by decide) rfl
  refine W.eq (g2 := F0 m 484 ls [.int (cDropR n0 (xs (i + 1)))]) rfl ?_
  refine lv_aload_n hx hb dL_law_484 rfl (lv_at hl 1 rfl) ?_
  refine lv_aload_n hx hb dL_law_485 rfl (lv_at hl 3 rfl) ?_
  refine lv_iload_n hx hb dL_law_486 rfl (lv_at hl 0 rfl) ?_
  refine lv_iconst (v := nI 1) hx hb dL_law_487 (by decide) ?_
  refine j_add hx hb dL_law_488 ?_
  refine j_sld hx hb hX hbl hbA hS (show i + 1 < L by omega) hL dL_law_489 ?_
  refine wr_V 5 0 (rest := [.int (cDropR n0 (xs (i + 1)))]) (wr := [0, 1, 2, 3, 4, 5, 6, 7, 8, 9, 10, 11, 12, 13, 14, 15, 16, 17, 18, 19, 20, 21, 22, 23, 24, 25, 28, 29, 30, 31].filterMap (fun z9 => (LW G q kp (cDropN n0 (xs (i + 1))) (cDropA n0 F (xs (i + 1))) (cDropA n0 S (xs (i + 1))) (cDropA n0 B (xs (i + 1))) V n1 F1 S1 B1 V1 n2 F2 S2 B2 V2 C tr fi X Y K D)[z9]?)) ⟨hx, hb, hml, hown, hts⟩ (c_X6_drop l G (q 26) (q 27) (q 28) (q 29) (q 30) (q 31) tr fi X hR.x8 (xs (i + 1)) H.size) (cwV 1 hts gL_law_X6_drop rfl rfl rfl (by decide +kernel) ⟨Nat.le_of_ble_eq_true rfl, Nat.le_of_ble_eq_true rfl⟩) hE hP hD hS hA [26, 27] [0, 1, 2, 3, 4, 5, 6, 7, 8, 9, 10, 11, 12, 13, 14, 15, 16, 17, 18, 19, 20, 21, 22, 23, 24, 25, 28, 29, 30, 31] rfl rfl (by decide) (by decide) (by decide) rfl rfl rfl hl.1 rfl (Nat.le_of_ble_eq_true rfl) dL_law_490 ⟨Nat.le_of_ble_eq_true rfl, Nat.le_of_ble_eq_true rfl⟩ (fun H locs hP hD hS => ?_)
  have hP : va_P G.1 vwCl (LW G q kp (cDropN n0 (xs (i + 1))) (cDropA n0 F (xs (i + 1))) (cDropA n0 S (xs (i + 1))) (cDropA n0 B (xs (i + 1))) V n1 F1 S1 B1 V1 n2 F2 S2 B2 V2 C tr fi (mDropX X (xs (i + 1))) Y K D) H := hP.sub [0, 1, 2, 3, 4, 5, 6, 7, 8, 9, 10, 11, 12, 13, 14, 15, 16, 17, 18, 19, 20, 21, 22, 23, 24, 25, 30, 31, 26, 27, 28, 29] rfl
  have hD : va_D A (LW G q kp (cDropN n0 (xs (i + 1))) (cDropA n0 F (xs (i + 1))) (cDropA n0 S (xs (i + 1))) (cDropA n0 B (xs (i + 1))) V n1 F1 S1 B1 V1 n2 F2 S2 B2 V2 C tr fi (mDropX X (xs (i + 1))) Y K D) := hD.sub [0, 1, 2, 3, 4, 5, 6, 7, 8, 9, 10, 11, 12, 13, 14, 15, 16, 17, 18, 19, 20, 21, 22, 23, 24, 25, 30, 31, 26, 27, 28, 29] (by decide) rfl
  refine W.eq (g2 := F0 m 493 ls [.int (mDropR X (xs (i + 1))), .int (cDropR n0 (xs (i + 1)))]) rfl ?_
  refine lv_icmp_eq (tgt := 755) hx hb dL_law_493 (by decide) (fun _ => ?_) (fun cq => absurd (E_drop hR _) cq)
  exact kc kp (cDropN n0 (xs (i + 1))) (cDropA n0 F (xs (i + 1))) (cDropA n0 S (xs (i + 1))) (cDropA n0 B (xs (i + 1))) V n1 F1 S1 B1 V1 n2 F2 S2 B2 V2 C tr _ (mDropX X (xs (i + 1))) Y K D (hR.drop _) H locs hP hD hS ls hl

set_option maxHeartbeats 4000000 in
set_option maxRecDepth 100000 in
/-- the law: told -/
theorem law_told {p : Program} {l : Launch} {e : Env} {s : State} {m : MethodId} {below : List Frame} {meth : Method} {c : Code} {b L i at0 : Nat} {xs : Nat → Int32} {A : Nat → Prop} {G : EG} {q : Nat → Nat} {Q : State → Prop} (C0 : LC p s m c b L xs A G at0) (hi : i + 4 ≤ L) {kp : Nat} {n0 : Nat} {F : Nat → Nat} {S : Nat → Nat} {B : Nat → Nat} {V : Nat → Nat} {n1 : Nat} {F1 : Nat → Nat} {S1 : Nat → Nat} {B1 : Nat → Nat} {V1 : Nat → Nat} {n2 : Nat} {F2 : Nat → Nat} {S2 : Nat → Nat} {B2 : Nat → Nat} {V2 : Nat → Nat} {C : Nat → Nat} {tr : Nat} {fi : Int32} {X : Nat → Nat} {Y : Nat → Nat} {K : Nat → Nat} {D : Nat → Nat} (hR : LR kp n0 F S B V n1 F1 S1 B1 V1 n2 F2 S2 B2 V2 C X Y K D) {H : Heap} {locs : List Loc} (hP : va_P G.1 vwCl (LW G q kp n0 F S B V n1 F1 S1 B1 V1 n2 F2 S2 B2 V2 C tr fi X Y K D) H) (hD : va_D A (LW G q kp n0 F S B V n1 F1 S1 B1 V1 n2 F2 S2 B2 V2 C tr fi X Y K D)) (hS : va_S A s.heap H locs) {ls : Array Slot} (hl : lv_has ls 4 [(3, .int (nI i)), (2, .ref (q 26)), (1, .ref (q 0)), (0, .ref b)]) (kc : LK p l e s m below meth c b i A G q Q 755) : W p l e room_1 s m #[Value.ref b] below meth c H locs 33 4450 Q (F0 m 498 ls []) := by
  obtain ⟨hx, hb, hml, hown, hts, hX, hbl, hbA, hE, hA, hZ, hT, hL⟩ := C0
  refine lv_aload_n hx hb dL_law_498 rfl (lv_at hl 2 rfl) ?_
  refine lv_aload_n hx hb dL_law_499 rfl (lv_at hl 3 rfl) ?_
  refine lv_iload_n hx hb dL_law_500 rfl (lv_at hl 0 rfl) ?_
  refine lv_iconst (v := nI 1) hx hb dL_law_501 (by decide) ?_
  refine j_add hx hb dL_law_502 ?_
  refine j_sld hx hb hX hbl hbA hS (show i + 1 < L by omega) hL dL_law_503 ?_
  refine lv_aload_n hx hb dL_law_504 rfl (lv_at hl 3 rfl) ?_
  refine lv_iload_n hx hb dL_law_505 rfl (lv_at hl 0 rfl) ?_
  refine lv_iconst (v := nI 2) hx hb dL_law_506 (by decide) ?_
  refine j_add hx hb dL_law_507 ?_
  refine j_sld hx hb hX hbl hbA hS (show i + 2 < L by omega) hL dL_law_508 ?_
  refine ro_V 4 0 (rest := []) ⟨hx, hb, hml, hown, hts⟩ (c_X5_told l G (q 0) (q 1) (q 3) (q 10) kp (q 25) (q 4) (q 8) n0 (q 5) (q 6) (q 7) F S B hR.n8 hR.bb (xs (i + 1)) (xs (i + 2))) (cwV 2 hts gL_law_X5_told rfl rfl rfl (by decide +kernel) ⟨Nat.le_of_ble_eq_true rfl, Nat.le_of_ble_eq_true rfl⟩) hE (hP.sub [0, 3, 4, 5, 6, 7] rfl) rfl rfl rfl hl.1 rfl (Nat.le_of_ble_eq_true rfl) dL_law_509 ⟨Nat.le_of_ble_eq_true rfl, Nat.le_of_ble_eq_true rfl⟩ ?_
  refine W.eq (g2 := F0 m 512 ls [.int (cTold n0 F S B (xs (i + 1)) (xs (i + 2)))]) rfl ?_
  refine lv_aload_n hx hb dL_law_512 rfl (lv_at hl 1 rfl) ?_
  refine lv_aload_n hx hb dL_law_513 rfl (lv_at hl 3 rfl) ?_
  refine lv_iload_n hx hb dL_law_514 rfl (lv_at hl 0 rfl) ?_
  refine lv_iconst (v := nI 1) hx hb dL_law_515 (by decide) ?_
  refine j_add hx hb dL_law_516 ?_
  refine j_sld hx hb hX hbl hbA hS (show i + 1 < L by omega) hL dL_law_517 ?_
  refine lv_aload_n hx hb dL_law_518 rfl (lv_at hl 3 rfl) ?_
  refine lv_iload_n hx hb dL_law_519 rfl (lv_at hl 0 rfl) ?_
  refine lv_iconst (v := nI 2) hx hb dL_law_520 (by decide) ?_
  refine j_add hx hb dL_law_521 ?_
  refine j_sld hx hb hX hbl hbA hS (show i + 2 < L by omega) hL dL_law_522 ?_
  refine wr_V 5 0 (rest := [.int (cTold n0 F S B (xs (i + 1)) (xs (i + 2)))]) (wr := [0, 1, 2, 3, 4, 5, 6, 7, 8, 9, 10, 11, 12, 13, 14, 15, 16, 17, 18, 19, 20, 21, 22, 23, 24, 25, 28, 29, 30, 31].filterMap (fun z9 => (LW G q kp n0 F S B V n1 F1 S1 B1 V1 n2 F2 S2 B2 V2 C tr fi X Y K D)[z9]?)) ⟨hx, hb, hml, hown, hts⟩ (c_X6_told l G (q 26) (q 27) (q 28) (q 29) (q 30) (q 31) tr fi X hR.x8 hR.xm (xs (i + 1)) (xs (i + 2)) H.size) (cwV 2 hts gL_law_X6_told rfl rfl rfl (by decide +kernel) ⟨Nat.le_of_ble_eq_true rfl, Nat.le_of_ble_eq_true rfl⟩) hE hP hD hS hA [26, 27] [0, 1, 2, 3, 4, 5, 6, 7, 8, 9, 10, 11, 12, 13, 14, 15, 16, 17, 18, 19, 20, 21, 22, 23, 24, 25, 28, 29, 30, 31] rfl rfl (by decide) (by decide) (by decide) rfl rfl rfl hl.1 rfl (Nat.le_of_ble_eq_true rfl) dL_law_523 ⟨Nat.le_of_ble_eq_true rfl, Nat.le_of_ble_eq_true rfl⟩ (fun H locs hP hD hS => ?_)
  have hP : va_P G.1 vwCl (LW G q kp n0 F S B V n1 F1 S1 B1 V1 n2 F2 S2 B2 V2 C (mToldT X (xs (i + 1)) (xs (i + 2)) tr) (mToldF X (xs (i + 1)) (xs (i + 2)) fi) X Y K D) H := hP.sub [0, 1, 2, 3, 4, 5, 6, 7, 8, 9, 10, 11, 12, 13, 14, 15, 16, 17, 18, 19, 20, 21, 22, 23, 24, 25, 30, 31, 26, 27, 28, 29] rfl
  have hD : va_D A (LW G q kp n0 F S B V n1 F1 S1 B1 V1 n2 F2 S2 B2 V2 C (mToldT X (xs (i + 1)) (xs (i + 2)) tr) (mToldF X (xs (i + 1)) (xs (i + 2)) fi) X Y K D) := hD.sub [0, 1, 2, 3, 4, 5, 6, 7, 8, 9, 10, 11, 12, 13, 14, 15, 16, 17, 18, 19, 20, 21, 22, 23, 24, 25, 30, 31, 26, 27, 28, 29] (by decide) rfl
  refine W.eq (g2 := F0 m 526 ls [.int (mToldR X (xs (i + 1)) (xs (i + 2))), .int (cTold n0 F S B (xs (i + 1)) (xs (i + 2)))]) rfl ?_
  refine lv_icmp_eq (tgt := 755) hx hb dL_law_526 (by decide) (fun _ => ?_) (fun cq => absurd (E_told hR _ _) cq)
  exact kc kp n0 F S B V n1 F1 S1 B1 V1 n2 F2 S2 B2 V2 C (mToldT X (xs (i + 1)) (xs (i + 2)) tr) _ X Y K D hR H locs hP hD hS ls hl

set_option maxHeartbeats 4000000 in
set_option maxRecDepth 100000 in
/-- the law: freed -/
theorem law_freed {p : Program} {l : Launch} {e : Env} {s : State} {m : MethodId} {below : List Frame} {meth : Method} {c : Code} {b L i at0 : Nat} {xs : Nat → Int32} {A : Nat → Prop} {G : EG} {q : Nat → Nat} {Q : State → Prop} (C0 : LC p s m c b L xs A G at0) (hi : i + 4 ≤ L) {kp : Nat} {n0 : Nat} {F : Nat → Nat} {S : Nat → Nat} {B : Nat → Nat} {V : Nat → Nat} {n1 : Nat} {F1 : Nat → Nat} {S1 : Nat → Nat} {B1 : Nat → Nat} {V1 : Nat → Nat} {n2 : Nat} {F2 : Nat → Nat} {S2 : Nat → Nat} {B2 : Nat → Nat} {V2 : Nat → Nat} {C : Nat → Nat} {tr : Nat} {fi : Int32} {X : Nat → Nat} {Y : Nat → Nat} {K : Nat → Nat} {D : Nat → Nat} (hR : LR kp n0 F S B V n1 F1 S1 B1 V1 n2 F2 S2 B2 V2 C X Y K D) {H : Heap} {locs : List Loc} (hP : va_P G.1 vwCl (LW G q kp n0 F S B V n1 F1 S1 B1 V1 n2 F2 S2 B2 V2 C tr fi X Y K D) H) (hD : va_D A (LW G q kp n0 F S B V n1 F1 S1 B1 V1 n2 F2 S2 B2 V2 C tr fi X Y K D)) (hS : va_S A s.heap H locs) {ls : Array Slot} (hl : lv_has ls 4 [(3, .int (nI i)), (2, .ref (q 26)), (1, .ref (q 0)), (0, .ref b)]) (kc : LK p l e s m below meth c b i A G q Q 755) : W p l e room_1 s m #[Value.ref b] below meth c H locs 33 4450 Q (F0 m 531 ls []) := by
  obtain ⟨hx, hb, hml, hown, hts, hX, hbl, hbA, hE, hA, hZ, hT, hL⟩ := C0
  refine lv_aload_n hx hb dL_law_531 rfl (lv_at hl 2 rfl) ?_
  refine lv_aload_n hx hb dL_law_532 rfl (lv_at hl 3 rfl) ?_
  refine lv_iload_n hx hb dL_law_533 rfl (lv_at hl 0 rfl) ?_
  refine lv_iconst (v := nI 1) hx hb dL_law_534 (by decide) ?_
  refine j_add hx hb dL_law_535 ?_
  refine j_sld hx hb hX hbl hbA hS (show i + 1 < L by omega) hL dL_law_536 ?_
  refine lv_aload_n hx hb dL_law_537 rfl (lv_at hl 3 rfl) ?_
  refine lv_iload_n hx hb dL_law_538 rfl (lv_at hl 0 rfl) ?_
  refine lv_iconst (v := nI 2) hx hb dL_law_539 (by decide) ?_
  refine j_add hx hb dL_law_540 ?_
  refine j_sld hx hb hX hbl hbA hS (show i + 2 < L by omega) hL dL_law_541 ?_
  refine ro_V 4 0 (rest := []) ⟨hx, hb, hml, hown, hts⟩ (c_X5_freed l G (q 0) (q 1) (q 3) (q 10) kp (q 25) (q 4) (q 8) n0 (q 5) (q 6) (q 7) F S hR.n8 hR.fs (xs (i + 1)) (xs (i + 2))) (cwV 2 hts gL_law_X5_freed rfl rfl rfl (by decide +kernel) ⟨Nat.le_of_ble_eq_true rfl, Nat.le_of_ble_eq_true rfl⟩) hE (hP.sub [0, 3, 4, 5, 6] rfl) rfl rfl rfl hl.1 rfl (Nat.le_of_ble_eq_true rfl) dL_law_542 ⟨Nat.le_of_ble_eq_true rfl, Nat.le_of_ble_eq_true rfl⟩ ?_
  refine W.eq (g2 := F0 m 545 ls [.int (cFreed n0 F S (xs (i + 1)) (xs (i + 2)))]) rfl ?_
  refine lv_aload_n hx hb dL_law_545 rfl (lv_at hl 1 rfl) ?_
  refine lv_aload_n hx hb dL_law_546 rfl (lv_at hl 3 rfl) ?_
  refine lv_iload_n hx hb dL_law_547 rfl (lv_at hl 0 rfl) ?_
  refine lv_iconst (v := nI 1) hx hb dL_law_548 (by decide) ?_
  refine j_add hx hb dL_law_549 ?_
  refine j_sld hx hb hX hbl hbA hS (show i + 1 < L by omega) hL dL_law_550 ?_
  refine lv_aload_n hx hb dL_law_551 rfl (lv_at hl 3 rfl) ?_
  refine lv_iload_n hx hb dL_law_552 rfl (lv_at hl 0 rfl) ?_
  refine lv_iconst (v := nI 2) hx hb dL_law_553 (by decide) ?_
  refine j_add hx hb dL_law_554 ?_
  refine j_sld hx hb hX hbl hbA hS (show i + 2 < L by omega) hL dL_law_555 ?_
  refine ro_V 5 0 (rest := [.int (cFreed n0 F S (xs (i + 1)) (xs (i + 2)))]) ⟨hx, hb, hml, hown, hts⟩ (c_X6_freed l G (q 26) (q 27) (q 28) (q 29) (q 30) (q 31) tr fi X hR.x8 hR.xm (xs (i + 1)) (xs (i + 2))) (cwV 2 hts gL_law_X6_freed rfl rfl rfl (by decide +kernel) ⟨Nat.le_of_ble_eq_true rfl, Nat.le_of_ble_eq_true rfl⟩) hE (hP.sub [26, 27] rfl) rfl rfl rfl hl.1 rfl (Nat.le_of_ble_eq_true rfl) dL_law_556 ⟨Nat.le_of_ble_eq_true rfl, Nat.le_of_ble_eq_true rfl⟩ ?_
  refine W.eq (g2 := F0 m 559 ls [.int (mFreed X (xs (i + 1)) (xs (i + 2))), .int (cFreed n0 F S (xs (i + 1)) (xs (i + 2)))]) rfl ?_
  refine lv_icmp_eq (tgt := 755) hx hb dL_law_559 (by decide) (fun _ => ?_) (fun cq => absurd (E_freed hR _ _) cq)
  exact kc kp n0 F S B V n1 F1 S1 B1 V1 n2 F2 S2 B2 V2 C tr _ X Y K D hR H locs hP hD hS ls hl

set_option maxHeartbeats 4000000 in
set_option maxRecDepth 100000 in
/-- the law: open -/
theorem law_open {p : Program} {l : Launch} {e : Env} {s : State} {m : MethodId} {below : List Frame} {meth : Method} {c : Code} {b L i at0 : Nat} {xs : Nat → Int32} {A : Nat → Prop} {G : EG} {q : Nat → Nat} {Q : State → Prop} (C0 : LC p s m c b L xs A G at0) (hi : i + 4 ≤ L) {kp : Nat} {n0 : Nat} {F : Nat → Nat} {S : Nat → Nat} {B : Nat → Nat} {V : Nat → Nat} {n1 : Nat} {F1 : Nat → Nat} {S1 : Nat → Nat} {B1 : Nat → Nat} {V1 : Nat → Nat} {n2 : Nat} {F2 : Nat → Nat} {S2 : Nat → Nat} {B2 : Nat → Nat} {V2 : Nat → Nat} {C : Nat → Nat} {tr : Nat} {fi : Int32} {X : Nat → Nat} {Y : Nat → Nat} {K : Nat → Nat} {D : Nat → Nat} (hR : LR kp n0 F S B V n1 F1 S1 B1 V1 n2 F2 S2 B2 V2 C X Y K D) {H : Heap} {locs : List Loc} (hP : va_P G.1 vwCl (LW G q kp n0 F S B V n1 F1 S1 B1 V1 n2 F2 S2 B2 V2 C tr fi X Y K D) H) (hD : va_D A (LW G q kp n0 F S B V n1 F1 S1 B1 V1 n2 F2 S2 B2 V2 C tr fi X Y K D)) (hS : va_S A s.heap H locs) {ls : Array Slot} (hl : lv_has ls 4 [(3, .int (nI i)), (2, .ref (q 26)), (1, .ref (q 0)), (0, .ref b)]) (kc : LK p l e s m below meth c b i A G q Q 755) : W p l e room_1 s m #[Value.ref b] below meth c H locs 33 4450 Q (F0 m 564 ls []) := by
  obtain ⟨hx, hb, hml, hown, hts, hX, hbl, hbA, hE, hA, hZ, hT, hL⟩ := C0
  refine lv_aload_n hx hb dL_law_564 rfl (lv_at hl 2 rfl) ?_
  refine lv_aload_n hx hb dL_law_565 rfl (lv_at hl 3 rfl) ?_
  refine lv_iload_n hx hb dL_law_566 rfl (lv_at hl 0 rfl) ?_
  refine lv_iconst (v := nI 1) hx hb dL_law_567 (by decide) ?_
  refine j_add hx hb dL_law_568 ?_
  refine j_sld hx hb hX hbl hbA hS (show i + 1 < L by omega) hL dL_law_569 ?_
  refine ro_V 4 0 (rest := []) ⟨hx, hb, hml, hown, hts⟩ (c_X5_open l G (q 0) (q 1) (q 3) (q 10) kp (q 25) (q 4) (q 8) n0 (q 5) (q 6) (q 7) B hR.n8 hR.bb (xs (i + 1))) (cwV 1 hts gL_law_X5_open rfl rfl rfl (by decide +kernel) ⟨Nat.le_of_ble_eq_true rfl, Nat.le_of_ble_eq_true rfl⟩) hE (hP.sub [0, 3, 4, 7] rfl) rfl rfl rfl hl.1 rfl (Nat.le_of_ble_eq_true rfl) dL_law_570 ⟨Nat.le_of_ble_eq_true rfl, Nat.le_of_ble_eq_true rfl⟩ ?_
  refine W.eq (g2 := F0 m 573 ls [.int (cOpen n0 B (xs (i + 1)))]) rfl ?_
  refine lv_aload_n hx hb dL_law_573 rfl (lv_at hl 1 rfl) ?_
  refine lv_aload_n hx hb dL_law_574 rfl (lv_at hl 3 rfl) ?_
  refine lv_iload_n hx hb dL_law_575 rfl (lv_at hl 0 rfl) ?_
  refine lv_iconst (v := nI 1) hx hb dL_law_576 (by decide) ?_
  refine j_add hx hb dL_law_577 ?_
  refine j_sld hx hb hX hbl hbA hS (show i + 1 < L by omega) hL dL_law_578 ?_
  refine wr_V 5 0 (rest := [.int (cOpen n0 B (xs (i + 1)))]) (wr := [0, 1, 2, 3, 4, 5, 6, 7, 8, 9, 10, 11, 12, 13, 14, 15, 16, 17, 18, 19, 20, 21, 22, 23, 24, 25, 28, 29, 30, 31].filterMap (fun z9 => (LW G q kp n0 F S B V n1 F1 S1 B1 V1 n2 F2 S2 B2 V2 C tr fi X Y K D)[z9]?)) ⟨hx, hb, hml, hown, hts⟩ (c_X6_open l G (q 26) (q 27) (q 28) (q 29) (q 30) (q 31) tr fi X hR.x8 hR.xm (xs (i + 1)) H.size) (cwV 1 hts gL_law_X6_open rfl rfl rfl (by decide +kernel) ⟨Nat.le_of_ble_eq_true rfl, Nat.le_of_ble_eq_true rfl⟩) hE hP hD hS hA [26, 27] [0, 1, 2, 3, 4, 5, 6, 7, 8, 9, 10, 11, 12, 13, 14, 15, 16, 17, 18, 19, 20, 21, 22, 23, 24, 25, 28, 29, 30, 31] rfl rfl (by decide) (by decide) (by decide) rfl rfl rfl hl.1 rfl (Nat.le_of_ble_eq_true rfl) dL_law_579 ⟨Nat.le_of_ble_eq_true rfl, Nat.le_of_ble_eq_true rfl⟩ (fun H locs hP hD hS => ?_)
  have hP : va_P G.1 vwCl (LW G q kp n0 F S B V n1 F1 S1 B1 V1 n2 F2 S2 B2 V2 C (mOpenT X (xs (i + 1)) tr) (mOpenF X (xs (i + 1)) fi) X Y K D) H := hP.sub [0, 1, 2, 3, 4, 5, 6, 7, 8, 9, 10, 11, 12, 13, 14, 15, 16, 17, 18, 19, 20, 21, 22, 23, 24, 25, 30, 31, 26, 27, 28, 29] rfl
  have hD : va_D A (LW G q kp n0 F S B V n1 F1 S1 B1 V1 n2 F2 S2 B2 V2 C (mOpenT X (xs (i + 1)) tr) (mOpenF X (xs (i + 1)) fi) X Y K D) := hD.sub [0, 1, 2, 3, 4, 5, 6, 7, 8, 9, 10, 11, 12, 13, 14, 15, 16, 17, 18, 19, 20, 21, 22, 23, 24, 25, 30, 31, 26, 27, 28, 29] (by decide) rfl
  refine W.eq (g2 := F0 m 582 ls [.int (mOpenR X (xs (i + 1))), .int (cOpen n0 B (xs (i + 1)))]) rfl ?_
  refine lv_icmp_eq (tgt := 755) hx hb dL_law_582 (by decide) (fun _ => ?_) (fun cq => absurd (E_open hR _) cq)
  exact kc kp n0 F S B V n1 F1 S1 B1 V1 n2 F2 S2 B2 V2 C (mOpenT X (xs (i + 1)) tr) _ X Y K D hR H locs hP hD hS ls hl

set_option maxHeartbeats 4000000 in
set_option maxRecDepth 100000 in
/-- the law: sure -/
theorem law_sure {p : Program} {l : Launch} {e : Env} {s : State} {m : MethodId} {below : List Frame} {meth : Method} {c : Code} {b L i at0 : Nat} {xs : Nat → Int32} {A : Nat → Prop} {G : EG} {q : Nat → Nat} {Q : State → Prop} (C0 : LC p s m c b L xs A G at0) (hi : i + 4 ≤ L) {kp : Nat} {n0 : Nat} {F : Nat → Nat} {S : Nat → Nat} {B : Nat → Nat} {V : Nat → Nat} {n1 : Nat} {F1 : Nat → Nat} {S1 : Nat → Nat} {B1 : Nat → Nat} {V1 : Nat → Nat} {n2 : Nat} {F2 : Nat → Nat} {S2 : Nat → Nat} {B2 : Nat → Nat} {V2 : Nat → Nat} {C : Nat → Nat} {tr : Nat} {fi : Int32} {X : Nat → Nat} {Y : Nat → Nat} {K : Nat → Nat} {D : Nat → Nat} (hR : LR kp n0 F S B V n1 F1 S1 B1 V1 n2 F2 S2 B2 V2 C X Y K D) {H : Heap} {locs : List Loc} (hP : va_P G.1 vwCl (LW G q kp n0 F S B V n1 F1 S1 B1 V1 n2 F2 S2 B2 V2 C tr fi X Y K D) H) (hD : va_D A (LW G q kp n0 F S B V n1 F1 S1 B1 V1 n2 F2 S2 B2 V2 C tr fi X Y K D)) (hS : va_S A s.heap H locs) {ls : Array Slot} (hl : lv_has ls 4 [(3, .int (nI i)), (2, .ref (q 26)), (1, .ref (q 0)), (0, .ref b)]) (kc : LK p l e s m below meth c b i A G q Q 755) : W p l e room_1 s m #[Value.ref b] below meth c H locs 33 4450 Q (F0 m 587 ls []) := by
  obtain ⟨hx, hb, hml, hown, hts, hX, hbl, hbA, hE, hA, hZ, hT, hL⟩ := C0
  refine lv_aload_n hx hb dL_law_587 rfl (lv_at hl 2 rfl) ?_
  refine lv_aload_n hx hb dL_law_588 rfl (lv_at hl 3 rfl) ?_
  refine lv_iload_n hx hb dL_law_589 rfl (lv_at hl 0 rfl) ?_
  refine lv_iconst (v := nI 1) hx hb dL_law_590 (by decide) ?_
  refine j_add hx hb dL_law_591 ?_
  refine j_sld hx hb hX hbl hbA hS (show i + 1 < L by omega) hL dL_law_592 ?_
  refine lv_aload_n hx hb dL_law_593 rfl (lv_at hl 3 rfl) ?_
  refine lv_iload_n hx hb dL_law_594 rfl (lv_at hl 0 rfl) ?_
  refine lv_iconst (v := nI 2) hx hb dL_law_595 (by decide) ?_
  refine j_add hx hb dL_law_596 ?_
  refine j_sld hx hb hX hbl hbA hS (show i + 2 < L by omega) hL dL_law_597 ?_
  refine wr_V 4 0 (rest := []) (wr := [1, 2, 4, 5, 6, 7, 10, 11, 12, 13, 14, 15, 16, 17, 18, 19, 20, 21, 22, 23, 24, 25, 26, 27, 28, 29, 30, 31].filterMap (fun z9 => (LW G q kp n0 F S B V n1 F1 S1 B1 V1 n2 F2 S2 B2 V2 C tr fi X Y K D)[z9]?)) ⟨hx, hb, hml, hown, hts⟩ (c_X5_sure l G (q 0) (q 1) (q 3) (q 10) kp (q 25) (q 4) (q 8) (q 9) V (xs (i + 1)) (xs (i + 2)) H.size) (cwV 2 hts gL_law_X5_sure rfl rfl rfl (by decide +kernel) ⟨Nat.le_of_ble_eq_true rfl, Nat.le_of_ble_eq_true rfl⟩) hE hP hD hS hA [0, 3, 8, 9] [1, 2, 4, 5, 6, 7, 10, 11, 12, 13, 14, 15, 16, 17, 18, 19, 20, 21, 22, 23, 24, 25, 26, 27, 28, 29, 30, 31] rfl rfl (by decide) (by decide) (by decide) rfl rfl rfl hl.1 rfl (Nat.le_of_ble_eq_true rfl) dL_law_598 ⟨Nat.le_of_ble_eq_true rfl, Nat.le_of_ble_eq_true rfl⟩ (fun H locs hP hD hS => ?_)
  have hP : va_P G.1 vwCl (LW G q kp n0 F S B (cSureV V (xs (i + 1)) (xs (i + 2))) n1 F1 S1 B1 V1 n2 F2 S2 B2 V2 C tr fi X Y K D) H := hP.sub [28, 0, 1, 29, 2, 3, 4, 5, 30, 31, 6, 7, 8, 9, 10, 11, 12, 13, 14, 15, 16, 17, 18, 19, 20, 21, 22, 23, 24, 25, 26, 27] rfl
  have hD : va_D A (LW G q kp n0 F S B (cSureV V (xs (i + 1)) (xs (i + 2))) n1 F1 S1 B1 V1 n2 F2 S2 B2 V2 C tr fi X Y K D) := hD.sub [28, 0, 1, 29, 2, 3, 4, 5, 30, 31, 6, 7, 8, 9, 10, 11, 12, 13, 14, 15, 16, 17, 18, 19, 20, 21, 22, 23, 24, 25, 26, 27] (by decide) rfl
  refine W.eq (g2 := F0 m 601 ls [.int (cSureR V (xs (i + 1)) (xs (i + 2)))]) rfl ?_
  refine lv_aload_n hx hb dL_law_601 rfl (lv_at hl 1 rfl) ?_
  refine lv_aload_n hx hb dL_law_602 rfl (lv_at hl 3 rfl) ?_
  refine lv_iload_n hx hb dL_law_603 rfl (lv_at hl 0 rfl) ?_
  refine lv_iconst (v := nI 1) hx hb dL_law_604 (by decide) ?_
  refine j_add hx hb dL_law_605 ?_
  refine j_sld hx hb hX hbl hbA hS (show i + 1 < L by omega) hL dL_law_606 ?_
  refine lv_aload_n hx hb dL_law_607 rfl (lv_at hl 3 rfl) ?_
  refine lv_iload_n hx hb dL_law_608 rfl (lv_at hl 0 rfl) ?_
  refine lv_iconst (v := nI 2) hx hb dL_law_609 (by decide) ?_
  refine j_add hx hb dL_law_610 ?_
  refine j_sld hx hb hX hbl hbA hS (show i + 2 < L by omega) hL dL_law_611 ?_
  refine wr_V 5 0 (rest := [.int (cSureR V (xs (i + 1)) (xs (i + 2)))]) (wr := [0, 1, 2, 3, 4, 5, 6, 7, 8, 9, 10, 11, 12, 13, 14, 15, 16, 17, 18, 19, 20, 21, 22, 23, 24, 25, 28, 29, 30, 31].filterMap (fun z9 => (LW G q kp n0 F S B (cSureV V (xs (i + 1)) (xs (i + 2))) n1 F1 S1 B1 V1 n2 F2 S2 B2 V2 C tr fi X Y K D)[z9]?)) ⟨hx, hb, hml, hown, hts⟩ (c_X6_sure l G (q 26) (q 27) (q 28) (q 29) (q 30) (q 31) tr fi X (xs (i + 1)) (xs (i + 2)) H.size) (cwV 2 hts gL_law_X6_sure rfl rfl rfl (by decide +kernel) ⟨Nat.le_of_ble_eq_true rfl, Nat.le_of_ble_eq_true rfl⟩) hE hP hD hS hA [26, 27] [0, 1, 2, 3, 4, 5, 6, 7, 8, 9, 10, 11, 12, 13, 14, 15, 16, 17, 18, 19, 20, 21, 22, 23, 24, 25, 28, 29, 30, 31] rfl rfl (by decide) (by decide) (by decide) rfl rfl rfl hl.1 rfl (Nat.le_of_ble_eq_true rfl) dL_law_612 ⟨Nat.le_of_ble_eq_true rfl, Nat.le_of_ble_eq_true rfl⟩ (fun H locs hP hD hS => ?_)
  have hP : va_P G.1 vwCl (LW G q kp n0 F S B (cSureV V (xs (i + 1)) (xs (i + 2))) n1 F1 S1 B1 V1 n2 F2 S2 B2 V2 C tr fi (mSureX X (xs (i + 1)) (xs (i + 2))) Y K D) H := hP.sub [0, 1, 2, 3, 4, 5, 6, 7, 8, 9, 10, 11, 12, 13, 14, 15, 16, 17, 18, 19, 20, 21, 22, 23, 24, 25, 30, 31, 26, 27, 28, 29] rfl
  have hD : va_D A (LW G q kp n0 F S B (cSureV V (xs (i + 1)) (xs (i + 2))) n1 F1 S1 B1 V1 n2 F2 S2 B2 V2 C tr fi (mSureX X (xs (i + 1)) (xs (i + 2))) Y K D) := hD.sub [0, 1, 2, 3, 4, 5, 6, 7, 8, 9, 10, 11, 12, 13, 14, 15, 16, 17, 18, 19, 20, 21, 22, 23, 24, 25, 30, 31, 26, 27, 28, 29] (by decide) rfl
  refine W.eq (g2 := F0 m 615 ls [.int (mSureR X (xs (i + 1)) (xs (i + 2))), .int (cSureR V (xs (i + 1)) (xs (i + 2)))]) rfl ?_
  refine lv_icmp_eq (tgt := 755) hx hb dL_law_615 (by decide) (fun _ => ?_) (fun cq => absurd (E_sure hR _ _) cq)
  exact kc kp n0 F S B (cSureV V (xs (i + 1)) (xs (i + 2))) n1 F1 S1 B1 V1 n2 F2 S2 B2 V2 C tr _ (mSureX X (xs (i + 1)) (xs (i + 2))) Y K D (hR.sure _ _) H locs hP hD hS ls hl

set_option maxHeartbeats 4000000 in
set_option maxRecDepth 100000 in
/-- the law: weak -/
theorem law_weak {p : Program} {l : Launch} {e : Env} {s : State} {m : MethodId} {below : List Frame} {meth : Method} {c : Code} {b L i at0 : Nat} {xs : Nat → Int32} {A : Nat → Prop} {G : EG} {q : Nat → Nat} {Q : State → Prop} (C0 : LC p s m c b L xs A G at0) (hi : i + 4 ≤ L) {kp : Nat} {n0 : Nat} {F : Nat → Nat} {S : Nat → Nat} {B : Nat → Nat} {V : Nat → Nat} {n1 : Nat} {F1 : Nat → Nat} {S1 : Nat → Nat} {B1 : Nat → Nat} {V1 : Nat → Nat} {n2 : Nat} {F2 : Nat → Nat} {S2 : Nat → Nat} {B2 : Nat → Nat} {V2 : Nat → Nat} {C : Nat → Nat} {tr : Nat} {fi : Int32} {X : Nat → Nat} {Y : Nat → Nat} {K : Nat → Nat} {D : Nat → Nat} (hR : LR kp n0 F S B V n1 F1 S1 B1 V1 n2 F2 S2 B2 V2 C X Y K D) {H : Heap} {locs : List Loc} (hP : va_P G.1 vwCl (LW G q kp n0 F S B V n1 F1 S1 B1 V1 n2 F2 S2 B2 V2 C tr fi X Y K D) H) (hD : va_D A (LW G q kp n0 F S B V n1 F1 S1 B1 V1 n2 F2 S2 B2 V2 C tr fi X Y K D)) (hS : va_S A s.heap H locs) {ls : Array Slot} (hl : lv_has ls 4 [(3, .int (nI i)), (2, .ref (q 26)), (1, .ref (q 0)), (0, .ref b)]) (kc : LK p l e s m below meth c b i A G q Q 755) : W p l e room_1 s m #[Value.ref b] below meth c H locs 33 4450 Q (F0 m 620 ls []) := by
  obtain ⟨hx, hb, hml, hown, hts, hX, hbl, hbA, hE, hA, hZ, hT, hL⟩ := C0
  refine lv_aload_n hx hb dL_law_620 rfl (lv_at hl 2 rfl) ?_
  refine lv_aload_n hx hb dL_law_621 rfl (lv_at hl 3 rfl) ?_
  refine lv_iload_n hx hb dL_law_622 rfl (lv_at hl 0 rfl) ?_
  refine lv_iconst (v := nI 1) hx hb dL_law_623 (by decide) ?_
  refine j_add hx hb dL_law_624 ?_
  refine j_sld hx hb hX hbl hbA hS (show i + 1 < L by omega) hL dL_law_625 ?_
  refine ro_V 4 0 (rest := []) ⟨hx, hb, hml, hown, hts⟩ (c_X5_weak l G (q 0) (q 1) (q 3) (q 10) kp (q 25) (q 4) (q 8) (q 9) V hR.vb (xs (i + 1))) (cwV 1 hts gL_law_X5_weak rfl rfl rfl (by decide +kernel) ⟨Nat.le_of_ble_eq_true rfl, Nat.le_of_ble_eq_true rfl⟩) hE (hP.sub [0, 3, 8, 9] rfl) rfl rfl rfl hl.1 rfl (Nat.le_of_ble_eq_true rfl) dL_law_626 ⟨Nat.le_of_ble_eq_true rfl, Nat.le_of_ble_eq_true rfl⟩ ?_
  refine W.eq (g2 := F0 m 629 ls [.int (cWeak V (xs (i + 1)))]) rfl ?_
  refine lv_aload_n hx hb dL_law_629 rfl (lv_at hl 1 rfl) ?_
  refine lv_aload_n hx hb dL_law_630 rfl (lv_at hl 3 rfl) ?_
  refine lv_iload_n hx hb dL_law_631 rfl (lv_at hl 0 rfl) ?_
  refine lv_iconst (v := nI 1) hx hb dL_law_632 (by decide) ?_
  refine j_add hx hb dL_law_633 ?_
  refine j_sld hx hb hX hbl hbA hS (show i + 1 < L by omega) hL dL_law_634 ?_
  refine ro_V 5 0 (rest := [.int (cWeak V (xs (i + 1)))]) ⟨hx, hb, hml, hown, hts⟩ (c_X6_weak l G (q 26) (q 27) (q 28) (q 29) (q 30) (q 31) tr fi X hR.xv (xs (i + 1))) (cwV 1 hts gL_law_X6_weak rfl rfl rfl (by decide +kernel) ⟨Nat.le_of_ble_eq_true rfl, Nat.le_of_ble_eq_true rfl⟩) hE (hP.sub [26, 27] rfl) rfl rfl rfl hl.1 rfl (Nat.le_of_ble_eq_true rfl) dL_law_635 ⟨Nat.le_of_ble_eq_true rfl, Nat.le_of_ble_eq_true rfl⟩ ?_
  refine W.eq (g2 := F0 m 638 ls [.int (mWeak X (xs (i + 1))), .int (cWeak V (xs (i + 1)))]) rfl ?_
  refine lv_icmp_eq (tgt := 755) hx hb dL_law_638 (by decide) (fun _ => ?_) (fun cq => absurd (E_weak hR _) cq)
  exact kc kp n0 F S B V n1 F1 S1 B1 V1 n2 F2 S2 B2 V2 C tr _ X Y K D hR H locs hP hD hS ls hl

set_option maxHeartbeats 4000000 in
set_option maxRecDepth 100000 in
/-- the law: chosen -/
theorem law_chosen {p : Program} {l : Launch} {e : Env} {s : State} {m : MethodId} {below : List Frame} {meth : Method} {c : Code} {b L i at0 : Nat} {xs : Nat → Int32} {A : Nat → Prop} {G : EG} {q : Nat → Nat} {Q : State → Prop} (C0 : LC p s m c b L xs A G at0) (hi : i + 4 ≤ L) {kp : Nat} {n0 : Nat} {F : Nat → Nat} {S : Nat → Nat} {B : Nat → Nat} {V : Nat → Nat} {n1 : Nat} {F1 : Nat → Nat} {S1 : Nat → Nat} {B1 : Nat → Nat} {V1 : Nat → Nat} {n2 : Nat} {F2 : Nat → Nat} {S2 : Nat → Nat} {B2 : Nat → Nat} {V2 : Nat → Nat} {C : Nat → Nat} {tr : Nat} {fi : Int32} {X : Nat → Nat} {Y : Nat → Nat} {K : Nat → Nat} {D : Nat → Nat} (hR : LR kp n0 F S B V n1 F1 S1 B1 V1 n2 F2 S2 B2 V2 C X Y K D) {H : Heap} {locs : List Loc} (hP : va_P G.1 vwCl (LW G q kp n0 F S B V n1 F1 S1 B1 V1 n2 F2 S2 B2 V2 C tr fi X Y K D) H) (hD : va_D A (LW G q kp n0 F S B V n1 F1 S1 B1 V1 n2 F2 S2 B2 V2 C tr fi X Y K D)) (hS : va_S A s.heap H locs) {ls : Array Slot} (hl : lv_has ls 4 [(3, .int (nI i)), (2, .ref (q 26)), (1, .ref (q 0)), (0, .ref b)]) (kc : LK p l e s m below meth c b i A G q Q 755) : W p l e room_1 s m #[Value.ref b] below meth c H locs 33 4450 Q (F0 m 643 ls []) := by
  obtain ⟨hx, hb, hml, hown, hts, hX, hbl, hbA, hE, hA, hZ, hT, hL⟩ := C0
  refine lv_aload_n hx hb dL_law_643 rfl (lv_at hl 2 rfl) ?_
  refine lv_aload_n hx hb dL_law_644 rfl (lv_at hl 3 rfl) ?_
  refine lv_iload_n hx hb dL_law_645 rfl (lv_at hl 0 rfl) ?_
  refine lv_iconst (v := nI 1) hx hb dL_law_646 (by decide) ?_
  refine j_add hx hb dL_law_647 ?_
  refine j_sld hx hb hX hbl hbA hS (show i + 1 < L by omega) hL dL_law_648 ?_
  refine lv_aload_n hx hb dL_law_649 rfl (lv_at hl 3 rfl) ?_
  refine lv_iload_n hx hb dL_law_650 rfl (lv_at hl 0 rfl) ?_
  refine lv_iconst (v := nI 2) hx hb dL_law_651 (by decide) ?_
  refine j_add hx hb dL_law_652 ?_
  refine j_sld hx hb hX hbl hbA hS (show i + 2 < L by omega) hL dL_law_653 ?_
  refine lv_aload_n hx hb dL_law_654 rfl (lv_at hl 3 rfl) ?_
  refine lv_iload_n hx hb dL_law_655 rfl (lv_at hl 0 rfl) ?_
  refine lv_iconst (v := nI 3) hx hb dL_law_656 (by decide) ?_
  refine j_add hx hb dL_law_657 ?_
  refine j_sld hx hb hX hbl hbA hS (show i + 3 < L by omega) hL dL_law_658 ?_
  refine wr_V 4 0 (rest := []) (wr := [4, 5, 6, 7, 10, 11, 12, 13, 14, 15, 16, 17, 18, 19, 20, 21, 22, 23, 24, 26, 27, 28, 29, 30, 31].filterMap (fun z9 => (LW G q kp n0 F S B V n1 F1 S1 B1 V1 n2 F2 S2 B2 V2 C tr fi X Y K D)[z9]?)) ⟨hx, hb, hml, hown, hts⟩ (c_X5_chosen l G (q 0) (q 1) (q 3) (q 10) kp (q 25) (q 4) (q 8) (q 9) (q 2) errT errT_lt V C hR.vb hR.cb (xs (i + 1)) (xs (i + 2)) (xs (i + 3)) H.size) (cwV 3 hts gL_law_X5_chosen rfl rfl rfl (by decide +kernel) ⟨Nat.le_of_ble_eq_true rfl, Nat.le_of_ble_eq_true rfl⟩) hE hP hD hS hA [0, 1, 2, 3, 8, 9, 25] [4, 5, 6, 7, 10, 11, 12, 13, 14, 15, 16, 17, 18, 19, 20, 21, 22, 23, 24, 26, 27, 28, 29, 30, 31] rfl rfl (by decide) (by decide) (by decide) rfl rfl rfl hl.1 rfl (Nat.le_of_ble_eq_true rfl) dL_law_659 ⟨Nat.le_of_ble_eq_true rfl, Nat.le_of_ble_eq_true rfl⟩ (fun H locs hP hD hS => ?_)
  have hP : va_P G.1 vwCl (LW G q kp n0 F S B V n1 F1 S1 B1 V1 n2 F2 S2 B2 V2 (cChosenC errT V C (xs (i + 1)) (xs (i + 2)) (xs (i + 3))) tr fi X Y K D) H := hP.sub [25, 26, 27, 28, 0, 1, 2, 3, 29, 30, 4, 5, 6, 7, 8, 9, 10, 11, 12, 13, 14, 15, 16, 17, 18, 31, 19, 20, 21, 22, 23, 24] rfl
  have hD : va_D A (LW G q kp n0 F S B V n1 F1 S1 B1 V1 n2 F2 S2 B2 V2 (cChosenC errT V C (xs (i + 1)) (xs (i + 2)) (xs (i + 3))) tr fi X Y K D) := hD.sub [25, 26, 27, 28, 0, 1, 2, 3, 29, 30, 4, 5, 6, 7, 8, 9, 10, 11, 12, 13, 14, 15, 16, 17, 18, 31, 19, 20, 21, 22, 23, 24] (by decide) rfl
  refine W.eq (g2 := F0 m 662 ls [.int (cChosen errT V C (xs (i + 1)) (xs (i + 2)) (xs (i + 3)))]) rfl ?_
  refine lv_aload_n hx hb dL_law_662 rfl (lv_at hl 1 rfl) ?_
  refine lv_aload_n hx hb dL_law_663 rfl (lv_at hl 3 rfl) ?_
  refine lv_iload_n hx hb dL_law_664 rfl (lv_at hl 0 rfl) ?_
  refine lv_iconst (v := nI 1) hx hb dL_law_665 (by decide) ?_
  refine j_add hx hb dL_law_666 ?_
  refine j_sld hx hb hX hbl hbA hS (show i + 1 < L by omega) hL dL_law_667 ?_
  refine lv_aload_n hx hb dL_law_668 rfl (lv_at hl 3 rfl) ?_
  refine lv_iload_n hx hb dL_law_669 rfl (lv_at hl 0 rfl) ?_
  refine lv_iconst (v := nI 2) hx hb dL_law_670 (by decide) ?_
  refine j_add hx hb dL_law_671 ?_
  refine j_sld hx hb hX hbl hbA hS (show i + 2 < L by omega) hL dL_law_672 ?_
  refine lv_aload_n hx hb dL_law_673 rfl (lv_at hl 3 rfl) ?_
  refine lv_iload_n hx hb dL_law_674 rfl (lv_at hl 0 rfl) ?_
  refine lv_iconst (v := nI 3) hx hb dL_law_675 (by decide) ?_
  refine j_add hx hb dL_law_676 ?_
  refine j_sld hx hb hX hbl hbA hS (show i + 3 < L by omega) hL dL_law_677 ?_
  refine wr_V 5 0 (rest := [.int (cChosen errT V C (xs (i + 1)) (xs (i + 2)) (xs (i + 3)))]) (wr := [0, 1, 2, 3, 4, 5, 6, 7, 8, 9, 10, 11, 12, 13, 14, 15, 16, 17, 18, 19, 20, 21, 22, 23, 24, 25, 28, 29].filterMap (fun z9 => (LW G q kp n0 F S B V n1 F1 S1 B1 V1 n2 F2 S2 B2 V2 (cChosenC errT V C (xs (i + 1)) (xs (i + 2)) (xs (i + 3))) tr fi X Y K D)[z9]?)) ⟨hx, hb, hml, hown, hts⟩ (c_X6_chosen l G (q 26) (q 27) (q 28) (q 29) (q 30) (q 31) tr fi X hR.xv errT errT_lt D hR.db (wsN V) hR.wk (fun j _ => wbN_lt _ _) (xs (i + 1)) (xs (i + 2)) (xs (i + 3)) H.size) (cwV 3 hts gL_law_X6_chosen rfl rfl rfl (by decide +kernel) ⟨Nat.le_of_ble_eq_true rfl, Nat.le_of_ble_eq_true rfl⟩) hE hP hD hS hA [26, 27, 30, 31] [0, 1, 2, 3, 4, 5, 6, 7, 8, 9, 10, 11, 12, 13, 14, 15, 16, 17, 18, 19, 20, 21, 22, 23, 24, 25, 28, 29] rfl rfl (by decide) (by decide) (by decide) rfl rfl rfl hl.1 rfl (Nat.le_of_ble_eq_true rfl) dL_law_678 ⟨Nat.le_of_ble_eq_true rfl, Nat.le_of_ble_eq_true rfl⟩ (fun H locs hP hD hS => ?_)
  have hP : va_P G.1 vwCl (LW G q kp n0 F S B V n1 F1 S1 B1 V1 n2 F2 S2 B2 V2 (cChosenC errT V C (xs (i + 1)) (xs (i + 2)) (xs (i + 3))) tr fi X Y K (mChosenC errT (wsN V) D (xs (i + 1)) (xs (i + 2)) (xs (i + 3)))) H := hP.sub [0, 1, 2, 3, 4, 5, 6, 7, 8, 9, 10, 11, 12, 13, 14, 15, 16, 17, 18, 19, 20, 21, 22, 23, 24, 25, 28, 29, 26, 27, 30, 31] rfl
  have hD : va_D A (LW G q kp n0 F S B V n1 F1 S1 B1 V1 n2 F2 S2 B2 V2 (cChosenC errT V C (xs (i + 1)) (xs (i + 2)) (xs (i + 3))) tr fi X Y K (mChosenC errT (wsN V) D (xs (i + 1)) (xs (i + 2)) (xs (i + 3)))) := hD.sub [0, 1, 2, 3, 4, 5, 6, 7, 8, 9, 10, 11, 12, 13, 14, 15, 16, 17, 18, 19, 20, 21, 22, 23, 24, 25, 28, 29, 26, 27, 30, 31] (by decide) rfl
  refine W.eq (g2 := F0 m 681 ls [.int (mChosen errT (wsN V) X D (xs (i + 1)) (xs (i + 2)) (xs (i + 3))), .int (cChosen errT V C (xs (i + 1)) (xs (i + 2)) (xs (i + 3)))]) rfl ?_
  refine lv_icmp_eq (tgt := 755) hx hb dL_law_681 (by decide) (fun _ => ?_) (fun cq => absurd (E_chosen hR _ _ _) cq)
  exact kc kp n0 F S B V n1 F1 S1 B1 V1 n2 F2 S2 B2 V2 (cChosenC errT V C (xs (i + 1)) (xs (i + 2)) (xs (i + 3))) tr _ X Y K (mChosenC errT (wsN V) D (xs (i + 1)) (xs (i + 2)) (xs (i + 3))) (hR.chosen _ _ _) H locs hP hD hS ls hl

set_option maxHeartbeats 4000000 in
set_option maxRecDepth 100000 in
/-- the law: count -/
theorem law_count {p : Program} {l : Launch} {e : Env} {s : State} {m : MethodId} {below : List Frame} {meth : Method} {c : Code} {b L i at0 : Nat} {xs : Nat → Int32} {A : Nat → Prop} {G : EG} {q : Nat → Nat} {Q : State → Prop} (C0 : LC p s m c b L xs A G at0) (hi : i + 4 ≤ L) {kp : Nat} {n0 : Nat} {F : Nat → Nat} {S : Nat → Nat} {B : Nat → Nat} {V : Nat → Nat} {n1 : Nat} {F1 : Nat → Nat} {S1 : Nat → Nat} {B1 : Nat → Nat} {V1 : Nat → Nat} {n2 : Nat} {F2 : Nat → Nat} {S2 : Nat → Nat} {B2 : Nat → Nat} {V2 : Nat → Nat} {C : Nat → Nat} {tr : Nat} {fi : Int32} {X : Nat → Nat} {Y : Nat → Nat} {K : Nat → Nat} {D : Nat → Nat} (hR : LR kp n0 F S B V n1 F1 S1 B1 V1 n2 F2 S2 B2 V2 C X Y K D) {H : Heap} {locs : List Loc} (hP : va_P G.1 vwCl (LW G q kp n0 F S B V n1 F1 S1 B1 V1 n2 F2 S2 B2 V2 C tr fi X Y K D) H) (hD : va_D A (LW G q kp n0 F S B V n1 F1 S1 B1 V1 n2 F2 S2 B2 V2 C tr fi X Y K D)) (hS : va_S A s.heap H locs) {ls : Array Slot} (hl : lv_has ls 4 [(3, .int (nI i)), (2, .ref (q 26)), (1, .ref (q 0)), (0, .ref b)]) (kc : LK p l e s m below meth c b i A G q Q 755) : W p l e room_1 s m #[Value.ref b] below meth c H locs 33 4450 Q (F0 m 732 ls []) := by
  obtain ⟨hx, hb, hml, hown, hts, hX, hbl, hbA, hE, hA, hZ, hT, hL⟩ := C0
  refine lv_aload_n hx hb dL_law_732 rfl (lv_at hl 2 rfl) ?_
  refine lv_aload_n hx hb dL_law_733 rfl (lv_at hl 3 rfl) ?_
  refine lv_iload_n hx hb dL_law_734 rfl (lv_at hl 0 rfl) ?_
  refine lv_iconst (v := nI 1) hx hb dL_law_735 (by decide) ?_
  refine j_add hx hb dL_law_736 ?_
  refine j_sld hx hb hX hbl hbA hS (show i + 1 < L by omega) hL dL_law_737 ?_
  refine ra_V 4 0 (rest := []) ⟨hx, hb, hml, hown, hts⟩ (c_X5_count l G at0 (q 0) (q 1) (q 3) (q 10) kp (q 25) (q 4) (q 8) n0 (q 5) (q 6) (q 7) (q 9) V (xs (i + 1))) (cwV 1 hts gL_law_X5_count rfl rfl rfl (by decide +kernel) ⟨Nat.le_of_ble_eq_true rfl, Nat.le_of_ble_eq_true rfl⟩) hE (hP.sub [0, 3, 4, 8, 9] rfl) hZ hT hS rfl rfl rfl hl.1 rfl (Nat.le_of_ble_eq_true rfl) dL_law_738 ⟨Nat.le_of_ble_eq_true rfl, Nat.le_of_ble_eq_true rfl⟩ ?_
  refine W.eq (g2 := F0 m 741 ls [.int (cCount n0 kp V (xs (i + 1)))]) rfl ?_
  refine lv_aload_n hx hb dL_law_741 rfl (lv_at hl 1 rfl) ?_
  refine lv_aload_n hx hb dL_law_742 rfl (lv_at hl 3 rfl) ?_
  refine lv_iload_n hx hb dL_law_743 rfl (lv_at hl 0 rfl) ?_
  refine lv_iconst (v := nI 1) hx hb dL_law_744 (by decide) ?_
  refine j_add hx hb dL_law_745 ?_
  refine j_sld hx hb hX hbl hbA hS (show i + 1 < L by omega) hL dL_law_746 ?_
  refine ro_V 5 0 (rest := [.int (cCount n0 kp V (xs (i + 1)))]) ⟨hx, hb, hml, hown, hts⟩ (c_X6_count l G (q 26) (q 27) (q 28) (q 29) (q 30) (q 31) tr fi X K hR.kb (xs (i + 1))) (cwV 1 hts gL_law_X6_count rfl rfl rfl (by decide +kernel) ⟨Nat.le_of_ble_eq_true rfl, Nat.le_of_ble_eq_true rfl⟩) hE (hP.sub [26, 27, 29] rfl) rfl rfl rfl hl.1 rfl (Nat.le_of_ble_eq_true rfl) dL_law_747 ⟨Nat.le_of_ble_eq_true rfl, Nat.le_of_ble_eq_true rfl⟩ ?_
  refine W.eq (g2 := F0 m 750 ls [.int (mCount X K (xs (i + 1))), .int (cCount n0 kp V (xs (i + 1)))]) rfl ?_
  refine lv_icmp_eq (tgt := 755) hx hb dL_law_750 (by decide) (fun _ => ?_) (fun cq => absurd (E_count hR _) cq)
  exact kc kp n0 F S B V n1 F1 S1 B1 V1 n2 F2 S2 B2 V2 C tr _ X Y K D hR H locs hP hD hS ls hl

set_option maxHeartbeats 4000000 in
set_option maxRecDepth 100000 in
/-- the law: image -/
theorem law_image {p : Program} {l : Launch} {e : Env} {s : State} {m : MethodId} {below : List Frame} {meth : Method} {c : Code} {b L i at0 : Nat} {xs : Nat → Int32} {A : Nat → Prop} {G : EG} {q : Nat → Nat} {Q : State → Prop} (C0 : LC p s m c b L xs A G at0) (hi : i + 4 ≤ L) {kp : Nat} {n0 : Nat} {F : Nat → Nat} {S : Nat → Nat} {B : Nat → Nat} {V : Nat → Nat} {n1 : Nat} {F1 : Nat → Nat} {S1 : Nat → Nat} {B1 : Nat → Nat} {V1 : Nat → Nat} {n2 : Nat} {F2 : Nat → Nat} {S2 : Nat → Nat} {B2 : Nat → Nat} {V2 : Nat → Nat} {C : Nat → Nat} {tr : Nat} {fi : Int32} {X : Nat → Nat} {Y : Nat → Nat} {K : Nat → Nat} {D : Nat → Nat} (hR : LR kp n0 F S B V n1 F1 S1 B1 V1 n2 F2 S2 B2 V2 C X Y K D) {H : Heap} {locs : List Loc} (hP : va_P G.1 vwCl (LW G q kp n0 F S B V n1 F1 S1 B1 V1 n2 F2 S2 B2 V2 C tr fi X Y K D) H) (hD : va_D A (LW G q kp n0 F S B V n1 F1 S1 B1 V1 n2 F2 S2 B2 V2 C tr fi X Y K D)) (hS : va_S A s.heap H locs) {ls : Array Slot} (hl : lv_has ls 4 [(3, .int (nI i)), (2, .ref (q 26)), (1, .ref (q 0)), (0, .ref b)]) (kc : LK p l e s m below meth c b i A G q Q 755) : W p l e room_1 s m #[Value.ref b] below meth c H locs 33 4450 Q (F0 m 686 ls []) := by
  obtain ⟨hx, hb, hml, hown, hts, hX, hbl, hbA, hE, hA, hZ, hT, hL⟩ := C0
  rcases Bool.eq_false_or_eq_true (blw (xs (i + 1)) 2) with cx | cx
  · obtain ⟨d, hd, ed⟩ := blw_ex cx (by decide)
    rcases (show d = 0 ∨ d = 1 by omega) with rfl | rfl
    · skip
      refine lv_aload_n hx hb dL_law_686 rfl (lv_at hl 2 rfl) ?_
      refine lv_aload_n hx hb dL_law_687 rfl (lv_at hl 3 rfl) ?_
      refine lv_iload_n hx hb dL_law_688 rfl (lv_at hl 0 rfl) ?_
      refine lv_iconst (v := nI 1) hx hb dL_law_689 (by decide) ?_
      refine j_add hx hb dL_law_690 ?_
      refine j_sld hx hb hX hbl hbA hS (show i + 1 < L by omega) hL dL_law_691 ?_
      rw [ed]
      refine wr_V 4 0 (rest := []) (wr := [1, 2, 18, 19, 20, 21, 22, 23, 24, 25, 26, 27, 28, 29, 30, 31].filterMap (fun z9 => (LW G q kp n0 F S B V n1 F1 S1 B1 V1 n2 F2 S2 B2 V2 C tr fi X Y K D)[z9]?)) ⟨hx, hb, hml, hown, hts⟩ (c_X5_image_0 l G (q 0) (q 1) (q 3) (q 10) kp (q 25) (q 18) (q 4) n0 (q 5) (q 6) (q 7) (q 8) (q 9) (q 11) (q 12) n1 (q 13) (q 14) (q 15) (q 16) (q 17) F S B V F1 S1 B1 V1 H.size) (cwV 1 hts gL_law_X5_image rfl rfl rfl (by decide +kernel) ⟨Nat.le_of_ble_eq_true rfl, Nat.le_of_ble_eq_true rfl⟩) hE hP hD hS hA [0, 10, 3, 4, 5, 6, 7, 8, 9, 11, 12, 13, 14, 15, 16, 17] [1, 2, 18, 19, 20, 21, 22, 23, 24, 25, 26, 27, 28, 29, 30, 31] rfl rfl (by decide) (by decide) (by decide) rfl rfl rfl hl.1 rfl (Nat.le_of_ble_eq_true rfl) dL_law_692 ⟨Nat.le_of_ble_eq_true rfl, Nat.le_of_ble_eq_true rfl⟩ (fun H locs hP hD hS => ?_)
      have hP : va_P G.1 vwCl (LW G q (kp ||| 1 <<< 0) n0 F S B V n0 F S B V n2 F2 S2 B2 V2 C tr fi X Y K D) H := hP.sub [16, 0, 1, 18, 19, 20, 21, 22, 23, 24, 17, 25, 26, 27, 28, 29, 30, 31, 2, 3, 4, 5, 6, 7, 8, 9, 10, 11, 12, 13, 14, 15] rfl
      have hD : va_D A (LW G q (kp ||| 1 <<< 0) n0 F S B V n0 F S B V n2 F2 S2 B2 V2 C tr fi X Y K D) := hD.sub [16, 0, 1, 18, 19, 20, 21, 22, 23, 24, 17, 25, 26, 27, 28, 29, 30, 31, 2, 3, 4, 5, 6, 7, 8, 9, 10, 11, 12, 13, 14, 15] (by decide) rfl
      refine W.eq (g2 := F0 m 695 ls [.int (nI 1)]) rfl ?_
      refine lv_aload_n hx hb dL_law_695 rfl (lv_at hl 1 rfl) ?_
      refine lv_aload_n hx hb dL_law_696 rfl (lv_at hl 3 rfl) ?_
      refine lv_iload_n hx hb dL_law_697 rfl (lv_at hl 0 rfl) ?_
      refine lv_iconst (v := nI 1) hx hb dL_law_698 (by decide) ?_
      refine j_add hx hb dL_law_699 ?_
      refine j_sld hx hb hX hbl hbA hS (show i + 1 < L by omega) hL dL_law_700 ?_
      rw [ed]
      refine wr_V 5 0 (rest := [.int (nI 1)]) (wr := [0, 1, 2, 3, 4, 5, 6, 7, 8, 9, 10, 11, 12, 13, 14, 15, 16, 17, 18, 19, 20, 21, 22, 23, 24, 25, 30, 31].filterMap (fun z9 => (LW G q (kp ||| 1 <<< 0) n0 F S B V n0 F S B V n2 F2 S2 B2 V2 C tr fi X Y K D)[z9]?)) ⟨hx, hb, hml, hown, hts⟩ (c_X6_image l G (q 26) (q 27) (q 28) (q 29) (q 30) (q 31) tr fi X Y K (nI 0) H.size) (cwV 1 hts gL_law_X6_image rfl rfl rfl (by decide +kernel) ⟨Nat.le_of_ble_eq_true rfl, Nat.le_of_ble_eq_true rfl⟩) hE hP hD hS hA [26, 27, 28, 29] [0, 1, 2, 3, 4, 5, 6, 7, 8, 9, 10, 11, 12, 13, 14, 15, 16, 17, 18, 19, 20, 21, 22, 23, 24, 25, 30, 31] rfl rfl (by decide) (by decide) (by decide) rfl rfl rfl hl.1 rfl (Nat.le_of_ble_eq_true rfl) dL_law_701 ⟨Nat.le_of_ble_eq_true rfl, Nat.le_of_ble_eq_true rfl⟩ (fun H locs hP hD hS => ?_)
      have hP : va_P G.1 vwCl (LW G q (kp ||| 1 <<< 0) n0 F S B V n0 F S B V n2 F2 S2 B2 V2 C tr fi X (mImageY X Y (nI 0)) (mImageK K (nI 0)) D) H := hP.sub [0, 1, 2, 3, 4, 5, 6, 7, 8, 9, 10, 11, 12, 13, 14, 15, 16, 17, 18, 19, 20, 21, 22, 23, 24, 25, 28, 29, 30, 31, 26, 27] rfl
      have hD : va_D A (LW G q (kp ||| 1 <<< 0) n0 F S B V n0 F S B V n2 F2 S2 B2 V2 C tr fi X (mImageY X Y (nI 0)) (mImageK K (nI 0)) D) := hD.sub [0, 1, 2, 3, 4, 5, 6, 7, 8, 9, 10, 11, 12, 13, 14, 15, 16, 17, 18, 19, 20, 21, 22, 23, 24, 25, 28, 29, 30, 31, 26, 27] (by decide) rfl
      refine W.eq (g2 := F0 m 704 ls [.int (mImageR (nI 0)), .int (nI 1)]) rfl ?_
      refine lv_icmp_eq (tgt := 755) hx hb dL_law_704 (by decide) (fun _ => ?_) (fun cq => absurd (E_image 0 (by decide)).symm cq)
      exact kc (kp ||| 1 <<< 0) n0 F S B V n0 F S B V n2 F2 S2 B2 V2 C tr _ X (mImageY X Y (nI 0)) (mImageK K (nI 0)) D (hR.image0) H locs hP hD hS ls hl
    · skip
      refine lv_aload_n hx hb dL_law_686 rfl (lv_at hl 2 rfl) ?_
      refine lv_aload_n hx hb dL_law_687 rfl (lv_at hl 3 rfl) ?_
      refine lv_iload_n hx hb dL_law_688 rfl (lv_at hl 0 rfl) ?_
      refine lv_iconst (v := nI 1) hx hb dL_law_689 (by decide) ?_
      refine j_add hx hb dL_law_690 ?_
      refine j_sld hx hb hX hbl hbA hS (show i + 1 < L by omega) hL dL_law_691 ?_
      rw [ed]
      refine wr_V 4 0 (rest := []) (wr := [1, 2, 11, 12, 13, 14, 15, 16, 17, 25, 26, 27, 28, 29, 30, 31].filterMap (fun z9 => (LW G q kp n0 F S B V n1 F1 S1 B1 V1 n2 F2 S2 B2 V2 C tr fi X Y K D)[z9]?)) ⟨hx, hb, hml, hown, hts⟩ (c_X5_image_1 l G (q 0) (q 1) (q 3) (q 10) kp (q 25) (q 11) (q 4) n0 (q 5) (q 6) (q 7) (q 8) (q 9) (q 18) (q 19) n2 (q 20) (q 21) (q 22) (q 23) (q 24) F S B V F2 S2 B2 V2 H.size) (cwV 1 hts gL_law_X5_image rfl rfl rfl (by decide +kernel) ⟨Nat.le_of_ble_eq_true rfl, Nat.le_of_ble_eq_true rfl⟩) hE hP hD hS hA [0, 10, 3, 4, 5, 6, 7, 8, 9, 18, 19, 20, 21, 22, 23, 24] [1, 2, 11, 12, 13, 14, 15, 16, 17, 25, 26, 27, 28, 29, 30, 31] rfl rfl (by decide) (by decide) (by decide) rfl rfl rfl hl.1 rfl (Nat.le_of_ble_eq_true rfl) dL_law_692 ⟨Nat.le_of_ble_eq_true rfl, Nat.le_of_ble_eq_true rfl⟩ (fun H locs hP hD hS => ?_)
      have hP : va_P G.1 vwCl (LW G q (kp ||| 1 <<< 1) n0 F S B V n1 F1 S1 B1 V1 n0 F S B V C tr fi X Y K D) H := hP.sub [16, 0, 1, 18, 19, 20, 21, 22, 23, 24, 17, 2, 3, 4, 5, 6, 7, 8, 25, 26, 27, 28, 29, 30, 31, 9, 10, 11, 12, 13, 14, 15] rfl
      have hD : va_D A (LW G q (kp ||| 1 <<< 1) n0 F S B V n1 F1 S1 B1 V1 n0 F S B V C tr fi X Y K D) := hD.sub [16, 0, 1, 18, 19, 20, 21, 22, 23, 24, 17, 2, 3, 4, 5, 6, 7, 8, 25, 26, 27, 28, 29, 30, 31, 9, 10, 11, 12, 13, 14, 15] (by decide) rfl
      refine W.eq (g2 := F0 m 695 ls [.int (nI 1)]) rfl ?_
      refine lv_aload_n hx hb dL_law_695 rfl (lv_at hl 1 rfl) ?_
      refine lv_aload_n hx hb dL_law_696 rfl (lv_at hl 3 rfl) ?_
      refine lv_iload_n hx hb dL_law_697 rfl (lv_at hl 0 rfl) ?_
      refine lv_iconst (v := nI 1) hx hb dL_law_698 (by decide) ?_
      refine j_add hx hb dL_law_699 ?_
      refine j_sld hx hb hX hbl hbA hS (show i + 1 < L by omega) hL dL_law_700 ?_
      rw [ed]
      refine wr_V 5 0 (rest := [.int (nI 1)]) (wr := [0, 1, 2, 3, 4, 5, 6, 7, 8, 9, 10, 11, 12, 13, 14, 15, 16, 17, 18, 19, 20, 21, 22, 23, 24, 25, 30, 31].filterMap (fun z9 => (LW G q (kp ||| 1 <<< 1) n0 F S B V n1 F1 S1 B1 V1 n0 F S B V C tr fi X Y K D)[z9]?)) ⟨hx, hb, hml, hown, hts⟩ (c_X6_image l G (q 26) (q 27) (q 28) (q 29) (q 30) (q 31) tr fi X Y K (nI 1) H.size) (cwV 1 hts gL_law_X6_image rfl rfl rfl (by decide +kernel) ⟨Nat.le_of_ble_eq_true rfl, Nat.le_of_ble_eq_true rfl⟩) hE hP hD hS hA [26, 27, 28, 29] [0, 1, 2, 3, 4, 5, 6, 7, 8, 9, 10, 11, 12, 13, 14, 15, 16, 17, 18, 19, 20, 21, 22, 23, 24, 25, 30, 31] rfl rfl (by decide) (by decide) (by decide) rfl rfl rfl hl.1 rfl (Nat.le_of_ble_eq_true rfl) dL_law_701 ⟨Nat.le_of_ble_eq_true rfl, Nat.le_of_ble_eq_true rfl⟩ (fun H locs hP hD hS => ?_)
      have hP : va_P G.1 vwCl (LW G q (kp ||| 1 <<< 1) n0 F S B V n1 F1 S1 B1 V1 n0 F S B V C tr fi X (mImageY X Y (nI 1)) (mImageK K (nI 1)) D) H := hP.sub [0, 1, 2, 3, 4, 5, 6, 7, 8, 9, 10, 11, 12, 13, 14, 15, 16, 17, 18, 19, 20, 21, 22, 23, 24, 25, 28, 29, 30, 31, 26, 27] rfl
      have hD : va_D A (LW G q (kp ||| 1 <<< 1) n0 F S B V n1 F1 S1 B1 V1 n0 F S B V C tr fi X (mImageY X Y (nI 1)) (mImageK K (nI 1)) D) := hD.sub [0, 1, 2, 3, 4, 5, 6, 7, 8, 9, 10, 11, 12, 13, 14, 15, 16, 17, 18, 19, 20, 21, 22, 23, 24, 25, 28, 29, 30, 31, 26, 27] (by decide) rfl
      refine W.eq (g2 := F0 m 704 ls [.int (mImageR (nI 1)), .int (nI 1)]) rfl ?_
      refine lv_icmp_eq (tgt := 755) hx hb dL_law_704 (by decide) (fun _ => ?_) (fun cq => absurd (E_image 1 (by decide)).symm cq)
      exact kc (kp ||| 1 <<< 1) n0 F S B V n1 F1 S1 B1 V1 n0 F S B V C tr _ X (mImageY X Y (nI 1)) (mImageK K (nI 1)) D (hR.image1) H locs hP hD hS ls hl
  · skip
    refine lv_aload_n hx hb dL_law_686 rfl (lv_at hl 2 rfl) ?_
    refine lv_aload_n hx hb dL_law_687 rfl (lv_at hl 3 rfl) ?_
    refine lv_iload_n hx hb dL_law_688 rfl (lv_at hl 0 rfl) ?_
    refine lv_iconst (v := nI 1) hx hb dL_law_689 (by decide) ?_
    refine j_add hx hb dL_law_690 ?_
    refine j_sld hx hb hX hbl hbA hS (show i + 1 < L by omega) hL dL_law_691 ?_
    refine ro_V 4 0 (rest := []) ⟨hx, hb, hml, hown, hts⟩ (c_X5_image_n l G (q 0) (q 1) (q 3) (q 10) kp (q 25) (xs (i + 1)) cx) (cwV 1 hts gL_law_X5_image rfl rfl rfl (by decide +kernel) ⟨Nat.le_of_ble_eq_true rfl, Nat.le_of_ble_eq_true rfl⟩) hE (hP.sub [0] rfl) rfl rfl rfl hl.1 rfl (Nat.le_of_ble_eq_true rfl) dL_law_692 ⟨Nat.le_of_ble_eq_true rfl, Nat.le_of_ble_eq_true rfl⟩ ?_
    refine W.eq (g2 := F0 m 695 ls [.int (-2)]) rfl ?_
    refine lv_aload_n hx hb dL_law_695 rfl (lv_at hl 1 rfl) ?_
    refine lv_aload_n hx hb dL_law_696 rfl (lv_at hl 3 rfl) ?_
    refine lv_iload_n hx hb dL_law_697 rfl (lv_at hl 0 rfl) ?_
    refine lv_iconst (v := nI 1) hx hb dL_law_698 (by decide) ?_
    refine j_add hx hb dL_law_699 ?_
    refine j_sld hx hb hX hbl hbA hS (show i + 1 < L by omega) hL dL_law_700 ?_
    refine wr_V 5 0 (rest := [.int (-2)]) (wr := [0, 1, 2, 3, 4, 5, 6, 7, 8, 9, 10, 11, 12, 13, 14, 15, 16, 17, 18, 19, 20, 21, 22, 23, 24, 25, 30, 31].filterMap (fun z9 => (LW G q kp n0 F S B V n1 F1 S1 B1 V1 n2 F2 S2 B2 V2 C tr fi X Y K D)[z9]?)) ⟨hx, hb, hml, hown, hts⟩ (c_X6_image l G (q 26) (q 27) (q 28) (q 29) (q 30) (q 31) tr fi X Y K (xs (i + 1)) H.size) (cwV 1 hts gL_law_X6_image rfl rfl rfl (by decide +kernel) ⟨Nat.le_of_ble_eq_true rfl, Nat.le_of_ble_eq_true rfl⟩) hE hP hD hS hA [26, 27, 28, 29] [0, 1, 2, 3, 4, 5, 6, 7, 8, 9, 10, 11, 12, 13, 14, 15, 16, 17, 18, 19, 20, 21, 22, 23, 24, 25, 30, 31] rfl rfl (by decide) (by decide) (by decide) rfl rfl rfl hl.1 rfl (Nat.le_of_ble_eq_true rfl) dL_law_701 ⟨Nat.le_of_ble_eq_true rfl, Nat.le_of_ble_eq_true rfl⟩ (fun H locs hP hD hS => ?_)
    have hP : va_P G.1 vwCl (LW G q kp n0 F S B V n1 F1 S1 B1 V1 n2 F2 S2 B2 V2 C tr fi X (mImageY X Y (xs (i + 1))) (mImageK K (xs (i + 1))) D) H := hP.sub [0, 1, 2, 3, 4, 5, 6, 7, 8, 9, 10, 11, 12, 13, 14, 15, 16, 17, 18, 19, 20, 21, 22, 23, 24, 25, 28, 29, 30, 31, 26, 27] rfl
    have hD : va_D A (LW G q kp n0 F S B V n1 F1 S1 B1 V1 n2 F2 S2 B2 V2 C tr fi X (mImageY X Y (xs (i + 1))) (mImageK K (xs (i + 1))) D) := hD.sub [0, 1, 2, 3, 4, 5, 6, 7, 8, 9, 10, 11, 12, 13, 14, 15, 16, 17, 18, 19, 20, 21, 22, 23, 24, 25, 28, 29, 30, 31, 26, 27] (by decide) rfl
    refine W.eq (g2 := F0 m 704 ls [.int (mImageR (xs (i + 1))), .int (-2)]) rfl ?_
    refine lv_icmp_eq (tgt := 755) hx hb dL_law_704 (by decide) (fun _ => ?_) (fun cq => absurd (E_image_n cx).symm cq)
    exact kc kp n0 F S B V n1 F1 S1 B1 V1 n2 F2 S2 B2 V2 C tr _ X (mImageY X Y (xs (i + 1))) (mImageK K (xs (i + 1))) D (hR.image_n cx) H locs hP hD hS ls hl

set_option maxHeartbeats 4000000 in
set_option maxRecDepth 100000 in
/-- the law: restore -/
theorem law_restore {p : Program} {l : Launch} {e : Env} {s : State} {m : MethodId} {below : List Frame} {meth : Method} {c : Code} {b L i at0 : Nat} {xs : Nat → Int32} {A : Nat → Prop} {G : EG} {q : Nat → Nat} {Q : State → Prop} (C0 : LC p s m c b L xs A G at0) (hi : i + 4 ≤ L) {kp : Nat} {n0 : Nat} {F : Nat → Nat} {S : Nat → Nat} {B : Nat → Nat} {V : Nat → Nat} {n1 : Nat} {F1 : Nat → Nat} {S1 : Nat → Nat} {B1 : Nat → Nat} {V1 : Nat → Nat} {n2 : Nat} {F2 : Nat → Nat} {S2 : Nat → Nat} {B2 : Nat → Nat} {V2 : Nat → Nat} {C : Nat → Nat} {tr : Nat} {fi : Int32} {X : Nat → Nat} {Y : Nat → Nat} {K : Nat → Nat} {D : Nat → Nat} (hR : LR kp n0 F S B V n1 F1 S1 B1 V1 n2 F2 S2 B2 V2 C X Y K D) {H : Heap} {locs : List Loc} (hP : va_P G.1 vwCl (LW G q kp n0 F S B V n1 F1 S1 B1 V1 n2 F2 S2 B2 V2 C tr fi X Y K D) H) (hD : va_D A (LW G q kp n0 F S B V n1 F1 S1 B1 V1 n2 F2 S2 B2 V2 C tr fi X Y K D)) (hS : va_S A s.heap H locs) {ls : Array Slot} (hl : lv_has ls 4 [(3, .int (nI i)), (2, .ref (q 26)), (1, .ref (q 0)), (0, .ref b)]) (kc : LK p l e s m below meth c b i A G q Q 755) : W p l e room_1 s m #[Value.ref b] below meth c H locs 33 4450 Q (F0 m 709 ls []) := by
  obtain ⟨hx, hb, hml, hown, hts, hX, hbl, hbA, hE, hA, hZ, hT, hL⟩ := C0
  rcases Bool.eq_false_or_eq_true (blw (xs (i + 1)) 2) with cx | cx
  · obtain ⟨d, hd, ed⟩ := blw_ex cx (by decide)
    by_cases hk : kp >>> d &&& 1 = 0
    · skip
      refine lv_aload_n hx hb dL_law_709 rfl (lv_at hl 2 rfl) ?_
      refine lv_aload_n hx hb dL_law_710 rfl (lv_at hl 3 rfl) ?_
      refine lv_iload_n hx hb dL_law_711 rfl (lv_at hl 0 rfl) ?_
      refine lv_iconst (v := nI 1) hx hb dL_law_712 (by decide) ?_
      refine j_add hx hb dL_law_713 ?_
      refine j_sld hx hb hX hbl hbA hS (show i + 1 < L by omega) hL dL_law_714 ?_
      rw [ed]
      refine ro_V 4 0 (rest := []) ⟨hx, hb, hml, hown, hts⟩ (c_X5_restore_s l G (q 0) (q 1) (q 3) (q 10) kp (q 25) d hd hR.k4 hk) (cwV 1 hts gL_law_X5_restore rfl rfl rfl (by decide +kernel) ⟨Nat.le_of_ble_eq_true rfl, Nat.le_of_ble_eq_true rfl⟩) hE (hP.sub [0] rfl) rfl rfl rfl hl.1 rfl (Nat.le_of_ble_eq_true rfl) dL_law_715 ⟨Nat.le_of_ble_eq_true rfl, Nat.le_of_ble_eq_true rfl⟩ ?_
      refine W.eq (g2 := F0 m 718 ls [.int (-3)]) rfl ?_
      refine lv_aload_n hx hb dL_law_718 rfl (lv_at hl 1 rfl) ?_
      refine lv_aload_n hx hb dL_law_719 rfl (lv_at hl 3 rfl) ?_
      refine lv_iload_n hx hb dL_law_720 rfl (lv_at hl 0 rfl) ?_
      refine lv_iconst (v := nI 1) hx hb dL_law_721 (by decide) ?_
      refine j_add hx hb dL_law_722 ?_
      refine j_sld hx hb hX hbl hbA hS (show i + 1 < L by omega) hL dL_law_723 ?_
      rw [ed]
      refine wr_V 5 0 (rest := [.int (-3)]) (wr := [0, 1, 2, 3, 4, 5, 6, 7, 8, 9, 10, 11, 12, 13, 14, 15, 16, 17, 18, 19, 20, 21, 22, 23, 24, 25, 30, 31].filterMap (fun z9 => (LW G q kp n0 F S B V n1 F1 S1 B1 V1 n2 F2 S2 B2 V2 C tr fi X Y K D)[z9]?)) ⟨hx, hb, hml, hown, hts⟩ (c_X6_restore l G (q 26) (q 27) (q 28) (q 29) (q 30) (q 31) tr fi X Y K hR.kb (nI d) H.size) (cwV 1 hts gL_law_X6_restore rfl rfl rfl (by decide +kernel) ⟨Nat.le_of_ble_eq_true rfl, Nat.le_of_ble_eq_true rfl⟩) hE hP hD hS hA [26, 27, 28, 29] [0, 1, 2, 3, 4, 5, 6, 7, 8, 9, 10, 11, 12, 13, 14, 15, 16, 17, 18, 19, 20, 21, 22, 23, 24, 25, 30, 31] rfl rfl (by decide) (by decide) (by decide) rfl rfl rfl hl.1 rfl (Nat.le_of_ble_eq_true rfl) dL_law_724 ⟨Nat.le_of_ble_eq_true rfl, Nat.le_of_ble_eq_true rfl⟩ (fun H locs hP hD hS => ?_)
      have hP : va_P G.1 vwCl (LW G q kp n0 F S B V n1 F1 S1 B1 V1 n2 F2 S2 B2 V2 C tr fi (mRestoreX X Y K (nI d)) Y K D) H := hP.sub [0, 1, 2, 3, 4, 5, 6, 7, 8, 9, 10, 11, 12, 13, 14, 15, 16, 17, 18, 19, 20, 21, 22, 23, 24, 25, 28, 29, 30, 31, 26, 27] rfl
      have hD : va_D A (LW G q kp n0 F S B V n1 F1 S1 B1 V1 n2 F2 S2 B2 V2 C tr fi (mRestoreX X Y K (nI d)) Y K D) := hD.sub [0, 1, 2, 3, 4, 5, 6, 7, 8, 9, 10, 11, 12, 13, 14, 15, 16, 17, 18, 19, 20, 21, 22, 23, 24, 25, 28, 29, 30, 31, 26, 27] (by decide) rfl
      refine W.eq (g2 := F0 m 727 ls [.int (mRestoreR K (nI d)), .int (-3)]) rfl ?_
      refine lv_icmp_eq (tgt := 755) hx hb dL_law_727 (by decide) (fun _ => ?_) (fun cq => absurd (E_restore_s hR hd hk).symm cq)
      exact kc kp n0 F S B V n1 F1 S1 B1 V1 n2 F2 S2 B2 V2 C tr _ (mRestoreX X Y K (nI d)) Y K D (hR.restore_s hd hk) H locs hP hD hS ls hl
    · rcases (show d = 0 ∨ d = 1 by omega) with rfl | rfl
      · skip
        refine lv_aload_n hx hb dL_law_709 rfl (lv_at hl 2 rfl) ?_
        refine lv_aload_n hx hb dL_law_710 rfl (lv_at hl 3 rfl) ?_
        refine lv_iload_n hx hb dL_law_711 rfl (lv_at hl 0 rfl) ?_
        refine lv_iconst (v := nI 1) hx hb dL_law_712 (by decide) ?_
        refine j_add hx hb dL_law_713 ?_
        refine j_sld hx hb hX hbl hbA hS (show i + 1 < L by omega) hL dL_law_714 ?_
        rw [ed]
        refine wr_V 4 0 (rest := []) (wr := [1, 2, 18, 19, 20, 21, 22, 23, 24, 25, 26, 27, 28, 29, 30, 31].filterMap (fun z9 => (LW G q kp n0 F S B V n1 F1 S1 B1 V1 n2 F2 S2 B2 V2 C tr fi X Y K D)[z9]?)) ⟨hx, hb, hml, hown, hts⟩ (c_X5_restore_0 l G (q 0) (q 1) (q 3) (q 10) kp (q 25) (q 18) (q 4) n0 (q 5) (q 6) (q 7) (q 8) (q 9) (q 11) (q 12) n1 (q 13) (q 14) (q 15) (q 16) (q 17) F S B V F1 S1 B1 V1 hR.k4 hk H.size) (cwV 1 hts gL_law_X5_restore rfl rfl rfl (by decide +kernel) ⟨Nat.le_of_ble_eq_true rfl, Nat.le_of_ble_eq_true rfl⟩) hE hP hD hS hA [0, 10, 3, 4, 5, 6, 7, 8, 9, 11, 12, 13, 14, 15, 16, 17] [1, 2, 18, 19, 20, 21, 22, 23, 24, 25, 26, 27, 28, 29, 30, 31] rfl rfl (by decide) (by decide) (by decide) rfl rfl rfl hl.1 rfl (Nat.le_of_ble_eq_true rfl) dL_law_715 ⟨Nat.le_of_ble_eq_true rfl, Nat.le_of_ble_eq_true rfl⟩ (fun H locs hP hD hS => ?_)
        have hP : va_P G.1 vwCl (LW G q kp n1 F1 S1 B1 V1 n1 F1 S1 B1 V1 n2 F2 S2 B2 V2 C tr fi X Y K D) H := hP.sub [16, 0, 1, 18, 19, 20, 21, 22, 23, 24, 17, 25, 26, 27, 28, 29, 30, 31, 2, 3, 4, 5, 6, 7, 8, 9, 10, 11, 12, 13, 14, 15] rfl
        have hD : va_D A (LW G q kp n1 F1 S1 B1 V1 n1 F1 S1 B1 V1 n2 F2 S2 B2 V2 C tr fi X Y K D) := hD.sub [16, 0, 1, 18, 19, 20, 21, 22, 23, 24, 17, 25, 26, 27, 28, 29, 30, 31, 2, 3, 4, 5, 6, 7, 8, 9, 10, 11, 12, 13, 14, 15] (by decide) rfl
        refine W.eq (g2 := F0 m 718 ls [.int (nI 1)]) rfl ?_
        refine lv_aload_n hx hb dL_law_718 rfl (lv_at hl 1 rfl) ?_
        refine lv_aload_n hx hb dL_law_719 rfl (lv_at hl 3 rfl) ?_
        refine lv_iload_n hx hb dL_law_720 rfl (lv_at hl 0 rfl) ?_
        refine lv_iconst (v := nI 1) hx hb dL_law_721 (by decide) ?_
        refine j_add hx hb dL_law_722 ?_
        refine j_sld hx hb hX hbl hbA hS (show i + 1 < L by omega) hL dL_law_723 ?_
        rw [ed]
        refine wr_V 5 0 (rest := [.int (nI 1)]) (wr := [0, 1, 2, 3, 4, 5, 6, 7, 8, 9, 10, 11, 12, 13, 14, 15, 16, 17, 18, 19, 20, 21, 22, 23, 24, 25, 30, 31].filterMap (fun z9 => (LW G q kp n1 F1 S1 B1 V1 n1 F1 S1 B1 V1 n2 F2 S2 B2 V2 C tr fi X Y K D)[z9]?)) ⟨hx, hb, hml, hown, hts⟩ (c_X6_restore l G (q 26) (q 27) (q 28) (q 29) (q 30) (q 31) tr fi X Y K hR.kb (nI 0) H.size) (cwV 1 hts gL_law_X6_restore rfl rfl rfl (by decide +kernel) ⟨Nat.le_of_ble_eq_true rfl, Nat.le_of_ble_eq_true rfl⟩) hE hP hD hS hA [26, 27, 28, 29] [0, 1, 2, 3, 4, 5, 6, 7, 8, 9, 10, 11, 12, 13, 14, 15, 16, 17, 18, 19, 20, 21, 22, 23, 24, 25, 30, 31] rfl rfl (by decide) (by decide) (by decide) rfl rfl rfl hl.1 rfl (Nat.le_of_ble_eq_true rfl) dL_law_724 ⟨Nat.le_of_ble_eq_true rfl, Nat.le_of_ble_eq_true rfl⟩ (fun H locs hP hD hS => ?_)
        have hP : va_P G.1 vwCl (LW G q kp n1 F1 S1 B1 V1 n1 F1 S1 B1 V1 n2 F2 S2 B2 V2 C tr fi (mRestoreX X Y K (nI 0)) Y K D) H := hP.sub [0, 1, 2, 3, 4, 5, 6, 7, 8, 9, 10, 11, 12, 13, 14, 15, 16, 17, 18, 19, 20, 21, 22, 23, 24, 25, 28, 29, 30, 31, 26, 27] rfl
        have hD : va_D A (LW G q kp n1 F1 S1 B1 V1 n1 F1 S1 B1 V1 n2 F2 S2 B2 V2 C tr fi (mRestoreX X Y K (nI 0)) Y K D) := hD.sub [0, 1, 2, 3, 4, 5, 6, 7, 8, 9, 10, 11, 12, 13, 14, 15, 16, 17, 18, 19, 20, 21, 22, 23, 24, 25, 28, 29, 30, 31, 26, 27] (by decide) rfl
        refine W.eq (g2 := F0 m 727 ls [.int (mRestoreR K (nI 0)), .int (nI 1)]) rfl ?_
        refine lv_icmp_eq (tgt := 755) hx hb dL_law_727 (by decide) (fun _ => ?_) (fun cq => absurd (E_restore_k hR hd hk).symm cq)
        exact kc kp n1 F1 S1 B1 V1 n1 F1 S1 B1 V1 n2 F2 S2 B2 V2 C tr _ (mRestoreX X Y K (nI 0)) Y K D (hR.restore0 hk) H locs hP hD hS ls hl
      · skip
        refine lv_aload_n hx hb dL_law_709 rfl (lv_at hl 2 rfl) ?_
        refine lv_aload_n hx hb dL_law_710 rfl (lv_at hl 3 rfl) ?_
        refine lv_iload_n hx hb dL_law_711 rfl (lv_at hl 0 rfl) ?_
        refine lv_iconst (v := nI 1) hx hb dL_law_712 (by decide) ?_
        refine j_add hx hb dL_law_713 ?_
        refine j_sld hx hb hX hbl hbA hS (show i + 1 < L by omega) hL dL_law_714 ?_
        rw [ed]
        refine wr_V 4 0 (rest := []) (wr := [1, 2, 11, 12, 13, 14, 15, 16, 17, 25, 26, 27, 28, 29, 30, 31].filterMap (fun z9 => (LW G q kp n0 F S B V n1 F1 S1 B1 V1 n2 F2 S2 B2 V2 C tr fi X Y K D)[z9]?)) ⟨hx, hb, hml, hown, hts⟩ (c_X5_restore_1 l G (q 0) (q 1) (q 3) (q 10) kp (q 25) (q 11) (q 4) n0 (q 5) (q 6) (q 7) (q 8) (q 9) (q 18) (q 19) n2 (q 20) (q 21) (q 22) (q 23) (q 24) F S B V F2 S2 B2 V2 hR.k4 hk H.size) (cwV 1 hts gL_law_X5_restore rfl rfl rfl (by decide +kernel) ⟨Nat.le_of_ble_eq_true rfl, Nat.le_of_ble_eq_true rfl⟩) hE hP hD hS hA [0, 10, 3, 4, 5, 6, 7, 8, 9, 18, 19, 20, 21, 22, 23, 24] [1, 2, 11, 12, 13, 14, 15, 16, 17, 25, 26, 27, 28, 29, 30, 31] rfl rfl (by decide) (by decide) (by decide) rfl rfl rfl hl.1 rfl (Nat.le_of_ble_eq_true rfl) dL_law_715 ⟨Nat.le_of_ble_eq_true rfl, Nat.le_of_ble_eq_true rfl⟩ (fun H locs hP hD hS => ?_)
        have hP : va_P G.1 vwCl (LW G q kp n2 F2 S2 B2 V2 n1 F1 S1 B1 V1 n2 F2 S2 B2 V2 C tr fi X Y K D) H := hP.sub [16, 0, 1, 18, 19, 20, 21, 22, 23, 24, 17, 2, 3, 4, 5, 6, 7, 8, 25, 26, 27, 28, 29, 30, 31, 9, 10, 11, 12, 13, 14, 15] rfl
        have hD : va_D A (LW G q kp n2 F2 S2 B2 V2 n1 F1 S1 B1 V1 n2 F2 S2 B2 V2 C tr fi X Y K D) := hD.sub [16, 0, 1, 18, 19, 20, 21, 22, 23, 24, 17, 2, 3, 4, 5, 6, 7, 8, 25, 26, 27, 28, 29, 30, 31, 9, 10, 11, 12, 13, 14, 15] (by decide) rfl
        refine W.eq (g2 := F0 m 718 ls [.int (nI 1)]) rfl ?_
        refine lv_aload_n hx hb dL_law_718 rfl (lv_at hl 1 rfl) ?_
        refine lv_aload_n hx hb dL_law_719 rfl (lv_at hl 3 rfl) ?_
        refine lv_iload_n hx hb dL_law_720 rfl (lv_at hl 0 rfl) ?_
        refine lv_iconst (v := nI 1) hx hb dL_law_721 (by decide) ?_
        refine j_add hx hb dL_law_722 ?_
        refine j_sld hx hb hX hbl hbA hS (show i + 1 < L by omega) hL dL_law_723 ?_
        rw [ed]
        refine wr_V 5 0 (rest := [.int (nI 1)]) (wr := [0, 1, 2, 3, 4, 5, 6, 7, 8, 9, 10, 11, 12, 13, 14, 15, 16, 17, 18, 19, 20, 21, 22, 23, 24, 25, 30, 31].filterMap (fun z9 => (LW G q kp n2 F2 S2 B2 V2 n1 F1 S1 B1 V1 n2 F2 S2 B2 V2 C tr fi X Y K D)[z9]?)) ⟨hx, hb, hml, hown, hts⟩ (c_X6_restore l G (q 26) (q 27) (q 28) (q 29) (q 30) (q 31) tr fi X Y K hR.kb (nI 1) H.size) (cwV 1 hts gL_law_X6_restore rfl rfl rfl (by decide +kernel) ⟨Nat.le_of_ble_eq_true rfl, Nat.le_of_ble_eq_true rfl⟩) hE hP hD hS hA [26, 27, 28, 29] [0, 1, 2, 3, 4, 5, 6, 7, 8, 9, 10, 11, 12, 13, 14, 15, 16, 17, 18, 19, 20, 21, 22, 23, 24, 25, 30, 31] rfl rfl (by decide) (by decide) (by decide) rfl rfl rfl hl.1 rfl (Nat.le_of_ble_eq_true rfl) dL_law_724 ⟨Nat.le_of_ble_eq_true rfl, Nat.le_of_ble_eq_true rfl⟩ (fun H locs hP hD hS => ?_)
        have hP : va_P G.1 vwCl (LW G q kp n2 F2 S2 B2 V2 n1 F1 S1 B1 V1 n2 F2 S2 B2 V2 C tr fi (mRestoreX X Y K (nI 1)) Y K D) H := hP.sub [0, 1, 2, 3, 4, 5, 6, 7, 8, 9, 10, 11, 12, 13, 14, 15, 16, 17, 18, 19, 20, 21, 22, 23, 24, 25, 28, 29, 30, 31, 26, 27] rfl
        have hD : va_D A (LW G q kp n2 F2 S2 B2 V2 n1 F1 S1 B1 V1 n2 F2 S2 B2 V2 C tr fi (mRestoreX X Y K (nI 1)) Y K D) := hD.sub [0, 1, 2, 3, 4, 5, 6, 7, 8, 9, 10, 11, 12, 13, 14, 15, 16, 17, 18, 19, 20, 21, 22, 23, 24, 25, 28, 29, 30, 31, 26, 27] (by decide) rfl
        refine W.eq (g2 := F0 m 727 ls [.int (mRestoreR K (nI 1)), .int (nI 1)]) rfl ?_
        refine lv_icmp_eq (tgt := 755) hx hb dL_law_727 (by decide) (fun _ => ?_) (fun cq => absurd (E_restore_k hR hd hk).symm cq)
        exact kc kp n2 F2 S2 B2 V2 n1 F1 S1 B1 V1 n2 F2 S2 B2 V2 C tr _ (mRestoreX X Y K (nI 1)) Y K D (hR.restore1 hk) H locs hP hD hS ls hl
  · skip
    refine lv_aload_n hx hb dL_law_709 rfl (lv_at hl 2 rfl) ?_
    refine lv_aload_n hx hb dL_law_710 rfl (lv_at hl 3 rfl) ?_
    refine lv_iload_n hx hb dL_law_711 rfl (lv_at hl 0 rfl) ?_
    refine lv_iconst (v := nI 1) hx hb dL_law_712 (by decide) ?_
    refine j_add hx hb dL_law_713 ?_
    refine j_sld hx hb hX hbl hbA hS (show i + 1 < L by omega) hL dL_law_714 ?_
    refine ro_V 4 0 (rest := []) ⟨hx, hb, hml, hown, hts⟩ (c_X5_restore_n l G (q 0) (q 1) (q 3) (q 10) kp (q 25) (xs (i + 1)) cx) (cwV 1 hts gL_law_X5_restore rfl rfl rfl (by decide +kernel) ⟨Nat.le_of_ble_eq_true rfl, Nat.le_of_ble_eq_true rfl⟩) hE (hP.sub [0] rfl) rfl rfl rfl hl.1 rfl (Nat.le_of_ble_eq_true rfl) dL_law_715 ⟨Nat.le_of_ble_eq_true rfl, Nat.le_of_ble_eq_true rfl⟩ ?_
    refine W.eq (g2 := F0 m 718 ls [.int (-2)]) rfl ?_
    refine lv_aload_n hx hb dL_law_718 rfl (lv_at hl 1 rfl) ?_
    refine lv_aload_n hx hb dL_law_719 rfl (lv_at hl 3 rfl) ?_
    refine lv_iload_n hx hb dL_law_720 rfl (lv_at hl 0 rfl) ?_
    refine lv_iconst (v := nI 1) hx hb dL_law_721 (by decide) ?_
    refine j_add hx hb dL_law_722 ?_
    refine j_sld hx hb hX hbl hbA hS (show i + 1 < L by omega) hL dL_law_723 ?_
    refine wr_V 5 0 (rest := [.int (-2)]) (wr := [0, 1, 2, 3, 4, 5, 6, 7, 8, 9, 10, 11, 12, 13, 14, 15, 16, 17, 18, 19, 20, 21, 22, 23, 24, 25, 30, 31].filterMap (fun z9 => (LW G q kp n0 F S B V n1 F1 S1 B1 V1 n2 F2 S2 B2 V2 C tr fi X Y K D)[z9]?)) ⟨hx, hb, hml, hown, hts⟩ (c_X6_restore l G (q 26) (q 27) (q 28) (q 29) (q 30) (q 31) tr fi X Y K hR.kb (xs (i + 1)) H.size) (cwV 1 hts gL_law_X6_restore rfl rfl rfl (by decide +kernel) ⟨Nat.le_of_ble_eq_true rfl, Nat.le_of_ble_eq_true rfl⟩) hE hP hD hS hA [26, 27, 28, 29] [0, 1, 2, 3, 4, 5, 6, 7, 8, 9, 10, 11, 12, 13, 14, 15, 16, 17, 18, 19, 20, 21, 22, 23, 24, 25, 30, 31] rfl rfl (by decide) (by decide) (by decide) rfl rfl rfl hl.1 rfl (Nat.le_of_ble_eq_true rfl) dL_law_724 ⟨Nat.le_of_ble_eq_true rfl, Nat.le_of_ble_eq_true rfl⟩ (fun H locs hP hD hS => ?_)
    have hP : va_P G.1 vwCl (LW G q kp n0 F S B V n1 F1 S1 B1 V1 n2 F2 S2 B2 V2 C tr fi (mRestoreX X Y K (xs (i + 1))) Y K D) H := hP.sub [0, 1, 2, 3, 4, 5, 6, 7, 8, 9, 10, 11, 12, 13, 14, 15, 16, 17, 18, 19, 20, 21, 22, 23, 24, 25, 28, 29, 30, 31, 26, 27] rfl
    have hD : va_D A (LW G q kp n0 F S B V n1 F1 S1 B1 V1 n2 F2 S2 B2 V2 C tr fi (mRestoreX X Y K (xs (i + 1))) Y K D) := hD.sub [0, 1, 2, 3, 4, 5, 6, 7, 8, 9, 10, 11, 12, 13, 14, 15, 16, 17, 18, 19, 20, 21, 22, 23, 24, 25, 28, 29, 30, 31, 26, 27] (by decide) rfl
    refine W.eq (g2 := F0 m 727 ls [.int (mRestoreR K (xs (i + 1))), .int (-2)]) rfl ?_
    refine lv_icmp_eq (tgt := 755) hx hb dL_law_727 (by decide) (fun _ => ?_) (fun cq => absurd (E_restore_n cx).symm cq)
    exact kc kp n0 F S B V n1 F1 S1 B1 V1 n2 F2 S2 B2 V2 C tr _ (mRestoreX X Y K (xs (i + 1))) Y K D (hR.restore_n cx) H locs hP hD hS ls hl
