def nestW : List Cond := [.methodLinkNest "TripleTrap" 11 yX2_init "TripleTrap", .methodLinkNest "TripleTrap$Mender" 15 yX0_remainder "TripleTrap", .methodLinkNest "TripleTrap$Mender" 25 yX5_isBelow "TripleTrap", .methodLinkNest "TripleTrap" 18 yX1_init "TripleTrap", .methodLinkNest "TripleTrap$Held" 9 yX3_init "TripleTrap", .fieldLinkNest "TripleTrap" 95 "TripleTrap$Moves" "size" "I" "TripleTrap", .fieldLinkNest "TripleTrap" 108 "TripleTrap$Moves" "factors" "[I" "TripleTrap", .fieldLinkNest "TripleTrap" 111 "TripleTrap$Moves" "shifts" "[I" "TripleTrap", .methodLinkNest "TripleTrap$Held" 18 yX4_init "TripleTrap", .fieldLinkNest "TripleTrap" 128 "TripleTrap$Trust" "levels" "[I" "TripleTrap", .fieldLinkNest "TripleTrap" 91 "TripleTrap$Held" "moves" "LTripleTrap$Moves;" "TripleTrap", .fieldLinkNest "TripleTrap" 124 "TripleTrap$Held" "trust" "LTripleTrap$Trust;" "TripleTrap", .methodLinkNest "TripleTrap" 39 yX0_coded "TripleTrap", .methodLinkNest "TripleTrap" 46 yX0_remainder "TripleTrap", .methodLinkNest "TripleTrap" 54 yX2_nearest "TripleTrap", .methodLinkNest "TripleTrap" 57 yX2_distance "TripleTrap", .methodLinkNest "TripleTrap" 60 yX0_message "TripleTrap", .methodLinkNest "TripleTrap" 67 yX0_turn "TripleTrap", .methodLinkNest "TripleTrap" 70 yX0_trapErrors "TripleTrap", .methodLinkNest "TripleTrap" 73 yX0_turnBack "TripleTrap", .methodLinkNest "TripleTrap" 76 yX0_widen "TripleTrap", .methodLinkNest "TripleTrap" 84 yX0_staysInCode "TripleTrap", .methodLinkNest "TripleTrap" 87 yX0_carry "TripleTrap", .methodLinkNest "TripleTrap" 100 yX3_append "TripleTrap", .methodLinkNest "TripleTrap$Moves" 25 yX0_carryBack "TripleTrap", .methodLinkNest "TripleTrap" 104 yX3_removeAt "TripleTrap", .methodLinkNest "TripleTrap$Moves" 31 yX5_isBelow "TripleTrap", .methodLinkNest "TripleTrap" 114 yX3_coveredByFirst "TripleTrap", .methodLinkNest "TripleTrap" 117 yX0_carryBack "TripleTrap", .methodLinkNest "TripleTrap" 120 yX3_firstNotCovered "TripleTrap", .methodLinkNest "TripleTrap" 133 yX4_weakestBut "TripleTrap", .methodLinkNest "TripleTrap" 145 yX4_sum "TripleTrap", .methodLinkNest "TripleTrap" 148 yX1_copyFrom "TripleTrap", .methodLinkNest "TripleTrap$Held" 23 yX3_copyFrom "TripleTrap", .methodLinkNest "TripleTrap$Held" 27 yX4_copyFrom "TripleTrap"]
def isNest : Cond → Bool
  | .methodLinkNest _ _ _ _ => true
  | .fieldLinkNest _ _ _ _ _ _ => true
  | _ => false
theorem nestW_ok : nestW.all isNest = true := rfl
theorem nest_warm {w : Cond} (h : isNest w = true) {s U : State} (hW : s.WarmedH U.vm) (hZ : va_Nw w s) : va_Nw w U := by
  cases w <;> first | exact hZ.warmM hW | exact hZ.warmF hW | (simp [isNest] at h; done) | exact va_Nw.warmM hW hZ | exact va_Nw.warmF hW hZ
theorem nest_same {w : Cond} (h : isNest w = true) {s U : State} (hW : s.vm = U.vm) (hZ : va_Nw w s) : va_Nw w U := by
  refine va_Nw.same ?_ hW hZ
  cases w <;> first | rfl | (simp [isNest] at h; done)
abbrev EG : Type := va_G × ClassId × ClassId × ClassId
abbrev tyL (G : EG) : List (ClassId × FieldType) := [(G.2.1, .int), (G.2.2.1, .boolean), (G.2.2.2, .object "TripleTrap$Held")]
/-- what the tables say, for every method: the classes, the array classes, the links among nest mates -/
def Ev (G : EG) (U : State) : Prop := va_K G.1 vwCl (tyL G) U ∧ (∀ w ∈ nestW, va_Nw w U) ∧ va_AO "TripleTrap$Held" U
theorem Ev.warm {G : EG} {s U : State} (hW : s.WarmedH U.vm) (h : Ev G s) : Ev G U := ⟨va_K.moved hW.alike h.1, fun w hw => nest_warm (List.all_eq_true.mp nestW_ok w hw) hW (h.2.1 w hw), va_AO.moved hW.alike h.2.2⟩
theorem Ev.calling {G : EG} {U : State} (g : JFrame) (mk : MethodId) (a : Array Value) (h : Ev G U) : Ev G (U.calling g mk a) := ⟨va_K.moved (u := U) (U := U.calling g mk a) (Vm.Alike.refl U.vm) h.1, fun w hw => nest_same (s := U) (U := U.calling g mk a) (List.all_eq_true.mp nestW_ok w hw) rfl (h.2.1 w hw), va_AO.moved (u := U) (U := U.calling g mk a) (Vm.Alike.refl U.vm) h.2.2⟩
theorem Ev.nest {G : EG} {U : State} (h : Ev G U) {w : Cond} (i : Nat) (hi : nestW[i]? = some w) : va_Nw w U := h.2.1 w (List.mem_of_getElem? hi)
theorem Ev.nestB {G : EG} {U : State} (h : Ev G U) {args : Array Value} {w : Cond} (i : Nat) (hi : nestW[i]? = some w) (hw : w.onTables = true) : w.before args U = true := va_Nw.use hw (h.2.1 w (List.mem_of_getElem? hi))
/-- an int array of Nats, a boolean one, one of references -/
abbrev aI (G : EG) (n : Nat) (F : Nat → Nat) : va_E := .inl (G.2.1, n, .inl (fun i => nI (F i)))
abbrev aZ (G : EG) (n : Nat) (F : Nat → Nat) : va_E := .inl (G.2.2.1, n, .inl (fun i => nI (F i)))
abbrev aO (G : EG) (n : Nat) (F : Nat → Option Nat) : va_E := .inl (G.2.2.2, n, .inr (.inr (.inr (.inr F))))
theorem upd_nI (F : Nat → Nat) {k : Nat} (x : Nat) (hk : k < 2147483648) : upd (fun i => nI (F i)) (nI k).toNatClampNeg (nI x) = fun i => nI (va_up F k x i) := by
  rw [nI_clamp hk]
  funext j
  by_cases h : j = k
  · simp [upd, va_up, h]
  · simp [upd, va_up, h]
section JW
variable {p : Program} {l : Launch} {e : Env} {R : Room} {s : State} {m : MethodId} {args : Array Value} {below : List Frame} {meth : Method} {c : Code} {H : Heap} {locs : List Loc} {cells slots : Nat} {Q : State → Prop}
variable {cc : ByteArray} {pc : Nat} {ls : Array Slot} {rest : List Value} {G : EG} {A : Nat → Prop} {a : Nat} {ws : va_W} {H0 : Heap}
theorem j_iald (hx : p.tables.exec = Jvm.exec) (hb : c.code = cc) (hE : Ev G s) (hP : va_P G.1 vwCl ws H) (q0 : Nat) {n k : Nat} {F : Nat → Nat} (ha : ws[q0]? = some (a, aI G n F)) (hdg : decode cc pc = .ok (.iaload, 1)) (kk : W p l e R s m args below meth c H locs cells slots Q (F0 m (pc + 1) ls (.int (nI (F k)) :: rest))) (hk : k < n := by omega) (hn : n < 2147483648 := by omega) : W p l e R s m args below meth c H locs cells slots Q (F0 m pc ls (.int (nI k) :: .ref a :: rest)) :=
  va_iald hx hb hE.1 hP q0 0 ha rfl (vp_in_nI hk hn) hdg (by rw [nI_clamp (Nat.lt_trans hk hn)]; exact kk)
theorem j_zald (hx : p.tables.exec = Jvm.exec) (hb : c.code = cc) (hE : Ev G s) (hP : va_P G.1 vwCl ws H) (q0 : Nat) {n k : Nat} {F : Nat → Nat} (ha : ws[q0]? = some (a, aZ G n F)) (hdg : decode cc pc = .ok (.baload, 1)) (kk : W p l e R s m args below meth c H locs cells slots Q (F0 m (pc + 1) ls (.int (nI (F k)) :: rest))) (hk : k < n := by omega) (hn : n < 2147483648 := by omega) : W p l e R s m args below meth c H locs cells slots Q (F0 m pc ls (.int (nI k) :: .ref a :: rest)) :=
  va_zald hx hb hE.1 hP q0 1 ha rfl (vp_in_nI hk hn) hdg (by rw [nI_clamp (Nat.lt_trans hk hn)]; exact kk)
theorem j_iast (hx : p.tables.exec = Jvm.exec) (hb : c.code = cc) (hE : Ev G s) (hP : va_P G.1 vwCl ws H) (hD : va_D A ws) (hS : va_S A H0 H locs) (q0 : Nat) {n k x : Nat} {F : Nat → Nat} (ha : ws[q0]? = some (a, aI G n F)) (hdg : decode cc pc = .ok (.iastore, 1)) (kk : ∀ (H1 : Heap) (locs1 : List Loc), va_P G.1 vwCl (ws.set q0 (a, aI G n (va_up F k x))) H1 → va_D A (ws.set q0 (a, aI G n (va_up F k x))) → va_S A H0 H1 locs1 → W p l e R s m args below meth c H1 locs1 cells slots Q (F0 m (pc + 1) ls rest)) (hk : k < n := by omega) (hn : n < 2147483648 := by omega) : W p l e R s m args below meth c H locs cells slots Q (F0 m pc ls (.int (nI x) :: .int (nI k) :: .ref a :: rest)) :=
  va_iast hx hb hE.1 hP hD hS q0 0 ha rfl (vp_in_nI hk hn) hdg (by rw [upd_nI F x (Nat.lt_trans hk hn)]; exact kk)
theorem j_zast (hx : p.tables.exec = Jvm.exec) (hb : c.code = cc) (hE : Ev G s) (hP : va_P G.1 vwCl ws H) (hD : va_D A ws) (hS : va_S A H0 H locs) (q0 : Nat) {n k : Nat} {F : Nat → Nat} (ha : ws[q0]? = some (a, aZ G n F)) (hdg : decode cc pc = .ok (.bastore, 1)) (kk : ∀ (H1 : Heap) (locs1 : List Loc), va_P G.1 vwCl (ws.set q0 (a, aZ G n (va_up F k 1))) H1 → va_D A (ws.set q0 (a, aZ G n (va_up F k 1))) → va_S A H0 H1 locs1 → W p l e R s m args below meth c H1 locs1 cells slots Q (F0 m (pc + 1) ls rest)) (hk : k < n := by omega) (hn : n < 2147483648 := by omega) : W p l e R s m args below meth c H locs cells slots Q (F0 m pc ls (.int (nI 1) :: .int (nI k) :: .ref a :: rest)) :=
  va_zast hx hb hE.1 hP hD hS q0 1 ha rfl (vp_in_nI hk hn) hdg (by rw [show vp_nar .boolean (nI 1) = nI 1 from rfl, upd_nI F 1 (Nat.lt_trans hk hn)]; exact kk)
end JW
/-! methods that only read: what they answer, the heap as it was -/
def preR (G : EG) (w : va_W) (av : List Value) : Array Value → State → Prop := va_Pc av (fun U => va_P G.1 vwCl w U.heap ∧ Ev G U)
theorem preR_blind (G : EG) (w : va_W) (av : List Value) : FrameBlind (preR G w av) := fun a U g mk h => ⟨h.1, h.2.1, h.2.2.calling g mk a⟩
abbrev rmR (f n : Nat) : Room := { frames := f, cells := 0, slots := 0, locals := n }
abbrev RO (l : Launch) (y : MethodName) (ws : List Cond) (rm : Room) (G : EG) (w : va_W) (av : List Value) (r : Value) : Prop := Met l y ws rm (preR G w av) (k2_QcV r) 0 0 (fun _ => False)
theorem RO.start {l : Launch} {y : MethodName} {ws ws' : List Cond} {rm : Room} {G : EG} {w : va_W} {av : List Value} {r : Value} {cc : ByteArray} {maxL : Nat} {ret : Option FieldType} (hy : plainName y.cls = true) (hw : ws = Cond.code y cc maxL ret :: ws') (hn : (lg_sl av).length ≤ maxL)
    (body : ∀ (p : Program) (e : Env) (s : State) (m : MethodId) (below : List Frame) (meth : Method) (c : Code), p.tables.exec = Jvm.exec → c.code = cc → meth.sig.returnType = ret → c.maxLocals = maxL → (∀ w ∈ ws, w.before av.toArray s = true) → s.vm.findClass y.cls = some m.cls → meth.locks = false → va_P G.1 vwCl w s.heap → Ev G s → ∀ ls : Array Slot, lv_has ls maxL (lv_args 0 av) → W p l e rm s m av.toArray below meth c s.heap [] 0 0 (MQ below (k2_QcV r) av.toArray s 0 0 (fun _ => False)) (F0 m 0 ls [])) : RO l y ws rm G w av r := by
  refine Met.ofW hy hw ?_
  intro p e s m args below meth c s₁ B hml hv
  obtain ⟨rfl, hP, hE⟩ := hv
  have hl := lv_entry av hn
  rw [lg_entry_eq]
  exact body p e s m below meth c B.exec B.bytes B.returns hml (atoms_spec (ws := ws) B.pre) (findClass_of_methodNamed B.named) B.notSynchronized hP hE _ hl
section ROK
variable {p : Program} {l : Launch} {e : Env} {R : Room} {s : State} {m : MethodId} {args : Array Value} {below : List Frame} {meth : Method} {c : Code} {H : Heap} {locs : List Loc} {cells slots : Nat} {Q : State → Prop}
variable {cc bytes : ByteArray} {pc nL maxL n index ci q0 b : Nat} {ls : Array Slot} {rest As : List Value} {G : EG} {w wc : va_W} {ws Ts : List Cond} {own host C : String} {y : MethodName} {ret : Option FieldType} {rm : Room} {r : Value}
theorem ro_ret {v : Int32} (hx : p.tables.exec = Jvm.exec) (hb : c.code = cc) (hr : meth.sig.returnType = some .int) (hlocks : meth.locks = false) (hdg : decode cc pc = .ok (.ireturn, 1)) (hv : r = .int v) : W p l e R s m args below meth c s.heap [] 0 0 (MQ below (k2_QcV r) args s 0 0 (fun _ => False)) (F0 m pc ls [.int v]) :=
  W.iret hx hb hr (fun t ht _ => ⟨by rw [hv], ht⟩) (fun _ h => by cases h) hdg hlocks
theorem ro_zret {v : Int32} (hx : p.tables.exec = Jvm.exec) (hb : c.code = cc) (hr : meth.sig.returnType = some .boolean) (hlocks : meth.locks = false) (hdg : decode cc pc = .ok (.ireturn, 1)) (hv : r = .int v) (hn : narrow .boolean (.int v) = .int v) : W p l e R s m args below meth c s.heap [] 0 0 (MQ below (k2_QcV r) args s 0 0 (fun _ => False)) (F0 m pc ls [.int v]) :=
  W.zret hx hb hr hn (fun t ht _ => ⟨by rw [hv], ht⟩) (fun _ h => by cases h) hdg hlocks
theorem preR_S (hE : Ev G s) (hP : va_P G.1 vwCl wc H) : PreS s H (preR G wc As) As := ⟨preR_blind G wc As, fun U hU hW => ⟨rfl, by rw [hU]; exact hP, hE.warm hW⟩⟩
theorem preR_V {q : vw_C} {fs : List Value} (hE : Ev G s) (hP : va_P G.1 vwCl wc H) (hc : vwCl[ci]? = some q) (he : wc[q0]? = some (b, .inr (ci, fs))) : PreV s H q.1 b (preR G wc (.ref b :: As)) As := ⟨preR_blind G wc _, va_recv hE.1 hP hc he, fun U hU hW => ⟨rfl, by rw [hU]; exact hP, hE.warm hW⟩⟩
theorem ro_S (S : CallFix p m c cc nL s args Ts own) (hM : RO l y ws rm G wc As r) (cw : CallB R s args own index y bytes maxL ret ws rm 0 0 n ∧ (Cond.static y).before args s = true) (hE : Ev G s) (hP : va_P G.1 vwCl wc H) (hn : As.length = n) (hsize : ls.size = nL) {st : List Value} (hst : st = As.reverse ++ rest) (hW : (rest.map fun v => v.category).sum ≤ 8) (hdg : decode cc pc = .ok (.invokestatic index, 3)) (hf : cells ≤ R.cells ∧ slots ≤ R.slots)
    (kk : W p l e R s m args below meth c H locs cells slots Q (F0 m (pc + 3) ls (r :: rest))) : W p l e R s m args below meth c H locs cells slots Q (F0 m pc ls st) :=
  W.callV (va_runS S hM cw (preR_S hE hP) rfl hn hsize hst (lv_room hW) hdg hf).run kk
theorem ro_SN (S : CallFix p m c cc nL s args Ts own) (hM : RO l y ws rm G wc As r) (cw : va_CN R s args own index y host bytes maxL ret ws rm 0 0 n ∧ (Cond.static y).before args s = true ∧ True) (hE : Ev G s) (hP : va_P G.1 vwCl wc H) (hn : As.length = n) (hsize : ls.size = nL) {st : List Value} (hst : st = As.reverse ++ rest) (hW : (rest.map fun v => v.category).sum ≤ 8) (hdg : decode cc pc = .ok (.invokestatic index, 3)) (hf : cells ≤ R.cells ∧ slots ≤ R.slots)
    (kk : W p l e R s m args below meth c H locs cells slots Q (F0 m (pc + 3) ls (r :: rest))) : W p l e R s m args below meth c H locs cells slots Q (F0 m pc ls st) :=
  W.callV (va_runSN S hM cw (preR_S hE hP) rfl hn hsize hst (lv_room hW) hdg hf).run kk
theorem ro_V (ci q0 : Nat) {q : vw_C} {fs : List Value} (S : CallFix p m c cc nL s args Ts own) (hM : RO l y ws rm G wc (.ref b :: As) r) (cw : CallW R s args own q.1 index y bytes maxL ret ws rm 0 0 n) (hE : Ev G s) (hP : va_P G.1 vwCl wc H) (hc : vwCl[ci]? = some q) (he : wc[q0]? = some (b, .inr (ci, fs))) (hn : As.length = n) (hsize : ls.size = nL) {st : List Value} (hst : st = As.reverse ++ .ref b :: rest) (hW : (rest.map fun v => v.category).sum ≤ 8) (hdg : decode cc pc = .ok (.invokevirtual index, 3)) (hf : cells ≤ R.cells ∧ slots ≤ R.slots)
    (kk : W p l e R s m args below meth c H locs cells slots Q (F0 m (pc + 3) ls (r :: rest))) : W p l e R s m args below meth c H locs cells slots Q (F0 m pc ls st) :=
  W.callV (va_runV S hM cw (preR_V hE hP hc he) rfl hn hsize hst (lv_room hW) hdg hf).run kk
theorem ro_VN (ci q0 : Nat) {q : vw_C} {fs : List Value} (S : CallFix p m c cc nL s args Ts own) (hM : RO l y ws rm G wc (.ref b :: As) r) (cw : va_CN R s args own index y host bytes maxL ret ws rm 0 0 n ∧ (Cond.instanceMethod y).before args s = true ∧ (Cond.selects q.1 y y).before args s = true) (hE : Ev G s) (hP : va_P G.1 vwCl wc H) (hc : vwCl[ci]? = some q) (he : wc[q0]? = some (b, .inr (ci, fs))) (hn : As.length = n) (hsize : ls.size = nL) {st : List Value} (hst : st = As.reverse ++ .ref b :: rest) (hW : (rest.map fun v => v.category).sum ≤ 8) (hdg : decode cc pc = .ok (.invokevirtual index, 3)) (hf : cells ≤ R.cells ∧ slots ≤ R.slots)
    (kk : W p l e R s m args below meth c H locs cells slots Q (F0 m (pc + 3) ls (r :: rest))) : W p l e R s m args below meth c H locs cells slots Q (F0 m pc ls st) :=
  W.callV (va_runVN S hM cw (preR_V hE hP hc he) rfl hn hsize hst (lv_room hW) hdg hf).run kk
end ROK

