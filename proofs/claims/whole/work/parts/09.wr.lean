/-! methods that write cells of their world, and make none -/
def preW (G : EG) (sz : Nat) (w : va_W) (av : List Value) : Array Value → State → Prop := va_Pc av (fun U => U.heap.size = sz ∧ va_P G.1 vwCl w U.heap ∧ Ev G U ∧ va_D (fun _ => True) w)
theorem preW_blind (G : EG) (sz : Nat) (w : va_W) (av : List Value) : FrameBlind (preW G sz w av) := fun a U g mk h => ⟨h.1, h.2.1, h.2.2.1, h.2.2.2.1.calling g mk a, h.2.2.2.2⟩
def postW (G : EG) (w : va_W) (r : Option Value) (A : Nat → Prop) : Array Value → State → Outcome → State → Prop := fun _ st oc t => (oc = .returned r ∧ va_P G.1 vwCl w t.heap ∧ va_D A w) ∧ va_F A st t
abbrev WR (l : Launch) (y : MethodName) (ws : List Cond) (rm : Room) (G : EG) (sz : Nat) (w : va_W) (av : List Value) (w1 : va_W) (r : Option Value) : Prop := Met l y ws rm (preW G sz w av) (postW G w1 r (va_A w sz)) 0 0 (va_A w sz)
theorem WR.start {l : Launch} {y : MethodName} {ws ws' : List Cond} {rm : Room} {G : EG} {sz : Nat} {w w1 : va_W} {av : List Value} {r : Option Value} {cc : ByteArray} {maxL : Nat} {ret : Option FieldType} (hy : plainName y.cls = true) (hw : ws = Cond.code y cc maxL ret :: ws') (hn : (lg_sl av).length ≤ maxL)
    (body : ∀ (p : Program) (e : Env) (s : State) (m : MethodId) (below : List Frame) (meth : Method) (c : Code), p.tables.exec = Jvm.exec → c.code = cc → meth.sig.returnType = ret → c.maxLocals = maxL → (∀ w ∈ ws, w.before av.toArray s = true) → s.vm.findClass y.cls = some m.cls → meth.locks = false → Ev G s → ∀ A : Nat → Prop, (∀ q, s.heap.size ≤ q → A q) → ∀ (H : Heap) (locs : List Loc), va_P G.1 vwCl w H → va_D A w → va_S A s.heap H locs → ∀ ls : Array Slot, lv_has ls maxL (lv_args 0 av) → W p l e rm s m av.toArray below meth c H locs 0 0 (MQ below (postW G w1 r A) av.toArray s 0 0 A) (F0 m 0 ls [])) : WR l y ws rm G sz w av w1 r := by
  refine Met.ofW hy hw ?_
  intro p e s m args below meth c s₁ B hml hv
  obtain ⟨rfl, hsz, hP, hE, hD⟩ := hv
  subst hsz
  have hl := lv_entry av hn
  rw [lg_entry_eq]
  exact body p e s m below meth c B.exec B.bytes B.returns hml (atoms_spec (ws := ws) B.pre) (findClass_of_methodNamed B.named) B.notSynchronized hE _ (fun q h => Or.inr h) _ _ hP hD.self va_S.rf _ hl
theorem P_pick {D : va_G} {cl : List vw_C} {w wc : va_W} {H : Heap} (h : va_P D cl w H) (is : List Nat) (hs : is.map (fun i => w[i]?) = wc.map some) : va_P D cl wc H := by
  intro k q hk
  have h1 : (is.map (fun i => w[i]?))[k]? = some (some q) := by rw [hs, List.getElem?_map, hk]; rfl
  rw [List.getElem?_map] at h1
  cases hi : is[k]? with
  | none => rw [hi] at h1; cases h1
  | some i => rw [hi] at h1; exact h i q (Option.some.inj h1)
section WRK
variable {p : Program} {l : Launch} {e : Env} {R : Room} {s : State} {m : MethodId} {args : Array Value} {below : List Frame} {meth : Method} {c : Code} {H H0 : Heap} {locs : List Loc} {cells slots : Nat} {Q : State → Prop}
variable {cc bytes : ByteArray} {pc nL maxL n index ci q0 b : Nat} {ls : Array Slot} {rest As : List Value} {G : EG} {w wc w1 : va_W} {ws Ts : List Cond} {own host C : String} {y : MethodName} {ret : Option FieldType} {rm : Room} {r : Option Value} {A : Nat → Prop}
theorem wr_ret {v : Int32} (hx : p.tables.exec = Jvm.exec) (hb : c.code = cc) (hr : meth.sig.returnType = some .int) (hlocks : meth.locks = false) (hdg : decode cc pc = .ok (.ireturn, 1)) (hP : va_P G.1 vwCl w H) (hD : va_D A w) (hS : va_S A s.heap H locs) (hv : r = some (.int v)) : W p l e R s m args below meth c H locs 0 0 (MQ below (postW G w r A) args s 0 0 A) (F0 m pc ls [.int v]) :=
  W.iret hx hb hr (fun t ht _ => ⟨⟨by rw [hv], by rw [ht]; exact hP, hD⟩, hS.F ht⟩) hS.2.2 hdg hlocks
theorem wr_vret (hx : p.tables.exec = Jvm.exec) (hb : c.code = cc) (hr : meth.sig.returnType = none) (hlocks : meth.locks = false) (hdg : decode cc pc = .ok (.return_, 1)) (hP : va_P G.1 vwCl w H) (hD : va_D A w) (hS : va_S A s.heap H locs) : W p l e R s m args below meth c H locs 0 0 (MQ below (postW G w none A) args s 0 0 A) (F0 m pc ls []) :=
  W.vret hx hb hr (fun t ht _ => ⟨⟨rfl, by rw [ht]; exact hP, hD⟩, hS.F ht⟩) hS.2.2 hdg hlocks
theorem preW_S (hE : Ev G s) (hP : va_P G.1 vwCl wc H) (hD : va_D A wc) : PreS s H (preW G H.size wc As) As := ⟨preW_blind G _ wc As, fun U hU hW => ⟨rfl, by rw [hU], by rw [hU]; exact hP, hE.warm hW, hD.weaken (fun _ _ _ _ => trivial)⟩⟩
theorem preW_V {q : vw_C} {fs : List Value} (hE : Ev G s) (hP : va_P G.1 vwCl wc H) (hD : va_D A wc) (hc : vwCl[ci]? = some q) (he : wc[q0]? = some (b, .inr (ci, fs))) : PreV s H q.1 b (preW G H.size wc (.ref b :: As)) As := ⟨preW_blind G _ wc _, va_recv hE.1 hP hc he, fun U hU hW => ⟨rfl, by rw [hU], by rw [hU]; exact hP, hE.warm hW, hD.weaken (fun _ _ _ _ => trivial)⟩⟩
theorem wr_cont {wr : va_W} {a : Array Value} {st0 : List Value} (hr : va_Run p l e R s m args below meth c H locs cells slots 0 0 (F0 m pc ls st0) rest (postW G w1 r (va_A wc H.size) a) (va_A wc H.size)) (hP : va_P G.1 vwCl w H) (hD : va_D A w) (hS : va_S A H0 H locs) (hA : ∀ q, H0.size ≤ q → A q) (isC isR : List Nat) (hC : isC.map (fun i => w[i]?) = wc.map some) (hR : isR.map (fun i => w[i]?) = wr.map some) (hn : va_nd isR = true) (hdis : ∀ i ∈ isR, i ∉ isC)
    (kk : ∀ (H1 : Heap) (locs1 : List Loc), va_P G.1 vwCl (wr ++ w1) H1 → va_D A (wr ++ w1) → va_S A H0 H1 locs1 → W p l e R s m args below meth c H1 locs1 cells slots Q (F0 m (pc + 3) ls (r.toList ++ rest))) : W p l e R s m args below meth c H locs cells slots Q (F0 m pc ls st0) := by
  intro T hT X
  have hF := va_free hD hS hA isC hC
  obtain ⟨v, st₀, t, T', L, h0, X', hL, e1, e2, ⟨⟨hv, hP1, hD1⟩, hz, hk⟩, st⟩ := hr T hT X
  cases hv
  rw [h0] at hz hk
  rw [← e1] at hP1 hz hk
  obtain ⟨g1, g2⟩ := va_join hP hD isC isR hC hR hn hdis hk hF hP1 hD1
  obtain ⟨t2, a1, b1⟩ := kk T'.heap (locs ++ L) g1 g2
    ⟨Nat.le_trans hS.1 hz, fun q h1 h2 => by rw [hk q (Nat.lt_of_lt_of_le h1 hS.1) (fun z => h2 (hF q z))]; exact hS.2.1 q h1 h2, fun q hq => by
      rcases List.mem_append.mp hq with h | h
      · exact hS.2.2 q h
      · exact hF _ (hL q h)⟩ T' rfl X'
  exact ⟨t2, st t2 a1, b1⟩
theorem wr_V {wr : va_W} (ci q0 : Nat) {q : vw_C} {fs : List Value} (S : CallFix p m c cc nL s args Ts own) (hM : WR l y ws rm G H.size wc (.ref b :: As) w1 r) (cw : CallW R s args own q.1 index y bytes maxL ret ws rm 0 0 n) (hE : Ev G s) (hP : va_P G.1 vwCl w H) (hD : va_D A w) (hS : va_S A H0 H locs) (hA : ∀ q, H0.size ≤ q → A q) (isC isR : List Nat) (hC : isC.map (fun i => w[i]?) = wc.map some) (hR : isR.map (fun i => w[i]?) = wr.map some) (hnC : va_nd isC = true) (hn' : va_nd isR = true) (hdis : ∀ i ∈ isR, i ∉ isC) (hc : vwCl[ci]? = some q) (he : wc[q0]? = some (b, .inr (ci, fs))) (hn : As.length = n) (hsize : ls.size = nL) {st : List Value} (hst : st = As.reverse ++ .ref b :: rest) (hW : (rest.map fun v => v.category).sum ≤ 8) (hdg : decode cc pc = .ok (.invokevirtual index, 3)) (hf : cells ≤ R.cells ∧ slots ≤ R.slots)
    (kk : ∀ (H1 : Heap) (locs1 : List Loc), va_P G.1 vwCl (wr ++ w1) H1 → va_D A (wr ++ w1) → va_S A H0 H1 locs1 → W p l e R s m args below meth c H1 locs1 cells slots Q (F0 m (pc + 3) ls (r.toList ++ rest))) : W p l e R s m args below meth c H locs cells slots Q (F0 m pc ls st) :=
  wr_cont (va_runV S hM cw (preW_V hE (P_pick hP isC hC) (hD.sub isC hnC hC) hc he) rfl hn hsize hst (lv_room hW) hdg hf) hP hD hS hA isC isR hC hR hn' hdis kk
theorem wr_VN {wr : va_W} (ci q0 : Nat) {q : vw_C} {fs : List Value} (S : CallFix p m c cc nL s args Ts own) (hM : WR l y ws rm G H.size wc (.ref b :: As) w1 r) (cw : va_CN R s args own index y host bytes maxL ret ws rm 0 0 n ∧ (Cond.instanceMethod y).before args s = true ∧ (Cond.selects q.1 y y).before args s = true) (hE : Ev G s) (hP : va_P G.1 vwCl w H) (hD : va_D A w) (hS : va_S A H0 H locs) (hA : ∀ q, H0.size ≤ q → A q) (isC isR : List Nat) (hC : isC.map (fun i => w[i]?) = wc.map some) (hR : isR.map (fun i => w[i]?) = wr.map some) (hnC : va_nd isC = true) (hn' : va_nd isR = true) (hdis : ∀ i ∈ isR, i ∉ isC) (hc : vwCl[ci]? = some q) (he : wc[q0]? = some (b, .inr (ci, fs))) (hn : As.length = n) (hsize : ls.size = nL) {st : List Value} (hst : st = As.reverse ++ .ref b :: rest) (hW : (rest.map fun v => v.category).sum ≤ 8) (hdg : decode cc pc = .ok (.invokevirtual index, 3)) (hf : cells ≤ R.cells ∧ slots ≤ R.slots)
    (kk : ∀ (H1 : Heap) (locs1 : List Loc), va_P G.1 vwCl (wr ++ w1) H1 → va_D A (wr ++ w1) → va_S A H0 H1 locs1 → W p l e R s m args below meth c H1 locs1 cells slots Q (F0 m (pc + 3) ls (r.toList ++ rest))) : W p l e R s m args below meth c H locs cells slots Q (F0 m pc ls st) :=
  wr_cont (va_runVN S hM cw (preW_V hE (P_pick hP isC hC) (hD.sub isC hnC hC) hc he) rfl hn hsize hst (lv_room hW) hdg hf) hP hD hS hA isC isR hC hR hn' hdis kk
end WRK
/-- an array by what it holds inside -/
theorem arrV_ext {cA : ClassId} {n : Nat} {f g : Nat → Value} (h : ∀ i, i < n → f i = g i) : arrV cA n f = arrV cA n g := by
  unfold arrV
  congr 1
  apply Array.ext
  · simp
  · intro i h1 h2
    simp at h1
    simp [h i h1]
theorem aI_ext {G : EG} {H : Heap} {a n : Nat} {F F' : Nat → Nat} (h : ∀ i, i < n → F i = F' i) (hv : va_at G.1 vwCl (a, aI G n F) H) : va_at G.1 vwCl (a, aI G n F') H := by
  show H[a]? = some (vp_cell _ _)
  have h1 : H[a]? = some (vp_cell G.2.1 (n, .inl (fun i => nI (F i)))) := hv
  rw [h1]
  congr 1
  show arrV G.2.1 n (fun j => .int (nI (F j))) = arrV G.2.1 n (fun j => .int (nI (F' j)))
  exact arrV_ext (fun i hi => by rw [h i hi])
theorem aZ_ext {G : EG} {H : Heap} {a n : Nat} {F F' : Nat → Nat} (h : ∀ i, i < n → F i = F' i) (hv : va_at G.1 vwCl (a, aZ G n F) H) : va_at G.1 vwCl (a, aZ G n F') H := by
  show H[a]? = some (vp_cell _ _)
  have h1 : H[a]? = some (vp_cell G.2.2.1 (n, .inl (fun i => nI (F i)))) := hv
  rw [h1]
  congr 1
  show arrV G.2.2.1 n (fun j => .int (nI (F j))) = arrV G.2.2.1 n (fun j => .int (nI (F' j)))
  exact arrV_ext (fun i hi => by rw [h i hi])
