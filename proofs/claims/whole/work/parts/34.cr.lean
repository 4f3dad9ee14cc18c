/-! constructors: they make cells -/
def postN {S : Type} (G : EG) (w1 : S → va_W) (A : Nat → Prop) : Array Value → State → Outcome → State → Prop := fun _ st oc t => (∃ u : S, oc = .returned none ∧ va_P G.1 vwCl (w1 u) t.heap ∧ va_D A (w1 u)) ∧ va_F A st t
abbrev CR {S : Type} (l : Launch) (y : MethodName) (ws : List Cond) (rm : Room) (G : EG) (sz : Nat) (w : va_W) (av : List Value) (w1 : S → va_W) (mc ms : Nat) : Prop := Met l y ws rm (preW G sz w av) (postN G w1 (va_A w sz)) mc ms (va_A w sz)
theorem CR.start {S : Type} {l : Launch} {y : MethodName} {ws ws' : List Cond} {rm : Room} {G : EG} {sz : Nat} {w : va_W} {w1 : S → va_W} {av : List Value} {mc ms : Nat} {cc : ByteArray} {maxL : Nat} {ret : Option FieldType} (hy : plainName y.cls = true) (hw : ws = Cond.code y cc maxL ret :: ws') (hn : (lg_sl av).length ≤ maxL)
    (body : ∀ (p : Program) (e : Env) (s : State) (m : MethodId) (below : List Frame) (meth : Method) (c : Code), p.tables.exec = Jvm.exec → c.code = cc → meth.sig.returnType = ret → c.maxLocals = maxL → (∀ w ∈ ws, w.before av.toArray s = true) → s.vm.findClass y.cls = some m.cls → meth.locks = false → meth.name = y.name → Ev G s → ∀ A : Nat → Prop, (∀ q, s.heap.size ≤ q → A q) → ∀ (H : Heap) (locs : List Loc), va_P G.1 vwCl w H → va_D A w → va_S A s.heap H locs → ∀ ls : Array Slot, lv_has ls maxL (lv_args 0 av) → W p l e rm s m av.toArray below meth c H locs 0 0 (MQ below (postN G w1 A) av.toArray s mc ms A) (F0 m 0 ls [])) : CR l y ws rm G sz w av w1 mc ms := by
  refine Met.ofW hy hw ?_
  intro p e s m args below meth c s₁ B hml hv
  obtain ⟨rfl, hsz, hP, hE, hD⟩ := hv
  subst hsz
  have hl := lv_entry av hn
  rw [lg_entry_eq]
  exact body p e s m below meth c B.exec B.bytes B.returns hml (atoms_spec (ws := ws) B.pre) (findClass_of_methodNamed B.named) B.notSynchronized (name_of_methodNamed B.named B.method).1 hE _ (fun q h => Or.inr h) _ _ hP hD.self va_S.rf _ hl
section CRK
variable {p : Program} {l : Launch} {e : Env} {R : Room} {s : State} {m : MethodId} {args : Array Value} {below : List Frame} {meth : Method} {c : Code} {H H0 : Heap} {locs : List Loc} {cells slots mc ms : Nat} {Q : State → Prop}
variable {cc bytes : ByteArray} {pc nL maxL n index ci q0 b : Nat} {ls : Array Slot} {rest As : List Value} {G : EG} {w wc : va_W} {ws Ts : List Cond} {own host C : String} {y : MethodName} {ret : Option FieldType} {rm : Room} {r : Option Value} {A : Nat → Prop} {S : Type} {w1 : S → va_W}
theorem cr_vret (u : S) (hx : p.tables.exec = Jvm.exec) (hb : c.code = cc) (hr : meth.sig.returnType = none) (hlocks : meth.locks = false) (hdg : decode cc pc = .ok (.return_, 1)) (hP : va_P G.1 vwCl (w1 u) H) (hD : va_D A (w1 u)) (hS : va_S A s.heap H locs) : W p l e R s m args below meth c H locs cells slots (MQ below (postN G w1 A) args s cells slots A) (F0 m pc ls []) :=
  W.vret hx hb hr (fun t ht _ => ⟨⟨u, rfl, by rw [ht]; exact hP, hD⟩, hS.F ht⟩) hS.2.2 hdg hlocks
theorem cr_cont {wr : va_W} {a : Array Value} {st0 : List Value} (hr : va_Run p l e R s m args below meth c H locs cells slots mc ms (F0 m pc ls st0) rest (postN G w1 (va_A wc H.size) a) (va_A wc H.size)) (hP : va_P G.1 vwCl w H) (hD : va_D A w) (hS : va_S A H0 H locs) (hA : ∀ q, H0.size ≤ q → A q) (isC isR : List Nat) (hC : isC.map (fun i => w[i]?) = wc.map some) (hR : isR.map (fun i => w[i]?) = wr.map some) (hn : va_nd isR = true) (hdis : ∀ i ∈ isR, i ∉ isC)
    (kk : ∀ (u : S) (H1 : Heap) (locs1 : List Loc), va_P G.1 vwCl (wr ++ w1 u) H1 → va_D A (wr ++ w1 u) → va_S A H0 H1 locs1 → W p l e R s m args below meth c H1 locs1 (cells + mc) (slots + ms) Q (F0 m (pc + 3) ls rest)) : W p l e R s m args below meth c H locs cells slots Q (F0 m pc ls st0) := by
  intro T hT X
  have hF := va_free hD hS hA isC hC
  obtain ⟨v, st₀, t, T', L, h0, X', hL, e1, e2, ⟨⟨u, hv, hP1, hD1⟩, hz, hk⟩, st⟩ := hr T hT X
  cases hv
  rw [h0] at hz hk
  rw [← e1] at hP1 hz hk
  obtain ⟨g1, g2⟩ := va_join hP hD isC isR hC hR hn hdis hk hF hP1 hD1
  obtain ⟨t2, a1, b1⟩ := kk u T'.heap (locs ++ L) g1 g2
    ⟨Nat.le_trans hS.1 hz, fun q h1 h2 => by rw [hk q (Nat.lt_of_lt_of_le h1 hS.1) (fun z => h2 (hF q z))]; exact hS.2.1 q h1 h2, fun q hq => by
      rcases List.mem_append.mp hq with h | h
      · exact hS.2.2 q h
      · exact hF _ (hL q h)⟩ T' rfl X'
  exact ⟨t2, st t2 a1, b1⟩
theorem cr_IN {wr : va_W} (F : CallFix p m c cc nL s args Ts own) (hM : CR l y ws rm G H.size wc (.ref b :: As) w1 mc ms) (cw : va_CN R s args own index y host bytes maxL none ws rm mc ms n ∧ y.name = "<init>" ∧ (Cond.instanceMethod y).before args s = true) (hE : Ev G s) (hP : va_P G.1 vwCl w H) (hD : va_D A w) (hS : va_S A H0 H locs) (hA : ∀ q, H0.size ≤ q → A q) (isC isR : List Nat) (hC : isC.map (fun i => w[i]?) = wc.map some) (hR : isR.map (fun i => w[i]?) = wr.map some) (hnC : va_nd isC = true) (hn' : va_nd isR = true) (hdis : ∀ i ∈ isR, i ∉ isC) (hn : As.length = n) (hsize : ls.size = nL) {st : List Value} (hst : st = As.reverse ++ .ref b :: rest) (hW : (rest.map fun v => v.category).sum ≤ 8) (hdg : decode cc pc = .ok (.invokespecial index, 3)) (hf : cells + mc ≤ R.cells ∧ slots + ms ≤ R.slots)
    (kk : ∀ (u : S) (H1 : Heap) (locs1 : List Loc), va_P G.1 vwCl (wr ++ w1 u) H1 → va_D A (wr ++ w1 u) → va_S A H0 H1 locs1 → W p l e R s m args below meth c H1 locs1 (cells + mc) (slots + ms) Q (F0 m (pc + 3) ls rest)) : W p l e R s m args below meth c H locs cells slots Q (F0 m pc ls st) :=
  cr_cont (va_runIN F hM cw (preW_S hE (P_pick hP isC hC) (hD.sub isC hnC hC)) rfl hn hsize hst (lv_room hW) hdg hf) hP hD hS hA isC isR hC hR hn' hdis kk
theorem cr_I {wr : va_W} (F : CallFix p m c cc nL s args Ts own) (hM : CR l y ws rm G H.size wc (.ref b :: As) w1 mc ms) (cw : CallB R s args own index y bytes maxL none ws rm mc ms n ∧ y.name = "<init>" ∧ (Cond.instanceMethod y).before args s = true) (hE : Ev G s) (hP : va_P G.1 vwCl w H) (hD : va_D A w) (hS : va_S A H0 H locs) (hA : ∀ q, H0.size ≤ q → A q) (isC isR : List Nat) (hC : isC.map (fun i => w[i]?) = wc.map some) (hR : isR.map (fun i => w[i]?) = wr.map some) (hnC : va_nd isC = true) (hn' : va_nd isR = true) (hdis : ∀ i ∈ isR, i ∉ isC) (hn : As.length = n) (hsize : ls.size = nL) {st : List Value} (hst : st = As.reverse ++ .ref b :: rest) (hW : (rest.map fun v => v.category).sum ≤ 8) (hdg : decode cc pc = .ok (.invokespecial index, 3)) (hf : cells + mc ≤ R.cells ∧ slots + ms ≤ R.slots)
    (kk : ∀ (u : S) (H1 : Heap) (locs1 : List Loc), va_P G.1 vwCl (wr ++ w1 u) H1 → va_D A (wr ++ w1 u) → va_S A H0 H1 locs1 → W p l e R s m args below meth c H1 locs1 (cells + mc) (slots + ms) Q (F0 m (pc + 3) ls rest)) : W p l e R s m args below meth c H locs cells slots Q (F0 m pc ls st) :=
  cr_cont (va_runI F hM cw (preW_S hE (P_pick hP isC hC) (hD.sub isC hnC hC)) rfl hn hsize hst (lv_room hW) hdg hf) hP hD hS hA isC isR hC hR hn' hdis kk
theorem j_newa (hx : p.tables.exec = Jvm.exec) (hb : c.code = cc) (harr : (Cond.arrayClass .int).before args s = true) (hE : Ev G s) (hP : va_P G.1 vwCl w H) (hD : va_D A w) (hS : va_S A H0 H locs) (hA : ∀ q, H0.size ≤ q → A q) {N : Nat} (hN : N < 2147483648) (hbytes : N * componentBytes .int ≤ 536870912) (hcells : cells + 1 ≤ R.cells) (hslots : slots + N ≤ R.slots) (hdg : decode cc pc = .ok (.newarray .int, 2))
    (kk : ∀ (q : Nat) (H1 : Heap), va_P G.1 vwCl (w ++ [(q, aI G N (fun _ => 0))]) H1 → va_D A (w ++ [(q, aI G N (fun _ => 0))]) → va_S A H0 H1 locs → W p l e R s m args below meth c H1 locs (cells + 1) (slots + N) Q (F0 m (pc + 2) ls (.ref q :: rest))) : W p l e R s m args below meth c H locs cells slots Q (F0 m pc ls (.int (nI N) :: rest)) := by
  refine va_newa (atype := .int) (ty := .int) (N' := N) (a0 := (N, .inl (fun _ => nI 0))) hx hb harr rfl hE.1 hP hD hS hA (fun _ => rfl) (nI_pos hN) (nI_clamp hN) hbytes hcells hslots hdg (fun q cA H1 hK1 hP1 hD1 hS1 => ?_)
  have e1 : s.vm.findClass ("[" ++ FieldType.int.toString) = some cA := (hK1.2 3 _ rfl).2
  have e2 : s.vm.findClass ("[" ++ FieldType.int.toString) = some G.2.1 := (hE.1.2 0 _ rfl).2
  have e3 : cA = G.2.1 := Option.some.inj (e1.symm.trans e2)
  subst e3
  exact kk q H1 hP1 hD1 hS1
theorem j_newz (hx : p.tables.exec = Jvm.exec) (hb : c.code = cc) (harr : (Cond.arrayClass .boolean).before args s = true) (hE : Ev G s) (hP : va_P G.1 vwCl w H) (hD : va_D A w) (hS : va_S A H0 H locs) (hA : ∀ q, H0.size ≤ q → A q) {N : Nat} (hN : N < 2147483648) (hbytes : N * componentBytes .boolean ≤ 536870912) (hcells : cells + 1 ≤ R.cells) (hslots : slots + N ≤ R.slots) (hdg : decode cc pc = .ok (.newarray .boolean, 2))
    (kk : ∀ (q : Nat) (H1 : Heap), va_P G.1 vwCl (w ++ [(q, aZ G N (fun _ => 0))]) H1 → va_D A (w ++ [(q, aZ G N (fun _ => 0))]) → va_S A H0 H1 locs → W p l e R s m args below meth c H1 locs (cells + 1) (slots + N) Q (F0 m (pc + 2) ls (.ref q :: rest))) : W p l e R s m args below meth c H locs cells slots Q (F0 m pc ls (.int (nI N) :: rest)) := by
  refine va_newa (atype := .boolean) (ty := .boolean) (N' := N) (a0 := (N, .inl (fun _ => nI 0))) hx hb harr rfl hE.1 hP hD hS hA (fun _ => rfl) (nI_pos hN) (nI_clamp hN) hbytes hcells hslots hdg (fun q cA H1 hK1 hP1 hD1 hS1 => ?_)
  have e1 : s.vm.findClass ("[" ++ FieldType.boolean.toString) = some cA := (hK1.2 3 _ rfl).2
  have e2 : s.vm.findClass ("[" ++ FieldType.boolean.toString) = some G.2.2.1 := (hE.1.2 1 _ rfl).2
  have e3 : cA = G.2.2.1 := Option.some.inj (e1.symm.trans e2)
  subst e3
  exact kk q H1 hP1 hD1 hS1
theorem j_newq (hx : p.tables.exec = Jvm.exec) (hb : c.code = cc) (hown : s.vm.findClass own = some m.cls) (hclink : (Cond.classLink own index "TripleTrap$Held").before args s = true) (hE : Ev G s) (hP : va_P G.1 vwCl w H) (hD : va_D A w) (hS : va_S A H0 H locs) (hA : ∀ q, H0.size ≤ q → A q) {N : Nat} (hN : N < 2147483648) (hbytes : N * 4 ≤ 536870912) (hcells : cells + 1 ≤ R.cells) (hslots : slots + N ≤ R.slots) (hdg : decode cc pc = .ok (.anewarray index, 3))
    (kk : ∀ (q : Nat) (H1 : Heap), va_P G.1 vwCl (w ++ [(q, aO G N (fun _ => none))]) H1 → va_D A (w ++ [(q, aO G N (fun _ => none))]) → va_S A H0 H1 locs → W p l e R s m args below meth c H1 locs (cells + 1) (slots + N) Q (F0 m (pc + 3) ls (.ref q :: rest))) : W p l e R s m args below meth c H locs cells slots Q (F0 m pc ls (.int (nI N) :: rest)) := by
  refine va_newq (N' := N) hx hb hown hclink hE.2.2 hE.1 hP hD hS hA (nI_pos hN) (nI_clamp hN) hbytes hcells hslots hdg (fun q cA H1 hK1 hP1 hD1 hS1 => ?_)
  obtain ⟨k1, c1, -, -, -, e1⟩ := (hK1.2 3 _ rfl).2
  obtain ⟨k2, c2, -, -, -, e2⟩ := (hE.1.2 2 _ rfl).2
  have e3 : cA = G.2.2.2 := Option.some.inj (e1.symm.trans e2)
  subst e3
  exact kk q H1 hP1 hD1 hS1
theorem j_oast (hx : p.tables.exec = Jvm.exec) (hb : c.code = cc) (hE : Ev G s) (hP : va_P G.1 vwCl w H) (hD : va_D A w) (hS : va_S A H0 H locs) (q0 qk : Nat) {k N v a : Nat} {vs : List Value} {F : Nat → Option Nat} (ha : w[q0]? = some (a, aO G N F)) (hv : w[qk]? = some (v, .inr (0, vs))) (hk : k < N) (hN : N < 2147483648) (hdg : decode cc pc = .ok (.aastore, 1))
    (kk : ∀ (H1 : Heap) (locs1 : List Loc), va_P G.1 vwCl (w.set q0 (a, aO G N (va_up F k (some v)))) H1 → va_D A (w.set q0 (a, aO G N (va_up F k (some v)))) → va_S A H0 H1 locs1 → W p l e R s m args below meth c H1 locs1 cells slots Q (F0 m (pc + 1) ls rest)) : W p l e R s m args below meth c H locs cells slots Q (F0 m pc ls (.ref v :: .int (nI k) :: .ref a :: rest)) :=
  va_astq (r := (RX1, TX1, 2)) hx hb hE.1 hP hD hS q0 2 qk 0 ha rfl hv rfl (vp_in_nI hk hN) hdg (by rw [nI_clamp (Nat.lt_trans hk hN)]; exact kk)
end CRK
theorem aO_ext {G : EG} {H : Heap} {a n : Nat} {F F' : Nat → Option Nat} (h : ∀ i, i < n → F i = F' i) (hv : va_at G.1 vwCl (a, aO G n F) H) : va_at G.1 vwCl (a, aO G n F') H := by
  show H[a]? = some (vp_cell _ _)
  have h1 : H[a]? = some (vp_cell G.2.2.2 (n, .inr (.inr (.inr (.inr F))))) := hv
  rw [h1]
  congr 1
  show arrV G.2.2.2 n (fun j => va_rf (F j)) = arrV G.2.2.2 n (fun j => va_rf (F' j))
  exact arrV_ext (fun i hi => by rw [h i hi])
theorem PD_arrO {G : EG} {w : va_W} {H : Heap} {A : Nat → Prop} {a n : Nat} {F F' : Nat → Option Nat} (hP : va_P G.1 vwCl w H) (hD : va_D A w) (q : Nat) (ha : w[q]? = some (a, aO G n F)) (h : ∀ i, i < n → F i = F' i) : va_P G.1 vwCl (w.set q (a, aO G n F')) H ∧ va_D A (w.set q (a, aO G n F')) :=
  ⟨hP.set hD ha (aO_ext h (hP q _ ha)) (fun _ _ => rfl), hD.set ha⟩
theorem PD_arrZ {G : EG} {w : va_W} {H : Heap} {A : Nat → Prop} {a n : Nat} {F F' : Nat → Nat} (hP : va_P G.1 vwCl w H) (hD : va_D A w) (q : Nat) (ha : w[q]? = some (a, aZ G n F)) (h : ∀ i, i < n → F i = F' i) : va_P G.1 vwCl (w.set q (a, aZ G n F')) H ∧ va_D A (w.set q (a, aZ G n F')) :=
  ⟨hP.set hD ha (aZ_ext h (hP q _ ha)) (fun _ _ => rfl), hD.set ha⟩
/-! the tables that the constructors lay, as closed functions -/
def ninL (V : Nat → Nat) (g : Nat) : Nat → (Nat → Nat)
  | 0 => V
  | k + 1 => va_up (ninL V g k) (g + k) 9
theorem ninL_eq (V : Nat → Nat) (g : Nat) : ∀ k i, i < k → ninL V g k (g + i) = 9
  | 0, i, h => absurd h (Nat.not_lt_zero _)
  | k + 1, i, h => by
    by_cases e : i = k
    · rw [e]; exact up_eq
    · rw [ninL, up_ne (by omega)]; exact ninL_eq V g k i (by omega)
theorem ninL_ne (V : Nat → Nat) (g : Nat) : ∀ k i, (i < g ∨ g + k ≤ i) → ninL V g k i = V i
  | 0, i, h => rfl
  | k + 1, i, h => by rw [ninL, up_ne (by omega)]; exact ninL_ne V g k i (by omega)
def rpL (F : Nat → Nat) : Nat → (Nat → Nat)
  | 0 => F
  | k + 1 => va_up (rpL F k) k (remN (1 <<< k))
theorem rpL_eq (F : Nat → Nat) : ∀ k i, i < k → rpL F k i = remN (1 <<< i)
  | 0, i, h => absurd h (Nat.not_lt_zero _)
  | k + 1, i, h => by
    by_cases e : i = k
    · rw [e]; exact up_eq
    · rw [rpL, up_ne e]; exact rpL_eq F k i (by omega)
/-- the class's table: places p, q below p, r below q -/
def mdR (a b : Nat) (E : Nat → Nat) : Nat → (Nat → Nat)
  | 0 => E
  | k + 1 => va_up (mdR a b E k) ((remN (1 <<< a) ^^^ remN (1 <<< b)) ^^^ remN (1 <<< k)) (((1 <<< a) ||| (1 <<< b)) ||| (1 <<< k))
def mdQ (a : Nat) (E : Nat → Nat) : Nat → (Nat → Nat)
  | 0 => E
  | k + 1 => mdR a k (va_up (mdQ a E k) (remN (1 <<< a) ^^^ remN (1 <<< k)) ((1 <<< a) ||| (1 <<< k))) k
def mdP (E : Nat → Nat) : Nat → (Nat → Nat)
  | 0 => E
  | k + 1 => mdQ k (va_up (mdP E k) (remN (1 <<< k)) (1 <<< k)) k
def mdT : Nat → Nat := mdP (fun _ => 0) 23
/-- the reference's table: places a, b above a, c above b -/
def moR (a b : Nat) : Nat → (Nat → Nat) → (Nat → Nat)
  | 0, E => E
  | k + 1, E => moR a b k (va_up E (remN (((1 <<< a) ||| (1 <<< b)) ||| (1 <<< (22 - k)))) (((1 <<< a) ||| (1 <<< b)) ||| (1 <<< (22 - k))))
def moQ (a : Nat) : Nat → (Nat → Nat) → (Nat → Nat)
  | 0, E => E
  | k + 1, E => moQ a k (moR a (22 - k) k (va_up E (remN ((1 <<< a) ||| (1 <<< (22 - k)))) ((1 <<< a) ||| (1 <<< (22 - k)))))
def moP : Nat → (Nat → Nat) → (Nat → Nat)
  | 0, E => E
  | k + 1, E => moP k (moQ (22 - k) k (va_up E (remN (1 <<< (22 - k))) (1 <<< (22 - k))))
def moT : Nat → Nat := moP 23 (fun _ => 0)
theorem xor11 {a b : Nat} (ha : a < 2048) (hb : b < 2048) : a ^^^ b < 2048 := bd_xor 11 ha hb
theorem rp11 {k : Nat} (h : k < 23) : remN (1 <<< k) < 2048 := remN_lt11 (shl1 h)
def stX0 : Nat → Nat := fun i => if i < 17 then 0 else 9
theorem lt_nI_trans {x : Int32} {a b : Nat} (h : x < nI a) (hab : a ≤ b) (hb : b < 2147483648) : x < nI b := by
  have h1 := Int32.lt_iff_toInt_lt.mp h
  rw [nI_toInt (by omega)] at h1
  refine Int32.lt_iff_toInt_lt.mpr ?_
  rw [nI_toInt hb]
  omega
theorem inI_nI {a j b : Nat} (h1 : a ≤ j) (h2 : j ≤ b) (ha : a < 2147483648) (hb : b < 2147483648) : inI (nI j) (nI a) (nI b) = true := decide_eq_true ⟨nI_le h1 (by omega), nI_le h2 hb⟩
theorem inI_lo {x lo hi : Int32} (h : x < lo) : ¬ inI x lo hi = true := by rw [inI_f1 h]; decide
theorem inI_up {x lo : Int32} {a b : Nat} (h : nI a ≤ x) (hb : b < a) (ha : a < 2147483648) : ¬ inI x lo (nI b) = true := by
  rw [inI_f2]
  · decide
  · have h1 := Int32.le_iff_toInt_le.mp h
    rw [nI_toInt ha] at h1
    refine Int32.lt_iff_toInt_lt.mpr ?_
    rw [nI_toInt (by omega)]
    omega
theorem inI_hi {lo : Int32} {a j b : Nat} (hb : b < a) (h : a ≤ j) (ha : a < 2147483648) (hj : j < 2147483648) : ¬ inI (nI j) lo (nI b) = true := inI_up (nI_le h hj) hb ha
