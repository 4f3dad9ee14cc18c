/-! the static table AROUND, and methods that read it -/
def arL : List Nat := [1, 0, 0, 0, 0, 0, 0, 253, 506, 0, 0, 1288, 1288, 0, 0, 506, 253, 0, 0, 0, 0, 0, 0, 1, 0, 1, 0, 0, 0, 0, 77, 176, 176, 330, 616, 672, 672, 616, 330, 176, 176, 77, 0, 0, 0, 0, 1, 0, 0, 0, 1, 0, 0, 21, 56, 112, 240, 400, 546, 672, 672, 546, 400, 240, 112, 56, 21, 0, 0, 1, 0, 0, 0, 0, 0, 1, 5, 16, 48, 120, 240, 400, 560, 658, 658, 560, 400, 240, 120, 48, 16, 5, 1, 0, 0, 0]
def arT (i : Nat) : Nat := arL.getD i 0
def ArAt (t : Nat) (U : State) : Prop := va_Z "TripleTrap" "AROUND" "[I" (.ref t) (fun _ => False) U U.heap ∧ va_T .int t 96 (fun i => .int (nI (arT i))) (fun _ => False) U U.heap
theorem ArAt.calling {t : Nat} {U : State} (g : JFrame) (mk : MethodId) (a : Array Value) (h : ArAt t U) : ArAt t (U.calling g mk a) := ⟨va_Z.moved (u := U) (U := U.calling g mk a) (Vm.Alike.refl U.vm) h.1, va_T.moved (u := U) (U := U.calling g mk a) (Vm.Alike.refl U.vm) h.2⟩
/-- the table, where the heap has changed only in A -/
theorem ArAt.warm {t : Nat} {s U : State} {A : Nat → Prop} {H : Heap} {locs : List Loc} (h1 : va_Z "TripleTrap" "AROUND" "[I" (.ref t) A s s.heap) (h2 : va_T .int t 96 (fun i => .int (nI (arT i))) A s s.heap) (hS : va_S A s.heap H locs) (hU : U.heap = H) (hW : s.WarmedH U.vm) : ArAt t U := by
  refine ⟨?_, ?_⟩
  · rw [hU]
    exact ((h1.kept hS.2.1).moved hW.alike).narrow (fun _ h => h.elim)
  · rw [hU]
    exact ((h2.kept hS.2.1).moved hW.alike).narrow (fun _ h => h.elim)
def preA (G : EG) (t : Nat) (w : va_W) (av : List Value) : Array Value → State → Prop := va_Pc av (fun U => va_P G.1 vwCl w U.heap ∧ Ev G U ∧ ArAt t U)
theorem preA_blind (G : EG) (t : Nat) (w : va_W) (av : List Value) : FrameBlind (preA G t w av) := fun a U g mk h => ⟨h.1, h.2.1, h.2.2.1.calling g mk a, h.2.2.2.calling g mk a⟩
abbrev RA (l : Launch) (y : MethodName) (ws : List Cond) (rm : Room) (G : EG) (t : Nat) (w : va_W) (av : List Value) (r : Value) : Prop := Met l y ws rm (preA G t w av) (k2_QcV r) 0 0 (fun _ => False)
theorem RA.start {l : Launch} {y : MethodName} {ws ws' : List Cond} {rm : Room} {G : EG} {t : Nat} {w : va_W} {av : List Value} {r : Value} {cc : ByteArray} {maxL : Nat} {ret : Option FieldType} (hy : plainName y.cls = true) (hw : ws = Cond.code y cc maxL ret :: ws') (hn : (lg_sl av).length ≤ maxL)
    (body : ∀ (p : Program) (e : Env) (s : State) (m : MethodId) (below : List Frame) (meth : Method) (c : Code), p.tables.exec = Jvm.exec → c.code = cc → meth.sig.returnType = ret → c.maxLocals = maxL → (∀ w ∈ ws, w.before av.toArray s = true) → s.vm.findClass y.cls = some m.cls → meth.locks = false → va_P G.1 vwCl w s.heap → Ev G s → ArAt t s → ∀ ls : Array Slot, lv_has ls maxL (lv_args 0 av) → W p l e rm s m av.toArray below meth c s.heap [] 0 0 (MQ below (k2_QcV r) av.toArray s 0 0 (fun _ => False)) (F0 m 0 ls [])) : RA l y ws rm G t w av r := by
  refine Met.ofW hy hw ?_
  intro p e s m args below meth c s₁ B hml hv
  obtain ⟨rfl, hP, hE, hR⟩ := hv
  have hl := lv_entry av hn
  rw [lg_entry_eq]
  exact body p e s m below meth c B.exec B.bytes B.returns hml (atoms_spec (ws := ws) B.pre) (findClass_of_methodNamed B.named) B.notSynchronized hP hE hR _ hl
section RAK
variable {p : Program} {l : Launch} {e : Env} {R : Room} {s : State} {m : MethodId} {args : Array Value} {below : List Frame} {meth : Method} {c : Code} {locs : List Loc} {cells slots : Nat} {Q : State → Prop}
variable {cc bytes : ByteArray} {pc nL maxL n index t : Nat} {ls : Array Slot} {rest As : List Value} {G : EG} {w wc : va_W} {ws Ts : List Cond} {own : String} {y : MethodName} {ret : Option FieldType} {rm : Room} {r : Value}
theorem ArAt.same {s U : State} (h : ArAt t s) (hU : U.heap = s.heap) (hW : s.WarmedH U.vm) : ArAt t U := ⟨by rw [hU]; exact h.1.moved hW.alike, by rw [hU]; exact h.2.moved hW.alike⟩
theorem ra_S (S : CallFix p m c cc nL s args Ts own) (hM : RA l y ws rm G t wc As r) (cw : CallB R s args own index y bytes maxL ret ws rm 0 0 n ∧ (Cond.static y).before args s = true) (hE : Ev G s) (hP : va_P G.1 vwCl wc s.heap) (hR : ArAt t s) (hn : As.length = n) (hsize : ls.size = nL) {st : List Value} (hst : st = As.reverse ++ rest) (hW : (rest.map fun v => v.category).sum ≤ 8) (hdg : decode cc pc = .ok (.invokestatic index, 3)) (hf : cells ≤ R.cells ∧ slots ≤ R.slots)
    (kk : W p l e R s m args below meth c s.heap locs cells slots Q (F0 m (pc + 3) ls (r :: rest))) : W p l e R s m args below meth c s.heap locs cells slots Q (F0 m pc ls st) :=
  W.callV (va_runS S hM cw ⟨preA_blind G t wc As, fun U hU hW => ⟨rfl, by rw [hU]; exact hP, hE.warm hW, hR.same hU hW⟩⟩ rfl hn hsize hst (lv_room hW) hdg hf).run kk
end RAK
theorem nI_ne6 {a : Nat} (h : a < 2147483648) : ¬ nI a = -6 := fun q => by
  have h1 := congrArg Int32.toInt q
  rw [nI_toInt h] at h1
  have h2 : (-6 : Int32).toInt = -6 := by decide
  rw [h2] at h1
  omega
theorem rng_ex {x : Int32} {a b : Nat} (h1 : ¬ x < nI a) (h2 : ¬ nI b ≤ x) (ha : a < 2147483648) (hb : b < 2147483648) : ∃ j : Nat, a ≤ j ∧ j < b ∧ x = nI j := by
  have g1 : ¬ x.toInt < (nI a).toInt := fun q => h1 (Int32.lt_iff_toInt_lt.mpr q)
  have g2 : ¬ (nI b).toInt ≤ x.toInt := fun q => h2 (Int32.le_iff_toInt_le.mpr q)
  rw [nI_toInt ha] at g1
  rw [nI_toInt hb] at g2
  obtain ⟨j, hj, rfl⟩ := nI_of (x := x) (fun q => by
    have := Int32.lt_iff_toInt_lt.mp q
    rw [Int32.toInt_zero] at this
    omega)
  rw [nI_toInt hj] at g1 g2
  exact ⟨j, by omega, by omega, rfl⟩
/-! the class's mirrors -/
theorem PD_arr {G : EG} {w : va_W} {H : Heap} {A : Nat → Prop} {a n : Nat} {F F' : Nat → Nat} (hP : va_P G.1 vwCl w H) (hD : va_D A w) (q : Nat) (ha : w[q]? = some (a, aI G n F)) (h : ∀ i, i < n → F i = F' i) : va_P G.1 vwCl (w.set q (a, aI G n F')) H ∧ va_D A (w.set q (a, aI G n F')) :=
  ⟨hP.set hD ha (aI_ext h (hP q _ ha)) (fun _ _ => rfl), hD.set ha⟩
def cpyL (F F1 : Nat → Nat) : Nat → (Nat → Nat)
  | 0 => F
  | k + 1 => va_up (cpyL F F1 k) k (F1 k)
theorem cpyL_eq (F F1 : Nat → Nat) : ∀ k i, i < k → cpyL F F1 k i = F1 i
  | 0, i, h => absurd h (Nat.not_lt_zero _)
  | k + 1, i, h => by
    by_cases e : i = k
    · rw [e]; exact up_eq
    · rw [cpyL, up_ne e]; exact cpyL_eq F F1 k i (by omega)
def shL (F : Nat → Nat) (d : Nat) : Nat → (Nat → Nat)
  | 0 => F
  | k + 1 => va_up (shL F d k) (d + k) (shL F d k (d + k + 1))
def pr (a b : Nat) : Nat := (1 <<< a) ||| (1 <<< b)
theorem shl1 {a n : Nat} (h : a < n) : 1 <<< a < 2 ^ n := by
  rw [Nat.shiftLeft_eq, Nat.one_mul]; exact Nat.pow_lt_pow_right (by decide) h
theorem pr_lt {a b : Nat} (ha : a < 23) (hb : b < 23) : pr a b < 8388608 := bd_or 23 (shl1 ha) (shl1 hb)
def jonL (B : Nat → Nat) (q : Nat) : Nat → Nat
  | 0 => 0
  | k + 1 => if B k &&& q = q then jonL B q k ||| B k else jonL B q k
theorem jonL_lt {B : Nat → Nat} {q n : Nat} (hB : ∀ i, i < n → B i < 8388608) : ∀ k, k ≤ n → jonL B q k < 8388608
  | 0, _ => Nat.le_of_ble_eq_true rfl
  | k + 1, h => by
    rw [jonL]
    split
    · exact bd_or 23 (jonL_lt hB k (by omega)) (hB k (by omega))
    · exact jonL_lt hB k (by omega)
def cbQ (B : Nat → Nat) (d a : Nat) : Nat → Nat → Nat
  | 0, t => t
  | k + 1, t => cbQ B d a k (t + bcN (jonL B (pr a (22 - k)) d >>> (22 - k + 1)))
def cbP (B : Nat → Nat) (d : Nat) : Nat → Nat → Nat
  | 0, t => t
  | k + 1, t => cbP B d k (cbQ B d (22 - k) k t)
def fnR (J a b : Nat) : Nat → Int32 → Int32
  | 0, z => z
  | k + 1, z => if J >>> (22 - k) &&& 1 = 0 then nI ((a * 23 + b) * 23 + (22 - k)) else fnR J a b k z
def fnQ (B : Nat → Nat) (d a : Nat) : Nat → Int32 → Int32
  | 0, z => z
  | k + 1, z => fnR (jonL B (pr a (22 - k)) d) a (22 - k) k (fnQ B d a k z)
def fnP (B : Nat → Nat) (d : Nat) : Nat → Int32 → Int32
  | 0, z => z
  | k + 1, z => fnQ B d (22 - k) k (fnP B d k z)
def smL (V : Nat → Nat) (v : Nat) : Nat → Nat
  | 0 => 0
  | k + 1 => if v >>> k &&& 1 = 1 then smL V v k + V k else smL V v k
theorem smL_le {V : Nat → Nat} (h : ∀ q, q < 23 → V q ≤ 9) (v : Nat) : ∀ k, k ≤ 23 → smL V v k ≤ 9 * k
  | 0, _ => Nat.le_refl 0
  | k + 1, hk => by
    have h1 := smL_le h v k (by omega)
    have h2 := h k (by omega)
    rw [smL]
    split <;> omega
def wbL (V : Nat → Nat) (v : Nat) : Nat → Nat × Nat
  | 0 => (0, 10)
  | k + 1 => if v >>> k &&& 1 = 0 ∧ V k < (wbL V v k).2 then (k, V k) else wbL V v k
def wbN (V : Nat → Nat) (v : Nat) : Nat := (wbL V v 23).1
theorem wbL_lt (V : Nat → Nat) (v : Nat) : ∀ k, k ≤ 23 → (wbL V v k).1 < 23
  | 0, _ => Nat.le_of_ble_eq_true rfl
  | k + 1, h => by
    rw [wbL]
    split
    · show k < 23; omega
    · exact wbL_lt V v k (by omega)
theorem wbN_lt (V : Nat → Nat) (v : Nat) : wbN V v < 23 := wbL_lt V v 23 (Nat.le_refl _)
theorem wb_t {V : Nat → Nat} {v k u t : Nat} (h : (u, t) = wbL V v k) (h1 : v >>> k &&& 1 = 0) (h2 : V k < t) : (k, V k) = wbL V v (k + 1) := by
  rw [wbL, ← h, if_pos ⟨h1, h2⟩]
theorem wb_f1 {V : Nat → Nat} {v k u t : Nat} (h : (u, t) = wbL V v k) (h1 : ¬ v >>> k &&& 1 = 0) : (u, t) = wbL V v (k + 1) := by
  rw [wbL, ← h, if_neg (fun q => h1 q.1)]
theorem wb_f2 {V : Nat → Nat} {v k u t : Nat} (h : (u, t) = wbL V v k) (h1 : t ≤ V k) : (u, t) = wbL V v (k + 1) := by
  rw [wbL, ← h, if_neg (fun q => absurd q.2 (Nat.not_lt.mpr h1))]
def tkN (V : Nat → Nat) : Nat → Nat
  | 0 => 0
  | j + 1 => tkN V j ||| (1 <<< wbN V (tkN V j))
def wsN (V : Nat → Nat) (j : Nat) : Nat := wbN V (tkN V j)
theorem tkN_lt (V : Nat → Nat) : ∀ j, tkN V j < 8388608
  | 0 => Nat.le_of_ble_eq_true rfl
  | j + 1 => bd_or 23 (tkN_lt V j) (shl1 (wbN_lt V _))
def flI (D : Nat → Nat) (g q : Nat) : Nat → (Nat → Nat)
  | 0 => D
  | k + 1 => va_up (flI D g q k) (q + k) (flI D g q k k ^^^ g)
def flO (V : Nat → Nat) (w : Nat) (C : Nat → Nat) : Nat → (Nat → Nat)
  | 0 => va_up C 0 w
  | j + 1 => flI (flO V w C j) (1 <<< wsN V j) (1 <<< j) (1 <<< j)
def flN (E D : Nat → Nat) : Nat → (Nat → Nat)
  | 0 => D
  | k + 1 => va_up (flN E D k) k (nearE E (flN E D k k))
theorem up_lt {F : Nat → Nat} {k x n M : Nat} (hF : ∀ i, i < n → F i < M) (hx : x < M) : ∀ i, i < n → va_up F k x i < M := fun i hi => by
  unfold va_up
  split
  · exact hx
  · exact hF i hi
theorem flI_lt {D : Nat → Nat} {g q : Nat} (hD : ∀ i, i < 16 → D i < 8388608) (hg : g < 8388608) : ∀ k, k ≤ 16 → ∀ i, i < 16 → flI D g q k i < 8388608
  | 0, _ => hD
  | k + 1, hk => up_lt (flI_lt hD hg k (by omega)) (bd_xor 23 (flI_lt hD hg k (by omega) k (by omega)) hg)
theorem flO_lt {V C : Nat → Nat} {w : Nat} (hw : w < 8388608) (hC : ∀ i, i < 16 → C i < 8388608) : ∀ j, j ≤ 4 → ∀ i, i < 16 → flO V w C j i < 8388608
  | 0, _ => up_lt hC hw
  | j + 1, hj => flI_lt (flO_lt hw hC j (by omega)) (shl1 (wbN_lt V _)) _ (shl16 (by omega))
theorem flN_lt {E D : Nat → Nat} (hE : ∀ i, i < 2048 → E i < 8388608) (hD : ∀ i, i < 16 → D i < 8388608) : ∀ k, k ≤ 16 → ∀ i, i < 16 → flN E D k i < 8388608
  | 0, _ => hD
  | k + 1, hk => up_lt (flN_lt hE hD k (by omega)) (near_lt hE (flN_lt hE hD k (by omega) k (by omega)))
def btL (V C : Nat → Nat) (w : Nat) : Nat → Nat × Nat
  | 0 => (0, smL V (C 0 ^^^ w) 23)
  | k + 1 => if smL V (C (k + 1) ^^^ w) 23 < (btL V C w k).2 then (k + 1, smL V (C (k + 1) ^^^ w) 23) else btL V C w k
theorem btL_le (V C : Nat → Nat) (w : Nat) : ∀ k, (btL V C w k).1 ≤ k
  | 0 => Nat.le_refl 0
  | k + 1 => by
    rw [btL]
    split
    · exact Nat.le_refl _
    · exact Nat.le_trans (btL_le V C w k) (Nat.le_succ k)
theorem bt_t {V C : Nat → Nat} {w k u t : Nat} (h : (u, t) = btL V C w k) (h1 : smL V (C (k + 1) ^^^ w) 23 < t) : (k + 1, smL V (C (k + 1) ^^^ w) 23) = btL V C w (k + 1) := by
  rw [btL, ← h, if_pos h1]
theorem bt_f {V C : Nat → Nat} {w k u t : Nat} (h : (u, t) = btL V C w k) (h1 : t ≤ smL V (C (k + 1) ^^^ w) 23) : (u, t) = btL V C w (k + 1) := by
  rw [btL, ← h, if_neg (Nat.not_lt.mpr h1)]
def imF (a b : Nat) : Nat → Option Nat := fun i => if i = 0 then some a else some b
def cMade (x : Int32) : Int32 := if blw x 4096 = true then nI (codedN (cl x)) else -2
def cOf (E : Nat → Nat) (x y : Int32) : Int32 := if blw x 8388608 = true ∧ blw y 4 = true then (if cl y = 0 then nI (bcN (cl x)) else if cl y = 1 then nI (nearE E (cl x)) else if cl y = 2 then nI (bcN (E (remN (cl x)))) else nI (nearE E (cl x) >>> 11)) else -2
def cAround (E : Nat → Nat) (x y : Int32) : Int32 := if blw x 8388608 = true ∧ blw y 24 = true then nI (arT (bcN (E (remN (cl x))) * 24 + cl y)) else -2
def cTurned (x y : Int32) : Int32 := if blw x 8388608 = true ∧ blw y 23 = true then nI (turnN (cl x) (cl y)) else -2
def cErrOk (w way : Nat) : Bool := decide (bcN (errN w way) ≤ 3)
def ctpV (w j r way : Nat) : Int32 := if j = 0 then nI r else if j = 1 then nI way else nI (turnN (errN (turnN w r) way) (23 - r))
def ctpW (w j r : Nat) (d : Int32) : Nat → Int32
  | 0 => d
  | k + 1 => if bcN (errN (turnN w r) (2 - k)) ≤ 3 then ctpV w j r (2 - k) else ctpW w j r d k
def ctpT (w j : Nat) : Nat → Int32
  | 0 => -6
  | k + 1 => ctpW w j (22 - k) (ctpT w j k) 3
def cTrapped (x y : Int32) : Int32 := if blw x 8388608 = true ∧ blw y 3 = true then ctpT (cl x) (cl y) 23 else -2
theorem turnN_lt (w k : Nat) : turnN w k < 8388608 := bd_and (by decide)
theorem chgN_lt (k : Nat) : chgN k < 8388608 := by
  unfold chgN
  split
  · decide
  · split <;> decide
theorem errN_lt {w k : Nat} (hw : w < 8388608) : errN w k < 8388608 := bd_or 23 (Nat.lt_trans (remN_lt11 (bd_xor 23 hw (chgN_lt k))) (by decide)) (chgN_lt k)
def cWide (x : Int32) : Int32 := if blw x 4096 = true then nI (widenN (codedN (cl x))) else -2
theorem coded_lt {k : Nat} (h : k < 4096) : codedN k < 8388608 := bd_or 23 (shl11_lt h) (Nat.lt_trans (remN_lt11 (shl11_lt h)) (by decide))
theorem widen_lt {w : Nat} (h : w < 8388608) : widenN w < 16777216 := bd_or 24 (Nat.lt_trans h (by decide)) (shl1_lt (by decide))
def cRead (E : Nat → Nat) (x y : Int32) : Int32 := if blw x 16777216 = true ∧ blw y 2 = true then (if bcN (widenN (nearE E (cl x &&& 8388607)) ^^^ cl x) ≤ 3 then (if cl y = 0 then nI (nearE E (cl x &&& 8388607) >>> 11) else nI (bcN (widenN (nearE E (cl x &&& 8388607)) ^^^ cl x))) else -6) else -2
def cKeeps (x y : Int32) : Int32 := if mvOk x y = true then (if stayN (cl x) (cl y) = true then nI 1 else nI 0) else -2
def cTold (n0 : Nat) (F S B : Nat → Nat) (x y : Int32) : Int32 := if blw x n0 = true then (if y = nI 0 then nI (F (cl x)) else if y = nI 1 then nI (S (cl x)) else if y = nI 2 then nI (cbP B (cl x + 1) 23 0) - nI (cbP B (cl x) 23 0) else -2) else -1
def cfR (F S : Nat → Nat) (w i : Nat) : Nat := remN (carN w (F i) (S i))
def cfF (n0 : Nat) (F S : Nat → Nat) (w j : Nat) : Nat → Int32
  | 0 => -6
  | k + 1 => if bcN (cfR F S w (n0 - (k + 1))) ≤ 3 then (if j = 0 then nI (n0 - (k + 1)) else nI (bakN (cfR F S w (n0 - (k + 1))) (F (n0 - (k + 1))) (S (n0 - (k + 1))))) else cfF n0 F S w j k
def cFreed (n0 : Nat) (F S : Nat → Nat) (x y : Int32) : Int32 := if blw x 8388608 = true ∧ blw y 2 = true then cfF n0 F S (cl x) (cl y) n0 else -2
def cOpen (n0 : Nat) (B : Nat → Nat) (x : Int32) : Int32 := if x = nI 0 then nI 1771 - nI (cbP B n0 23 0) else if x = nI 1 then fnP B n0 23 (-6) else -2
def cWeak (V : Nat → Nat) (x : Int32) : Int32 := if blw x 4 = true then nI (wsN V (cl x)) else -2
def chcV (V C : Nat → Nat) (w t j : Nat) : Int32 := if j = 3 then nI (unlL C (1 <<< t)) else if j = 2 then nI (btL V C w (1 <<< t - 1)).1 else if j = 0 then nI (C (btL V C w (1 <<< t - 1)).1) else nI (smL V (C (btL V C w (1 <<< t - 1)).1 ^^^ w) 23)
def cChosen (E V C : Nat → Nat) (x y z : Int32) : Int32 := if blw x 8388608 = true ∧ blw y 5 = true ∧ blw z 4 = true then chcV V (flN E (flO V (cl x) C (cl y)) (1 <<< cl y)) (cl x) (cl y) (cl z) else -2
def cChosenC (E V C : Nat → Nat) (x y z : Int32) : Nat → Nat := if blw x 8388608 = true ∧ blw y 5 = true ∧ blw z 4 = true then flN E (flO V (cl x) C (cl y)) (1 <<< cl y) else C
def cCount (n0 kp : Nat) (V : Nat → Nat) (x : Int32) : Int32 := if x = 0 then nI n0 else if x = nI 1 then nI (smL V 8388607 23) else if x = nI 2 then nI kp else if inI x (nI 10) (nI 33) = true then nI (arT (cl x - 10)) else if inI x (nI 40) (nI 62) = true then nI (V (cl x - 40)) else -2
def cMoveR (n0 : Nat) (x y : Int32) : Int32 := if mvOk x y = true then (if stayN (cl x) (cl y) = true then (if n0 = 8 then -4 else nI n0) else -5) else -2
def cMoveOk (n0 : Nat) (x y : Int32) : Bool := decide (mvOk x y = true ∧ stayN (cl x) (cl y) = true ∧ ¬ n0 = 8)
def cMoveN (n0 : Nat) (x y : Int32) : Nat := if cMoveOk n0 x y = true then n0 + 1 else n0
def cMoveF (n0 : Nat) (F : Nat → Nat) (x y : Int32) : Nat → Nat := if cMoveOk n0 x y = true then va_up F n0 (cl x) else F
def cMoveS (n0 : Nat) (S : Nat → Nat) (x y : Int32) : Nat → Nat := if cMoveOk n0 x y = true then va_up S n0 (cl y) else S
def cMoveB (n0 : Nat) (B : Nat → Nat) (x y : Int32) : Nat → Nat := if cMoveOk n0 x y = true then va_up B n0 (bakN 2047 (cl x) (cl y)) else B
def cDropR (n0 : Nat) (x : Int32) : Int32 := if blw x n0 = true then nI (n0 - 1) else -1
def cDropN (n0 : Nat) (x : Int32) : Nat := if blw x n0 = true then n0 - 1 else n0
def cDropA (n0 : Nat) (F : Nat → Nat) (x : Int32) : Nat → Nat := if blw x n0 = true then shL F (cl x) (n0 - 1 - cl x) else F
def cSureR (V : Nat → Nat) (x y : Int32) : Int32 := if blw x 23 = true ∧ blw y 10 = true then nI (V (cl x)) else -2
def cSureV (V : Nat → Nat) (x y : Int32) : Nat → Nat := if blw x 23 = true ∧ blw y 10 = true then va_up V (cl x) (cl y) else V
