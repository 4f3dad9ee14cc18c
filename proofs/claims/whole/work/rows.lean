section
-- ===== PART A: goes FIRST, ahead of the names: the tables' words, and 'selects' of the private methods out of them =====
/-- a private method of a class that the tables say can be made, by its rows of tables_1 -/
def lw_okq (q : MethodName × Nat) : Prop := (q.1.cls ≠ "java/lang/invoke/MethodHandle" ∧ q.1.cls ≠ "java/lang/invoke/VarHandle") ∧ Cond.instantiable q.1.cls q.2 ∈ tables_1 ∧ Cond.privateMethod q.1 ∈ tables_1 ∧ Cond.instanceMethod q.1 ∈ tables_1
theorem lw_p0 : lw_okq (⟨"TripleTrap$Mender", "enter", "(II)V"⟩, 1) := ⟨⟨by decide +kernel, by decide +kernel⟩, List.mem_of_getElem? (i := 18) (by decide +kernel), List.mem_of_getElem? (i := 27) (by decide +kernel), List.mem_of_getElem? (i := 28) (by decide +kernel)⟩
theorem lw_p1 : lw_okq (⟨"TripleTrap$Mender", "nearest", "(I)I"⟩, 1) := ⟨⟨by decide +kernel, by decide +kernel⟩, List.mem_of_getElem? (i := 18) (by decide +kernel), List.mem_of_getElem? (i := 129) (by decide +kernel), List.mem_of_getElem? (i := 130) (by decide +kernel)⟩
theorem lw_p2 : lw_okq (⟨"TripleTrap$Mender", "errors", "(I)I"⟩, 1) := ⟨⟨by decide +kernel, by decide +kernel⟩, List.mem_of_getElem? (i := 18) (by decide +kernel), List.mem_of_getElem? (i := 133) (by decide +kernel), List.mem_of_getElem? (i := 134) (by decide +kernel)⟩
theorem lw_p3 : lw_okq (⟨"TripleTrap$Mender", "distance", "(I)I"⟩, 1) := ⟨⟨by decide +kernel, by decide +kernel⟩, List.mem_of_getElem? (i := 18) (by decide +kernel), List.mem_of_getElem? (i := 137) (by decide +kernel), List.mem_of_getElem? (i := 138) (by decide +kernel)⟩
theorem lw_p4 : lw_okq (⟨"TripleTrap$Moves", "append", "(II)V"⟩, 4) := ⟨⟨by decide +kernel, by decide +kernel⟩, List.mem_of_getElem? (i := 45) (by decide +kernel), List.mem_of_getElem? (i := 214) (by decide +kernel), List.mem_of_getElem? (i := 215) (by decide +kernel)⟩
theorem lw_p5 : lw_okq (⟨"TripleTrap$Moves", "removeAt", "(I)V"⟩, 4) := ⟨⟨by decide +kernel, by decide +kernel⟩, List.mem_of_getElem? (i := 45) (by decide +kernel), List.mem_of_getElem? (i := 225) (by decide +kernel), List.mem_of_getElem? (i := 226) (by decide +kernel)⟩
theorem lw_p6 : lw_okq (⟨"TripleTrap$Moves", "coveredByFirst", "(I)I"⟩, 4) := ⟨⟨by decide +kernel, by decide +kernel⟩, List.mem_of_getElem? (i := 45) (by decide +kernel), List.mem_of_getElem? (i := 234) (by decide +kernel), List.mem_of_getElem? (i := 235) (by decide +kernel)⟩
theorem lw_p7 : lw_okq (⟨"TripleTrap$Moves", "joined", "(III)I"⟩, 4) := ⟨⟨by decide +kernel, by decide +kernel⟩, List.mem_of_getElem? (i := 45) (by decide +kernel), List.mem_of_getElem? (i := 238) (by decide +kernel), List.mem_of_getElem? (i := 239) (by decide +kernel)⟩
theorem lw_p8 : lw_okq (⟨"TripleTrap$Moves", "firstNotCovered", "()I"⟩, 4) := ⟨⟨by decide +kernel, by decide +kernel⟩, List.mem_of_getElem? (i := 45) (by decide +kernel), List.mem_of_getElem? (i := 252) (by decide +kernel), List.mem_of_getElem? (i := 253) (by decide +kernel)⟩
theorem lw_p9 : lw_okq (⟨"TripleTrap$Trust", "weakestBut", "(I)I"⟩, 1) := ⟨⟨by decide +kernel, by decide +kernel⟩, List.mem_of_getElem? (i := 67) (by decide +kernel), List.mem_of_getElem? (i := 264) (by decide +kernel), List.mem_of_getElem? (i := 265) (by decide +kernel)⟩
theorem lw_p10 : lw_okq (⟨"TripleTrap", "fillTries", "(II)V"⟩, 5) := ⟨⟨by decide +kernel, by decide +kernel⟩, List.mem_of_getElem? (i := 10) (by decide +kernel), List.mem_of_getElem? (i := 272) (by decide +kernel), List.mem_of_getElem? (i := 273) (by decide +kernel)⟩
theorem lw_p11 : lw_okq (⟨"TripleTrap", "unlikeTries", "(I)I"⟩, 5) := ⟨⟨by decide +kernel, by decide +kernel⟩, List.mem_of_getElem? (i := 10) (by decide +kernel), List.mem_of_getElem? (i := 276) (by decide +kernel), List.mem_of_getElem? (i := 277) (by decide +kernel)⟩
theorem lw_p12 : lw_okq (⟨"TripleTrap", "isFirstOfItsWord", "(I)Z"⟩, 5) := ⟨⟨by decide +kernel, by decide +kernel⟩, List.mem_of_getElem? (i := 10) (by decide +kernel), List.mem_of_getElem? (i := 280) (by decide +kernel), List.mem_of_getElem? (i := 281) (by decide +kernel)⟩
theorem lw_p13 : lw_okq (⟨"TripleTrap", "bestTry", "(II)I"⟩, 5) := ⟨⟨by decide +kernel, by decide +kernel⟩, List.mem_of_getElem? (i := 10) (by decide +kernel), List.mem_of_getElem? (i := 284) (by decide +kernel), List.mem_of_getElem? (i := 285) (by decide +kernel)⟩
theorem lw_p14 : lw_okq (⟨"TripleTrap$Trust", "sum", "(I)I"⟩, 1) := ⟨⟨by decide +kernel, by decide +kernel⟩, List.mem_of_getElem? (i := 67) (by decide +kernel), List.mem_of_getElem? (i := 288) (by decide +kernel), List.mem_of_getElem? (i := 289) (by decide +kernel)⟩
theorem lw_p15 : lw_okq (⟨"TripleTrap$Held", "copyFrom", "(LTripleTrap$Held;)V"⟩, 2) := ⟨⟨by decide +kernel, by decide +kernel⟩, List.mem_of_getElem? (i := 39) (by decide +kernel), List.mem_of_getElem? (i := 296) (by decide +kernel), List.mem_of_getElem? (i := 297) (by decide +kernel)⟩
def lw_privs_1 : List (MethodName × Nat) := [(⟨"TripleTrap$Mender", "enter", "(II)V"⟩, 1), (⟨"TripleTrap$Mender", "nearest", "(I)I"⟩, 1), (⟨"TripleTrap$Mender", "errors", "(I)I"⟩, 1), (⟨"TripleTrap$Mender", "distance", "(I)I"⟩, 1), (⟨"TripleTrap$Moves", "append", "(II)V"⟩, 4), (⟨"TripleTrap$Moves", "removeAt", "(I)V"⟩, 4), (⟨"TripleTrap$Moves", "coveredByFirst", "(I)I"⟩, 4), (⟨"TripleTrap$Moves", "joined", "(III)I"⟩, 4), (⟨"TripleTrap$Moves", "firstNotCovered", "()I"⟩, 4), (⟨"TripleTrap$Trust", "weakestBut", "(I)I"⟩, 1), (⟨"TripleTrap", "fillTries", "(II)V"⟩, 5), (⟨"TripleTrap", "unlikeTries", "(I)I"⟩, 5), (⟨"TripleTrap", "isFirstOfItsWord", "(I)Z"⟩, 5), (⟨"TripleTrap", "bestTry", "(II)I"⟩, 5), (⟨"TripleTrap$Trust", "sum", "(I)I"⟩, 1), (⟨"TripleTrap$Held", "copyFrom", "(LTripleTrap$Held;)V"⟩, 2)]
theorem lw_r1 : ∀ q ∈ lw_privs_1, lw_okq q := List.forall_mem_cons.mpr ⟨lw_p0, List.forall_mem_cons.mpr ⟨lw_p1, List.forall_mem_cons.mpr ⟨lw_p2, List.forall_mem_cons.mpr ⟨lw_p3, List.forall_mem_cons.mpr ⟨lw_p4, List.forall_mem_cons.mpr ⟨lw_p5, List.forall_mem_cons.mpr ⟨lw_p6, List.forall_mem_cons.mpr ⟨lw_p7, List.forall_mem_cons.mpr ⟨lw_p8, List.forall_mem_cons.mpr ⟨lw_p9, List.forall_mem_cons.mpr ⟨lw_p10, List.forall_mem_cons.mpr ⟨lw_p11, List.forall_mem_cons.mpr ⟨lw_p12, List.forall_mem_cons.mpr ⟨lw_p13, List.forall_mem_cons.mpr ⟨lw_p14, List.forall_mem_cons.mpr ⟨lw_p15, fun _ h => absurd h List.not_mem_nil⟩⟩⟩⟩⟩⟩⟩⟩⟩⟩⟩⟩⟩⟩⟩⟩
theorem lw_p16 : lw_okq (⟨"TripleTrap$Moves", "copyFrom", "(LTripleTrap$Moves;)V"⟩, 4) := ⟨⟨by decide +kernel, by decide +kernel⟩, List.mem_of_getElem? (i := 45) (by decide +kernel), List.mem_of_getElem? (i := 300) (by decide +kernel), List.mem_of_getElem? (i := 301) (by decide +kernel)⟩
theorem lw_p17 : lw_okq (⟨"TripleTrap$Trust", "copyFrom", "(LTripleTrap$Trust;)V"⟩, 1) := ⟨⟨by decide +kernel, by decide +kernel⟩, List.mem_of_getElem? (i := 67) (by decide +kernel), List.mem_of_getElem? (i := 304) (by decide +kernel), List.mem_of_getElem? (i := 305) (by decide +kernel)⟩
theorem lw_p18 : lw_okq (⟨"TripleTrapModel", "layErrors", "(I)V"⟩, 7) := ⟨⟨by decide +kernel, by decide +kernel⟩, List.mem_of_getElem? (i := 316) (by decide +kernel), List.mem_of_getElem? (i := 322) (by decide +kernel), List.mem_of_getElem? (i := 323) (by decide +kernel)⟩
theorem lw_p19 : lw_okq (⟨"TripleTrapModel", "nearest", "(I)I"⟩, 7) := ⟨⟨by decide +kernel, by decide +kernel⟩, List.mem_of_getElem? (i := 316) (by decide +kernel), List.mem_of_getElem? (i := 380) (by decide +kernel), List.mem_of_getElem? (i := 381) (by decide +kernel)⟩
theorem lw_p20 : lw_okq (⟨"TripleTrapModel", "isThere", "(I)Z"⟩, 7) := ⟨⟨by decide +kernel, by decide +kernel⟩, List.mem_of_getElem? (i := 316) (by decide +kernel), List.mem_of_getElem? (i := 443) (by decide +kernel), List.mem_of_getElem? (i := 444) (by decide +kernel)⟩
theorem lw_p21 : lw_okq (⟨"TripleTrapModel", "layTriples", "(I)V"⟩, 7) := ⟨⟨by decide +kernel, by decide +kernel⟩, List.mem_of_getElem? (i := 316) (by decide +kernel), List.mem_of_getElem? (i := 451) (by decide +kernel), List.mem_of_getElem? (i := 452) (by decide +kernel)⟩
theorem lw_p22 : lw_okq (⟨"TripleTrapModel", "coveredBy", "(III)I"⟩, 7) := ⟨⟨by decide +kernel, by decide +kernel⟩, List.mem_of_getElem? (i := 316) (by decide +kernel), List.mem_of_getElem? (i := 455) (by decide +kernel), List.mem_of_getElem? (i := 456) (by decide +kernel)⟩
theorem lw_p23 : lw_okq (⟨"TripleTrapModel", "bringsTo", "(II)Z"⟩, 7) := ⟨⟨by decide +kernel, by decide +kernel⟩, List.mem_of_getElem? (i := 316) (by decide +kernel), List.mem_of_getElem? (i := 459) (by decide +kernel), List.mem_of_getElem? (i := 460) (by decide +kernel)⟩
theorem lw_p24 : lw_okq (⟨"TripleTrapModel", "weakAt", "(I)I"⟩, 7) := ⟨⟨by decide +kernel, by decide +kernel⟩, List.mem_of_getElem? (i := 316) (by decide +kernel), List.mem_of_getElem? (i := 485) (by decide +kernel), List.mem_of_getElem? (i := 486) (by decide +kernel)⟩
theorem lw_p25 : lw_okq (⟨"TripleTrapModel", "layTries", "(II)V"⟩, 7) := ⟨⟨by decide +kernel, by decide +kernel⟩, List.mem_of_getElem? (i := 316) (by decide +kernel), List.mem_of_getElem? (i := 493) (by decide +kernel), List.mem_of_getElem? (i := 494) (by decide +kernel)⟩
theorem lw_p26 : lw_okq (⟨"TripleTrapModel", "loss", "(II)I"⟩, 7) := ⟨⟨by decide +kernel, by decide +kernel⟩, List.mem_of_getElem? (i := 316) (by decide +kernel), List.mem_of_getElem? (i := 497) (by decide +kernel), List.mem_of_getElem? (i := 498) (by decide +kernel)⟩
theorem lw_p27 : lw_okq (⟨"TripleTrapModel", "unlike", "(I)I"⟩, 7) := ⟨⟨by decide +kernel, by decide +kernel⟩, List.mem_of_getElem? (i := 316) (by decide +kernel), List.mem_of_getElem? (i := 501) (by decide +kernel), List.mem_of_getElem? (i := 502) (by decide +kernel)⟩
theorem lw_p28 : lw_okq (⟨"TripleTrapModel", "sureOfAll", "()I"⟩, 7) := ⟨⟨by decide +kernel, by decide +kernel⟩, List.mem_of_getElem? (i := 316) (by decide +kernel), List.mem_of_getElem? (i := 520) (by decide +kernel), List.mem_of_getElem? (i := 521) (by decide +kernel)⟩
def lw_privs_2 : List (MethodName × Nat) := [(⟨"TripleTrap$Moves", "copyFrom", "(LTripleTrap$Moves;)V"⟩, 4), (⟨"TripleTrap$Trust", "copyFrom", "(LTripleTrap$Trust;)V"⟩, 1), (⟨"TripleTrapModel", "layErrors", "(I)V"⟩, 7), (⟨"TripleTrapModel", "nearest", "(I)I"⟩, 7), (⟨"TripleTrapModel", "isThere", "(I)Z"⟩, 7), (⟨"TripleTrapModel", "layTriples", "(I)V"⟩, 7), (⟨"TripleTrapModel", "coveredBy", "(III)I"⟩, 7), (⟨"TripleTrapModel", "bringsTo", "(II)Z"⟩, 7), (⟨"TripleTrapModel", "weakAt", "(I)I"⟩, 7), (⟨"TripleTrapModel", "layTries", "(II)V"⟩, 7), (⟨"TripleTrapModel", "loss", "(II)I"⟩, 7), (⟨"TripleTrapModel", "unlike", "(I)I"⟩, 7), (⟨"TripleTrapModel", "sureOfAll", "()I"⟩, 7)]
theorem lw_r2 : ∀ q ∈ lw_privs_2, lw_okq q := List.forall_mem_cons.mpr ⟨lw_p16, List.forall_mem_cons.mpr ⟨lw_p17, List.forall_mem_cons.mpr ⟨lw_p18, List.forall_mem_cons.mpr ⟨lw_p19, List.forall_mem_cons.mpr ⟨lw_p20, List.forall_mem_cons.mpr ⟨lw_p21, List.forall_mem_cons.mpr ⟨lw_p22, List.forall_mem_cons.mpr ⟨lw_p23, List.forall_mem_cons.mpr ⟨lw_p24, List.forall_mem_cons.mpr ⟨lw_p25, List.forall_mem_cons.mpr ⟨lw_p26, List.forall_mem_cons.mpr ⟨lw_p27, List.forall_mem_cons.mpr ⟨lw_p28, fun _ h => absurd h List.not_mem_nil⟩⟩⟩⟩⟩⟩⟩⟩⟩⟩⟩⟩⟩
def lw_privs : List (MethodName × Nat) := lw_privs_1 ++ (lw_privs_2)
def lw_tbl : List Cond := k2_sels lw_privs ++ tables_1
theorem lw_privs_ok : ∀ q ∈ lw_privs, lw_okq q := by
  show ∀ q ∈ lw_privs_1 ++ (lw_privs_2), lw_okq q
  exact List.forall_mem_append.mpr ⟨lw_r1, lw_r2⟩
end
section
/-! ===== BEGIN words of one list among another's, by their places ===== -/
theorem goodIn_r {big : List Cond} (ws : List Cond) (ps : List Nat) (hp : ws = ps.filterMap (fun i => big[i]?)) (h : ws.all goodWord = true) : GoodIn big ws := by
  intro w hw
  have h1 := List.all_eq_true.mp h w hw
  rw [hp] at hw
  obtain ⟨i, -, hi⟩ := List.mem_filterMap.mp hw
  have hm : w ∈ big := by first | exact List.mem_of_getElem? hi | exact List.getElem?_mem hi
  exact ⟨hm, good_of_word h1⟩
theorem goodIn_app {big a b : List Cond} (ha : GoodIn big a) (hb : GoodIn big b) : GoodIn big (a ++ b) := fun w h => (List.mem_append.mp h).elim (ha w) (hb w)
theorem goodIn_ca {big a b : List Cond} {c : Cond} (ha : GoodIn big (c :: a)) (hb : GoodIn big b) : GoodIn big (c :: (a ++ b)) := fun w h => (List.mem_cons.mp h).elim (fun e => ha w (List.mem_cons.mpr (Or.inl e))) (fun h => (List.mem_append.mp h).elim (fun h => ha w (List.mem_cons.mpr (Or.inr h))) (hb w))
theorem goodIn_sub {big ws : List Cond} (hm : ∀ w ∈ ws, w ∈ big) (h : ws.all goodWord = true) : GoodIn big ws := fun w hw => ⟨hm w hw, good_of_word (List.all_eq_true.mp h w hw)⟩
/-! ===== END ===== -/

/-! ===== BEGIN printed: names, fields, word lists, decode rows ===== -/
def RX0 : String := "TripleTrap$Bits"
def TX0 : u_T := fun k => match k with
  | _ => ("", "", "", false)
def tyX0 : Nat → FieldType := fun k => match k with
  | _ => .int
abbrev wsX00 : List Cond := u_ws RX0 TX0 0
theorem nmX0 : ∀ a, a < 0 → ∀ b, b < 0 → a ≠ b → (TX0 a).2.1 ≠ (TX0 b).2.1 := by decide +kernel
theorem tyX0_ok : ∀ k, k < 0 → parseFieldDescriptor (TX0 k).2.2.1 = some (tyX0 k) := by decide +kernel
abbrev cX0_remainder : ByteArray := prog_2_method_2_code
def yX0_remainder : MethodName := ⟨RX0, "remainder", "(I)I"⟩
abbrev cX0_coded : ByteArray := prog_2_method_3_code
def yX0_coded : MethodName := ⟨RX0, "coded", "(I)I"⟩
abbrev cX0_message : ByteArray := prog_2_method_4_code
def yX0_message : MethodName := ⟨RX0, "message", "(I)I"⟩
abbrev cX0_widen : ByteArray := prog_2_method_5_code
def yX0_widen : MethodName := ⟨RX0, "widen", "(I)I"⟩
abbrev cX0_turn : ByteArray := prog_2_method_6_code
def yX0_turn : MethodName := ⟨RX0, "turn", "(II)I"⟩
abbrev cX0_turnBack : ByteArray := prog_2_method_7_code
def yX0_turnBack : MethodName := ⟨RX0, "turnBack", "(II)I"⟩
abbrev cX0_trapErrors : ByteArray := prog_2_method_8_code
def yX0_trapErrors : MethodName := ⟨RX0, "trapErrors", "(II)I"⟩
abbrev cX0_target : ByteArray := prog_2_method_9_code
def yX0_target : MethodName := ⟨RX0, "target", "(III)I"⟩
abbrev cX0_carry : ByteArray := prog_2_method_10_code
def yX0_carry : MethodName := ⟨RX0, "carry", "(III)I"⟩
abbrev cX0_carryBack : ByteArray := prog_2_method_11_code
def yX0_carryBack : MethodName := ⟨RX0, "carryBack", "(III)I"⟩
abbrev cX0_staysInCode : ByteArray := prog_2_method_12_code
def yX0_staysInCode : MethodName := ⟨RX0, "staysInCode", "(II)Z"⟩
def RX1 : String := "TripleTrap$Held"
def TX1 : u_T := fun k => match k with
  | 0 => ("TripleTrap$Held", "moves", "LTripleTrap$Moves;", true)
  | _ => ("TripleTrap$Held", "trust", "LTripleTrap$Trust;", true)
def tyX1 : Nat → FieldType := fun k => match k with
  | 0 => .object "TripleTrap$Moves"
  | _ => .object "TripleTrap$Trust"
abbrev wsX10 : List Cond := u_ws RX1 TX1 2
theorem nmX1 : ∀ a, a < 2 → ∀ b, b < 2 → a ≠ b → (TX1 a).2.1 ≠ (TX1 b).2.1 := by decide +kernel
theorem tyX1_ok : ∀ k, k < 2 → parseFieldDescriptor (TX1 k).2.2.1 = some (tyX1 k) := by decide +kernel
abbrev cX1_init : ByteArray := prog_3_method_1_code
def yX1_init : MethodName := ⟨RX1, "<init>", "()V"⟩
abbrev cX1_copyFrom : ByteArray := prog_3_method_2_code
def yX1_copyFrom : MethodName := ⟨RX1, "copyFrom", "(LTripleTrap$Held;)V"⟩
def RX2 : String := "TripleTrap$Mender"
def TX2 : u_T := fun k => match k with
  | _ => ("TripleTrap$Mender", "errorsByRest", "[I", true)
def tyX2 : Nat → FieldType := fun k => match k with
  | _ => .array .int
abbrev wsX20 : List Cond := u_ws RX2 TX2 1
theorem nmX2 : ∀ a, a < 1 → ∀ b, b < 1 → a ≠ b → (TX2 a).2.1 ≠ (TX2 b).2.1 := by decide +kernel
theorem tyX2_ok : ∀ k, k < 1 → parseFieldDescriptor (TX2 k).2.2.1 = some (tyX2 k) := by decide +kernel
abbrev cX2_init : ByteArray := prog_4_method_1_code
def yX2_init : MethodName := ⟨RX2, "<init>", "()V"⟩
abbrev cX2_enter : ByteArray := prog_4_method_2_code
def yX2_enter : MethodName := ⟨RX2, "enter", "(II)V"⟩
abbrev cX2_errors : ByteArray := prog_4_method_3_code
def yX2_errors : MethodName := ⟨RX2, "errors", "(I)I"⟩
abbrev cX2_nearest : ByteArray := prog_4_method_4_code
def yX2_nearest : MethodName := ⟨RX2, "nearest", "(I)I"⟩
abbrev cX2_distance : ByteArray := prog_4_method_5_code
def yX2_distance : MethodName := ⟨RX2, "distance", "(I)I"⟩
def RX3 : String := "TripleTrap$Moves"
def TX3 : u_T := fun k => match k with
  | 0 => ("TripleTrap$Moves", "size", "I", false)
  | 1 => ("TripleTrap$Moves", "factors", "[I", true)
  | 2 => ("TripleTrap$Moves", "shifts", "[I", true)
  | _ => ("TripleTrap$Moves", "brought", "[I", true)
def tyX3 : Nat → FieldType := fun k => match k with
  | 0 => .int
  | 1 => .array .int
  | 2 => .array .int
  | _ => .array .int
abbrev wsX30 : List Cond := u_ws RX3 TX3 4
theorem nmX3 : ∀ a, a < 4 → ∀ b, b < 4 → a ≠ b → (TX3 a).2.1 ≠ (TX3 b).2.1 := by decide +kernel
theorem tyX3_ok : ∀ k, k < 4 → parseFieldDescriptor (TX3 k).2.2.1 = some (tyX3 k) := by decide +kernel
abbrev cX3_init : ByteArray := prog_5_method_1_code
def yX3_init : MethodName := ⟨RX3, "<init>", "()V"⟩
abbrev cX3_copyFrom : ByteArray := prog_5_method_2_code
def yX3_copyFrom : MethodName := ⟨RX3, "copyFrom", "(LTripleTrap$Moves;)V"⟩
abbrev cX3_append : ByteArray := prog_5_method_3_code
def yX3_append : MethodName := ⟨RX3, "append", "(II)V"⟩
abbrev cX3_removeAt : ByteArray := prog_5_method_4_code
def yX3_removeAt : MethodName := ⟨RX3, "removeAt", "(I)V"⟩
abbrev cX3_joined : ByteArray := prog_5_method_5_code
def yX3_joined : MethodName := ⟨RX3, "joined", "(III)I"⟩
abbrev cX3_coveredByFirst : ByteArray := prog_5_method_6_code
def yX3_coveredByFirst : MethodName := ⟨RX3, "coveredByFirst", "(I)I"⟩
abbrev cX3_firstNotCovered : ByteArray := prog_5_method_7_code
def yX3_firstNotCovered : MethodName := ⟨RX3, "firstNotCovered", "()I"⟩
def RX4 : String := "TripleTrap$Trust"
def TX4 : u_T := fun k => match k with
  | _ => ("TripleTrap$Trust", "levels", "[I", true)
def tyX4 : Nat → FieldType := fun k => match k with
  | _ => .array .int
abbrev wsX40 : List Cond := u_ws RX4 TX4 1
theorem nmX4 : ∀ a, a < 1 → ∀ b, b < 1 → a ≠ b → (TX4 a).2.1 ≠ (TX4 b).2.1 := by decide +kernel
theorem tyX4_ok : ∀ k, k < 1 → parseFieldDescriptor (TX4 k).2.2.1 = some (tyX4 k) := by decide +kernel
abbrev cX4_init : ByteArray := prog_6_method_1_code
def yX4_init : MethodName := ⟨RX4, "<init>", "()V"⟩
abbrev cX4_copyFrom : ByteArray := prog_6_method_2_code
def yX4_copyFrom : MethodName := ⟨RX4, "copyFrom", "(LTripleTrap$Trust;)V"⟩
abbrev cX4_sum : ByteArray := prog_6_method_3_code
def yX4_sum : MethodName := ⟨RX4, "sum", "(I)I"⟩
abbrev cX4_weakestBut : ByteArray := prog_6_method_4_code
def yX4_weakestBut : MethodName := ⟨RX4, "weakestBut", "(I)I"⟩
def RX5 : String := "TripleTrap"
def TX5 : u_T := fun k => match k with
  | 0 => ("TripleTrap", "mender", "LTripleTrap$Mender;", true)
  | 1 => ("TripleTrap", "now", "LTripleTrap$Held;", true)
  | 2 => ("TripleTrap", "images", "[LTripleTrap$Held;", true)
  | 3 => ("TripleTrap", "imagesKept", "I", false)
  | _ => ("TripleTrap", "tries", "[I", true)
def tyX5 : Nat → FieldType := fun k => match k with
  | 0 => .object "TripleTrap$Mender"
  | 1 => .object "TripleTrap$Held"
  | 2 => .array (.object "TripleTrap$Held")
  | 3 => .int
  | _ => .array .int
abbrev wsX50 : List Cond := u_ws RX5 TX5 5
theorem nmX5 : ∀ a, a < 5 → ∀ b, b < 5 → a ≠ b → (TX5 a).2.1 ≠ (TX5 b).2.1 := by decide +kernel
theorem tyX5_ok : ∀ k, k < 5 → parseFieldDescriptor (TX5 k).2.2.1 = some (tyX5 k) := by decide +kernel
abbrev cX5_init : ByteArray := prog_1_method_1_code
def yX5_init : MethodName := ⟨RX5, "<init>", "()V"⟩
abbrev cX5_made : ByteArray := prog_1_method_2_code
def yX5_made : MethodName := ⟨RX5, "made", "(I)I"⟩
abbrev cX5_rest : ByteArray := prog_1_method_3_code
def yX5_rest : MethodName := ⟨RX5, "rest", "(I)I"⟩
abbrev cX5_of : ByteArray := prog_1_method_4_code
def yX5_of : MethodName := ⟨RX5, "of", "(II)I"⟩
abbrev cX5_around : ByteArray := prog_1_method_5_code
def yX5_around : MethodName := ⟨RX5, "around", "(II)I"⟩
abbrev cX5_turned : ByteArray := prog_1_method_6_code
def yX5_turned : MethodName := ⟨RX5, "turned", "(II)I"⟩
abbrev cX5_trapped : ByteArray := prog_1_method_7_code
def yX5_trapped : MethodName := ⟨RX5, "trapped", "(II)I"⟩
abbrev cX5_wide : ByteArray := prog_1_method_8_code
def yX5_wide : MethodName := ⟨RX5, "wide", "(I)I"⟩
abbrev cX5_read : ByteArray := prog_1_method_9_code
def yX5_read : MethodName := ⟨RX5, "read", "(II)I"⟩
abbrev cX5_keeps : ByteArray := prog_1_method_10_code
def yX5_keeps : MethodName := ⟨RX5, "keeps", "(II)I"⟩
abbrev cX5_moved : ByteArray := prog_1_method_11_code
def yX5_moved : MethodName := ⟨RX5, "moved", "(III)I"⟩
abbrev cX5_move : ByteArray := prog_1_method_12_code
def yX5_move : MethodName := ⟨RX5, "move", "(II)I"⟩
abbrev cX5_drop : ByteArray := prog_1_method_13_code
def yX5_drop : MethodName := ⟨RX5, "drop", "(I)I"⟩
abbrev cX5_told : ByteArray := prog_1_method_14_code
def yX5_told : MethodName := ⟨RX5, "told", "(II)I"⟩
abbrev cX5_freed : ByteArray := prog_1_method_15_code
def yX5_freed : MethodName := ⟨RX5, "freed", "(II)I"⟩
abbrev cX5_open : ByteArray := prog_1_method_16_code
def yX5_open : MethodName := ⟨RX5, "open", "(I)I"⟩
abbrev cX5_sure : ByteArray := prog_1_method_17_code
def yX5_sure : MethodName := ⟨RX5, "sure", "(II)I"⟩
abbrev cX5_weak : ByteArray := prog_1_method_18_code
def yX5_weak : MethodName := ⟨RX5, "weak", "(I)I"⟩
abbrev cX5_chosen : ByteArray := prog_1_method_19_code
def yX5_chosen : MethodName := ⟨RX5, "chosen", "(III)I"⟩
abbrev cX5_image : ByteArray := prog_1_method_20_code
def yX5_image : MethodName := ⟨RX5, "image", "(I)I"⟩
abbrev cX5_restore : ByteArray := prog_1_method_21_code
def yX5_restore : MethodName := ⟨RX5, "restore", "(I)I"⟩
abbrev cX5_count : ByteArray := prog_1_method_22_code
def yX5_count : MethodName := ⟨RX5, "count", "(I)I"⟩
abbrev cX5_isBelow : ByteArray := prog_1_method_23_code
def yX5_isBelow : MethodName := ⟨RX5, "isBelow", "(II)Z"⟩
abbrev cX5_isMove : ByteArray := prog_1_method_24_code
def yX5_isMove : MethodName := ⟨RX5, "isMove", "(II)Z"⟩
abbrev cX5_codeWordsAt : ByteArray := prog_1_method_25_code
def yX5_codeWordsAt : MethodName := ⟨RX5, "codeWordsAt", "(II)I"⟩
abbrev cX5_fillTries : ByteArray := prog_1_method_26_code
def yX5_fillTries : MethodName := ⟨RX5, "fillTries", "(II)V"⟩
abbrev cX5_bestTry : ByteArray := prog_1_method_27_code
def yX5_bestTry : MethodName := ⟨RX5, "bestTry", "(II)I"⟩
abbrev cX5_unlikeTries : ByteArray := prog_1_method_28_code
def yX5_unlikeTries : MethodName := ⟨RX5, "unlikeTries", "(I)I"⟩
abbrev cX5_isFirstOfItsWord : ByteArray := prog_1_method_29_code
def yX5_isFirstOfItsWord : MethodName := ⟨RX5, "isFirstOfItsWord", "(I)Z"⟩
def RX6 : String := "TripleTrapModel"
def TX6 : u_T := fun k => match k with
  | 0 => ("TripleTrapModel", "state", "[I", true)
  | 1 => ("TripleTrapModel", "images", "[I", true)
  | 2 => ("TripleTrapModel", "isKept", "[Z", true)
  | 3 => ("TripleTrapModel", "errorsOf", "[I", true)
  | 4 => ("TripleTrapModel", "triples", "I", false)
  | 5 => ("TripleTrapModel", "firstTriple", "I", false)
  | _ => ("TripleTrapModel", "comes", "[I", true)
def tyX6 : Nat → FieldType := fun k => match k with
  | 0 => .array .int
  | 1 => .array .int
  | 2 => .array .boolean
  | 3 => .array .int
  | 4 => .int
  | 5 => .int
  | _ => .array .int
abbrev wsX60 : List Cond := u_ws RX6 TX6 7
theorem nmX6 : ∀ a, a < 7 → ∀ b, b < 7 → a ≠ b → (TX6 a).2.1 ≠ (TX6 b).2.1 := by decide +kernel
theorem tyX6_ok : ∀ k, k < 7 → parseFieldDescriptor (TX6 k).2.2.1 = some (tyX6 k) := by decide +kernel
abbrev cX6_init : ByteArray := prog_8_method_1_code
def yX6_init : MethodName := ⟨RX6, "<init>", "()V"⟩
abbrev cX6_layErrors : ByteArray := prog_8_method_2_code
def yX6_layErrors : MethodName := ⟨RX6, "layErrors", "(I)V"⟩
abbrev cX6_in : ByteArray := prog_8_method_3_code
def yX6_in : MethodName := ⟨RX6, "in", "(III)Z"⟩
abbrev cX6_isWord : ByteArray := prog_8_method_4_code
def yX6_isWord : MethodName := ⟨RX6, "isWord", "(I)Z"⟩
abbrev cX6_isMessage : ByteArray := prog_8_method_5_code
def yX6_isMessage : MethodName := ⟨RX6, "isMessage", "(I)Z"⟩
abbrev cX6_weight : ByteArray := prog_8_method_6_code
def yX6_weight : MethodName := ⟨RX6, "weight", "(I)I"⟩
abbrev cX6_restOf : ByteArray := prog_8_method_7_code
def yX6_restOf : MethodName := ⟨RX6, "restOf", "(I)I"⟩
abbrev cX6_madeOf : ByteArray := prog_8_method_8_code
def yX6_madeOf : MethodName := ⟨RX6, "madeOf", "(I)I"⟩
abbrev cX6_nearest : ByteArray := prog_8_method_9_code
def yX6_nearest : MethodName := ⟨RX6, "nearest", "(I)I"⟩
abbrev cX6_made : ByteArray := prog_8_method_10_code
def yX6_made : MethodName := ⟨RX6, "made", "(I)I"⟩
abbrev cX6_rest : ByteArray := prog_8_method_11_code
def yX6_rest : MethodName := ⟨RX6, "rest", "(I)I"⟩
abbrev cX6_of : ByteArray := prog_8_method_12_code
def yX6_of : MethodName := ⟨RX6, "of", "(II)I"⟩
abbrev cX6_around : ByteArray := prog_8_method_13_code
def yX6_around : MethodName := ⟨RX6, "around", "(II)I"⟩
abbrev cX6_turn : ByteArray := prog_8_method_14_code
def yX6_turn : MethodName := ⟨RX6, "turn", "(II)I"⟩
abbrev cX6_turned : ByteArray := prog_8_method_15_code
def yX6_turned : MethodName := ⟨RX6, "turned", "(II)I"⟩
abbrev cX6_caught : ByteArray := prog_8_method_16_code
def yX6_caught : MethodName := ⟨RX6, "caught", "(II)I"⟩
abbrev cX6_trapped : ByteArray := prog_8_method_17_code
def yX6_trapped : MethodName := ⟨RX6, "trapped", "(II)I"⟩
abbrev cX6_widened : ByteArray := prog_8_method_18_code
def yX6_widened : MethodName := ⟨RX6, "widened", "(I)I"⟩
abbrev cX6_wide : ByteArray := prog_8_method_19_code
def yX6_wide : MethodName := ⟨RX6, "wide", "(I)I"⟩
abbrev cX6_read : ByteArray := prog_8_method_20_code
def yX6_read : MethodName := ⟨RX6, "read", "(II)I"⟩
abbrev cX6_isMove : ByteArray := prog_8_method_21_code
def yX6_isMove : MethodName := ⟨RX6, "isMove", "(II)Z"⟩
abbrev cX6_place : ByteArray := prog_8_method_22_code
def yX6_place : MethodName := ⟨RX6, "place", "(III)I"⟩
abbrev cX6_go : ByteArray := prog_8_method_23_code
def yX6_go : MethodName := ⟨RX6, "go", "(III)I"⟩
abbrev cX6_goBack : ByteArray := prog_8_method_24_code
def yX6_goBack : MethodName := ⟨RX6, "goBack", "(III)I"⟩
abbrev cX6_keepsCode : ByteArray := prog_8_method_25_code
def yX6_keepsCode : MethodName := ⟨RX6, "keepsCode", "(II)Z"⟩
abbrev cX6_keeps : ByteArray := prog_8_method_26_code
def yX6_keeps : MethodName := ⟨RX6, "keeps", "(II)I"⟩
abbrev cX6_moved : ByteArray := prog_8_method_27_code
def yX6_moved : MethodName := ⟨RX6, "moved", "(III)I"⟩
abbrev cX6_move : ByteArray := prog_8_method_28_code
def yX6_move : MethodName := ⟨RX6, "move", "(II)I"⟩
abbrev cX6_isThere : ByteArray := prog_8_method_29_code
def yX6_isThere : MethodName := ⟨RX6, "isThere", "(I)Z"⟩
abbrev cX6_drop : ByteArray := prog_8_method_30_code
def yX6_drop : MethodName := ⟨RX6, "drop", "(I)I"⟩
abbrev cX6_bringsTo : ByteArray := prog_8_method_31_code
def yX6_bringsTo : MethodName := ⟨RX6, "bringsTo", "(II)Z"⟩
abbrev cX6_coveredBy : ByteArray := prog_8_method_32_code
def yX6_coveredBy : MethodName := ⟨RX6, "coveredBy", "(III)I"⟩
abbrev cX6_layTriples : ByteArray := prog_8_method_33_code
def yX6_layTriples : MethodName := ⟨RX6, "layTriples", "(I)V"⟩
abbrev cX6_told : ByteArray := prog_8_method_34_code
def yX6_told : MethodName := ⟨RX6, "told", "(II)I"⟩
abbrev cX6_freed : ByteArray := prog_8_method_35_code
def yX6_freed : MethodName := ⟨RX6, "freed", "(II)I"⟩
abbrev cX6_open : ByteArray := prog_8_method_36_code
def yX6_open : MethodName := ⟨RX6, "open", "(I)I"⟩
abbrev cX6_isPlace : ByteArray := prog_8_method_37_code
def yX6_isPlace : MethodName := ⟨RX6, "isPlace", "(I)Z"⟩
abbrev cX6_sure : ByteArray := prog_8_method_38_code
def yX6_sure : MethodName := ⟨RX6, "sure", "(II)I"⟩
abbrev cX6_weakAt : ByteArray := prog_8_method_39_code
def yX6_weakAt : MethodName := ⟨RX6, "weakAt", "(I)I"⟩
abbrev cX6_weak : ByteArray := prog_8_method_40_code
def yX6_weak : MethodName := ⟨RX6, "weak", "(I)I"⟩
abbrev cX6_loss : ByteArray := prog_8_method_41_code
def yX6_loss : MethodName := ⟨RX6, "loss", "(II)I"⟩
abbrev cX6_layTries : ByteArray := prog_8_method_42_code
def yX6_layTries : MethodName := ⟨RX6, "layTries", "(II)V"⟩
abbrev cX6_unlike : ByteArray := prog_8_method_43_code
def yX6_unlike : MethodName := ⟨RX6, "unlike", "(I)I"⟩
abbrev cX6_chosen : ByteArray := prog_8_method_44_code
def yX6_chosen : MethodName := ⟨RX6, "chosen", "(III)I"⟩
abbrev cX6_image : ByteArray := prog_8_method_45_code
def yX6_image : MethodName := ⟨RX6, "image", "(I)I"⟩
abbrev cX6_restore : ByteArray := prog_8_method_46_code
def yX6_restore : MethodName := ⟨RX6, "restore", "(I)I"⟩
abbrev cX6_sureOfAll : ByteArray := prog_8_method_47_code
def yX6_sureOfAll : MethodName := ⟨RX6, "sureOfAll", "()I"⟩
abbrev cX6_ofWeight : ByteArray := prog_8_method_48_code
def yX6_ofWeight : MethodName := ⟨RX6, "ofWeight", "(I)I"⟩
abbrev cX6_count : ByteArray := prog_8_method_49_code
def yX6_count : MethodName := ⟨RX6, "count", "(I)I"⟩
def RJ6 : String := "java/lang/Integer"
def TJ6 : u_T := fun k => match k with
  | _ => ("", "", "", false)
def tyJ6 : Nat → FieldType := fun k => match k with
  | _ => .int
abbrev wsJ60 : List Cond := u_ws RJ6 TJ6 0
theorem nmJ6 : ∀ a, a < 0 → ∀ b, b < 0 → a ≠ b → (TJ6 a).2.1 ≠ (TJ6 b).2.1 := by decide +kernel
theorem tyJ6_ok : ∀ k, k < 0 → parseFieldDescriptor (TJ6 k).2.2.1 = some (tyJ6 k) := by decide +kernel
abbrev cJ6_bitCount_0f7a4 : ByteArray := prog_9_method_49_code
def yJ6_bitCount_0f7a4 : MethodName := ⟨RJ6, "bitCount", "(I)I"⟩
def RL : String := "TripleTrapLaw"
abbrev cL_law : ByteArray := code
def yL_law : MethodName := ⟨RL, "law", "([I)Z"⟩
def wsX0_remainder : List Cond := .code yX0_remainder cX0_remainder 3 (some .int) :: ([])
def wsX0_coded : List Cond := .code yX0_coded cX0_coded 2 (some .int) :: ([.methodLink RX0 9 yX0_remainder, .static yX0_remainder, .initialized RX0, .code yX0_remainder cX0_remainder 3 (some .int)])
def wsX0_message : List Cond := .code yX0_message cX0_message 1 (some .int) :: ([])
def wsJ6_bitCount_0f7a4 : List Cond := .code yJ6_bitCount_0f7a4 cJ6_bitCount_0f7a4 1 (some .int) :: ([.constant RJ6 265 (1431655765), .constant RJ6 266 (858993459), .constant RJ6 267 (252645135)])
def wsX0_widen : List Cond := .code yX0_widen cX0_widen 1 (some .int) :: ([.methodLink RX0 15 yJ6_bitCount_0f7a4, .static yJ6_bitCount_0f7a4, .initialized RJ6, .code yJ6_bitCount_0f7a4 cJ6_bitCount_0f7a4 1 (some .int), .constant RJ6 265 (1431655765), .constant RJ6 266 (858993459), .constant RJ6 267 (252645135)])
def wsX0_turn : List Cond := .code yX0_turn cX0_turn 2 (some .int) :: ([.constant RX0 20 (8388607)])
def wsX0_turnBack : List Cond := .code yX0_turnBack cX0_turnBack 2 (some .int) :: ([.methodLink RX0 21 yX0_turn, .static yX0_turn, .initialized RX0, .code yX0_turn cX0_turn 2 (some .int), .constant RX0 20 (8388607)])
def wsX0_trapErrors : List Cond := .code yX0_trapErrors cX0_trapErrors 4 (some .int) :: ([.constant RX0 25 (65536), .constant RX0 26 (131072), .methodLink RX0 9 yX0_remainder, .static yX0_remainder, .initialized RX0, .code yX0_remainder cX0_remainder 3 (some .int), .methodLink RX0 15 yJ6_bitCount_0f7a4, .static yJ6_bitCount_0f7a4, .initialized RJ6, .code yJ6_bitCount_0f7a4 cJ6_bitCount_0f7a4 1 (some .int), .constant RJ6 265 (1431655765), .constant RJ6 266 (858993459), .constant RJ6 267 (252645135)])
def wsX0_target : List Cond := .code yX0_target cX0_target 3 (some .int) :: ([])
def wsX0_carry : List Cond := .code yX0_carry cX0_carry 5 (some .int) :: ([.methodLink RX0 27 yX0_target, .static yX0_target, .initialized RX0, .code yX0_target cX0_target 3 (some .int)])
def wsX0_carryBack : List Cond := .code yX0_carryBack cX0_carryBack 5 (some .int) :: ([.methodLink RX0 27 yX0_target, .static yX0_target, .initialized RX0, .code yX0_target cX0_target 3 (some .int)])
def wsX0_staysInCode : List Cond := .code yX0_staysInCode cX0_staysInCode 3 (some .boolean) :: ([.methodLink RX0 31 yX0_carry, .static yX0_carry, .initialized RX0, .code yX0_carry cX0_carry 5 (some .int), .methodLink RX0 27 yX0_target, .static yX0_target, .code yX0_target cX0_target 3 (some .int), .methodLink RX0 9 yX0_remainder, .static yX0_remainder, .code yX0_remainder cX0_remainder 3 (some .int)])
def wsX3_init : List Cond := .code yX3_init cX3_init 1 none :: ([.methodLink RX3 3 objectInit, .instanceMethod objectInit, .code objectInit ⟨#[0xb1]⟩ 1 none, .fieldLink RX3 9 "TripleTrap$Moves" "size" "I", .arrayClass .int, .fieldLink RX3 15 "TripleTrap$Moves" "factors" "[I", .fieldLink RX3 19 "TripleTrap$Moves" "shifts" "[I", .fieldLink RX3 22 "TripleTrap$Moves" "brought" "[I"] ++ wsX30)
def wsX4_init : List Cond := .code yX4_init cX4_init 2 none :: ([.methodLink RX4 3 objectInit, .instanceMethod objectInit, .code objectInit ⟨#[0xb1]⟩ 1 none, .arrayClass .int, .fieldLink RX4 9 "TripleTrap$Trust" "levels" "[I"] ++ wsX40)
def wsX1_init : List Cond := .code yX1_init cX1_init 1 none :: ([.methodLink RX1 1 objectInit, .instanceMethod objectInit, .code objectInit ⟨#[0xb1]⟩ 1 none, .classLink RX1 7 RX3, .instantiable RX3 4, .initialized RX3, .fieldLink RX1 10 "TripleTrap$Held" "moves" "LTripleTrap$Moves;", .classLink RX1 16 RX4, .instantiable RX4 1, .initialized RX4, .fieldLink RX1 19 "TripleTrap$Held" "trust" "LTripleTrap$Trust;", .instanceMethod yX3_init, .code yX3_init cX3_init 1 none, .methodLink RX3 3 objectInit, .fieldLink RX3 9 "TripleTrap$Moves" "size" "I", .arrayClass .int, .fieldLink RX3 15 "TripleTrap$Moves" "factors" "[I", .fieldLink RX3 19 "TripleTrap$Moves" "shifts" "[I", .fieldLink RX3 22 "TripleTrap$Moves" "brought" "[I", .instanceMethod yX4_init, .code yX4_init cX4_init 2 none, .methodLink RX4 3 objectInit, .fieldLink RX4 9 "TripleTrap$Trust" "levels" "[I"] ++ wsX30 ++ wsX10 ++ wsX40)
def wsX3_copyFrom : List Cond := .code yX3_copyFrom cX3_copyFrom 3 none :: ([.fieldLink RX3 9 "TripleTrap$Moves" "size" "I", .fieldLink RX3 15 "TripleTrap$Moves" "factors" "[I", .fieldLink RX3 19 "TripleTrap$Moves" "shifts" "[I", .fieldLink RX3 22 "TripleTrap$Moves" "brought" "[I"] ++ wsX30)
def wsX4_copyFrom : List Cond := .code yX4_copyFrom cX4_copyFrom 3 none :: ([.fieldLink RX4 9 "TripleTrap$Trust" "levels" "[I"] ++ wsX40)
def wsX1_copyFrom : List Cond := .code yX1_copyFrom cX1_copyFrom 2 none :: ([.fieldLink RX1 10 "TripleTrap$Held" "moves" "LTripleTrap$Moves;", .fieldLink RX1 19 "TripleTrap$Held" "trust" "LTripleTrap$Trust;", .instanceMethod yX3_copyFrom, .initialized RX3, .selects RX3 yX3_copyFrom yX3_copyFrom, .code yX3_copyFrom cX3_copyFrom 3 none, .fieldLink RX3 9 "TripleTrap$Moves" "size" "I", .fieldLink RX3 15 "TripleTrap$Moves" "factors" "[I", .fieldLink RX3 19 "TripleTrap$Moves" "shifts" "[I", .fieldLink RX3 22 "TripleTrap$Moves" "brought" "[I", .instanceMethod yX4_copyFrom, .initialized RX4, .selects RX4 yX4_copyFrom yX4_copyFrom, .code yX4_copyFrom cX4_copyFrom 3 none, .fieldLink RX4 9 "TripleTrap$Trust" "levels" "[I"] ++ wsX10 ++ wsX30 ++ wsX40)
def wsX5_isBelow : List Cond := .code yX5_isBelow cX5_isBelow 2 (some .boolean) :: ([])
def wsX2_enter : List Cond := .code yX2_enter cX2_enter 3 none :: ([.fieldLink RX2 9 "TripleTrap$Mender" "errorsByRest" "[I", .static yX5_isBelow, .initialized RX5, .code yX5_isBelow cX5_isBelow 2 (some .boolean)] ++ wsX20)
def wsX2_init : List Cond := .code yX2_init cX2_init 7 none :: ([.methodLink RX2 3 objectInit, .instanceMethod objectInit, .code objectInit ⟨#[0xb1]⟩ 1 none, .arrayClass .int, .fieldLink RX2 9 "TripleTrap$Mender" "errorsByRest" "[I", .static yX0_remainder, .initialized RX0, .code yX0_remainder cX0_remainder 3 (some .int), .methodLink RX2 21 yX2_enter, .instanceMethod yX2_enter, .selects RX2 yX2_enter yX2_enter, .initialized RX2, .code yX2_enter cX2_enter 3 none, .static yX5_isBelow, .initialized RX5, .code yX5_isBelow cX5_isBelow 2 (some .boolean)] ++ wsX20)
def wsX2_errors : List Cond := .code yX2_errors cX2_errors 3 (some .int) :: ([.fieldLink RX2 9 "TripleTrap$Mender" "errorsByRest" "[I", .static yX0_remainder, .initialized RX0, .code yX0_remainder cX0_remainder 3 (some .int), .static yX5_isBelow, .initialized RX5, .code yX5_isBelow cX5_isBelow 2 (some .boolean)] ++ wsX20)
def wsX2_nearest : List Cond := .code yX2_nearest cX2_nearest 2 (some .int) :: ([.methodLink RX2 29 yX2_errors, .instanceMethod yX2_errors, .selects RX2 yX2_errors yX2_errors, .initialized RX2, .code yX2_errors cX2_errors 3 (some .int), .fieldLink RX2 9 "TripleTrap$Mender" "errorsByRest" "[I", .static yX0_remainder, .initialized RX0, .code yX0_remainder cX0_remainder 3 (some .int), .static yX5_isBelow, .initialized RX5, .code yX5_isBelow cX5_isBelow 2 (some .boolean)] ++ wsX20)
def wsX2_distance : List Cond := .code yX2_distance cX2_distance 2 (some .int) :: ([.methodLink RX2 29 yX2_errors, .instanceMethod yX2_errors, .selects RX2 yX2_errors yX2_errors, .initialized RX2, .code yX2_errors cX2_errors 3 (some .int), .fieldLink RX2 9 "TripleTrap$Mender" "errorsByRest" "[I", .static yX0_remainder, .initialized RX0, .code yX0_remainder cX0_remainder 3 (some .int), .static yX5_isBelow, .initialized RX5, .code yX5_isBelow cX5_isBelow 2 (some .boolean), .methodLink RX2 32 yJ6_bitCount_0f7a4, .static yJ6_bitCount_0f7a4, .initialized RJ6, .code yJ6_bitCount_0f7a4 cJ6_bitCount_0f7a4 1 (some .int), .constant RJ6 265 (1431655765), .constant RJ6 266 (858993459), .constant RJ6 267 (252645135)] ++ wsX20)
def wsX3_append : List Cond := .code yX3_append cX3_append 3 none :: ([.fieldLink RX3 9 "TripleTrap$Moves" "size" "I", .fieldLink RX3 15 "TripleTrap$Moves" "factors" "[I", .fieldLink RX3 19 "TripleTrap$Moves" "shifts" "[I", .fieldLink RX3 22 "TripleTrap$Moves" "brought" "[I", .static yX0_carryBack, .initialized RX0, .code yX0_carryBack cX0_carryBack 5 (some .int), .methodLink RX0 27 yX0_target, .static yX0_target, .code yX0_target cX0_target 3 (some .int)] ++ wsX30)
def wsX3_removeAt : List Cond := .code yX3_removeAt cX3_removeAt 3 none :: ([.fieldLink RX3 9 "TripleTrap$Moves" "size" "I", .fieldLink RX3 15 "TripleTrap$Moves" "factors" "[I", .fieldLink RX3 19 "TripleTrap$Moves" "shifts" "[I", .fieldLink RX3 22 "TripleTrap$Moves" "brought" "[I", .static yX5_isBelow, .initialized RX5, .code yX5_isBelow cX5_isBelow 2 (some .boolean)] ++ wsX30)
def wsX3_joined : List Cond := .code yX3_joined cX3_joined 7 (some .int) :: ([.fieldLink RX3 9 "TripleTrap$Moves" "size" "I", .fieldLink RX3 22 "TripleTrap$Moves" "brought" "[I"] ++ wsX30)
def wsX3_coveredByFirst : List Cond := .code yX3_coveredByFirst cX3_coveredByFirst 5 (some .int) :: ([.methodLink RX3 35 yX3_joined, .instanceMethod yX3_joined, .selects RX3 yX3_joined yX3_joined, .initialized RX3, .code yX3_joined cX3_joined 7 (some .int), .fieldLink RX3 9 "TripleTrap$Moves" "size" "I", .fieldLink RX3 22 "TripleTrap$Moves" "brought" "[I", .methodLink RX3 38 yJ6_bitCount_0f7a4, .static yJ6_bitCount_0f7a4, .initialized RJ6, .code yJ6_bitCount_0f7a4 cJ6_bitCount_0f7a4 1 (some .int), .constant RJ6 265 (1431655765), .constant RJ6 266 (858993459), .constant RJ6 267 (252645135)] ++ wsX30)
def wsX3_firstNotCovered : List Cond := .code yX3_firstNotCovered cX3_firstNotCovered 5 (some .int) :: ([.fieldLink RX3 9 "TripleTrap$Moves" "size" "I", .methodLink RX3 35 yX3_joined, .instanceMethod yX3_joined, .selects RX3 yX3_joined yX3_joined, .initialized RX3, .code yX3_joined cX3_joined 7 (some .int), .fieldLink RX3 22 "TripleTrap$Moves" "brought" "[I"] ++ wsX30)
def wsX4_sum : List Cond := .code yX4_sum cX4_sum 4 (some .int) :: ([.fieldLink RX4 9 "TripleTrap$Trust" "levels" "[I"] ++ wsX40)
def wsX4_weakestBut : List Cond := .code yX4_weakestBut cX4_weakestBut 5 (some .int) :: ([.fieldLink RX4 9 "TripleTrap$Trust" "levels" "[I"] ++ wsX40)
def wsX5_init_r1 : List Cond := [Cond.methodLink RX5 3 objectInit, Cond.instanceMethod objectInit, Cond.code objectInit ⟨#[0xb1]⟩ 1 none, Cond.classLink RX5 9 RX2, Cond.instantiable RX2 1, Cond.initialized RX2, Cond.fieldLink RX5 12 "TripleTrap" "mender" "LTripleTrap$Mender;", Cond.classLink RX5 16 RX1, Cond.instantiable RX1 2, Cond.initialized RX1, Cond.fieldLink RX5 19 "TripleTrap" "now" "LTripleTrap$Held;", Cond.fieldLink RX5 23 "TripleTrap" "images" "[LTripleTrap$Held;", Cond.fieldLink RX5 27 "TripleTrap" "imagesKept" "I", Cond.arrayClass .int, Cond.fieldLink RX5 31 "TripleTrap" "tries" "[I", Cond.instanceMethod yX2_init, Cond.code yX2_init cX2_init 7 none, Cond.methodLink RX2 3 objectInit, Cond.fieldLink RX2 9 "TripleTrap$Mender" "errorsByRest" "[I", Cond.static yX0_remainder, Cond.initialized RX0, Cond.code yX0_remainder cX0_remainder 3 (some .int), Cond.methodLink RX2 21 yX2_enter, Cond.instanceMethod yX2_enter]
def wsX5_init_r2 : List Cond := [Cond.selects RX2 yX2_enter yX2_enter, Cond.code yX2_enter cX2_enter 3 none, Cond.static yX5_isBelow, Cond.initialized RX5, Cond.code yX5_isBelow cX5_isBelow 2 (some .boolean), Cond.instanceMethod yX1_init, Cond.code yX1_init cX1_init 1 none, Cond.methodLink RX1 1 objectInit, Cond.classLink RX1 7 RX3, Cond.instantiable RX3 4, Cond.initialized RX3, Cond.fieldLink RX1 10 "TripleTrap$Held" "moves" "LTripleTrap$Moves;", Cond.classLink RX1 16 RX4, Cond.instantiable RX4 1, Cond.initialized RX4, Cond.fieldLink RX1 19 "TripleTrap$Held" "trust" "LTripleTrap$Trust;", Cond.instanceMethod yX3_init, Cond.code yX3_init cX3_init 1 none, Cond.methodLink RX3 3 objectInit, Cond.fieldLink RX3 9 "TripleTrap$Moves" "size" "I", Cond.fieldLink RX3 15 "TripleTrap$Moves" "factors" "[I", Cond.fieldLink RX3 19 "TripleTrap$Moves" "shifts" "[I", Cond.fieldLink RX3 22 "TripleTrap$Moves" "brought" "[I", Cond.instanceMethod yX4_init]
def wsX5_init_r3 : List Cond := [Cond.code yX4_init cX4_init 2 none, Cond.methodLink RX4 3 objectInit, Cond.fieldLink RX4 9 "TripleTrap$Trust" "levels" "[I"]
def wsX5_init : List Cond := .code yX5_init cX5_init 2 none :: ((wsX5_init_r1 ++ (wsX5_init_r2 ++ wsX5_init_r3)) ++ wsX20 ++ wsX50 ++ wsX10 ++ wsX30 ++ wsX40)
def wsX5_made : List Cond := .code yX5_made cX5_made 2 (some .int) :: ([.methodLink RX5 35 yX5_isBelow, .static yX5_isBelow, .initialized RX5, .code yX5_isBelow cX5_isBelow 2 (some .boolean), .static yX0_coded, .initialized RX0, .code yX0_coded cX0_coded 2 (some .int), .methodLink RX0 9 yX0_remainder, .static yX0_remainder, .code yX0_remainder cX0_remainder 3 (some .int)])
def wsX5_rest : List Cond := .code yX5_rest cX5_rest 2 (some .int) :: ([.constant RX5 45 (8388608), .methodLink RX5 35 yX5_isBelow, .static yX5_isBelow, .initialized RX5, .code yX5_isBelow cX5_isBelow 2 (some .boolean), .static yX0_remainder, .initialized RX0, .code yX0_remainder cX0_remainder 3 (some .int)])
def wsX5_of_r1 : List Cond := [Cond.constant RX5 45 (8388608), Cond.fieldLink RX5 12 "TripleTrap" "mender" "LTripleTrap$Mender;", Cond.methodLink RX5 35 yX5_isBelow, Cond.static yX5_isBelow, Cond.initialized RX5, Cond.code yX5_isBelow cX5_isBelow 2 (some .boolean), Cond.methodLink RX5 49 yJ6_bitCount_0f7a4, Cond.static yJ6_bitCount_0f7a4, Cond.initialized RJ6, Cond.code yJ6_bitCount_0f7a4 cJ6_bitCount_0f7a4 1 (some .int), Cond.constant RJ6 265 (1431655765), Cond.constant RJ6 266 (858993459), Cond.constant RJ6 267 (252645135), Cond.instanceMethod yX2_nearest, Cond.initialized RX2, Cond.selects RX2 yX2_nearest yX2_nearest, Cond.code yX2_nearest cX2_nearest 2 (some .int), Cond.methodLink RX2 29 yX2_errors, Cond.instanceMethod yX2_errors, Cond.selects RX2 yX2_errors yX2_errors, Cond.code yX2_errors cX2_errors 3 (some .int), Cond.fieldLink RX2 9 "TripleTrap$Mender" "errorsByRest" "[I", Cond.static yX0_remainder, Cond.initialized RX0]
def wsX5_of_r2 : List Cond := [Cond.code yX0_remainder cX0_remainder 3 (some .int), Cond.instanceMethod yX2_distance, Cond.selects RX2 yX2_distance yX2_distance, Cond.code yX2_distance cX2_distance 2 (some .int), Cond.methodLink RX2 32 yJ6_bitCount_0f7a4, Cond.static yX0_message, Cond.code yX0_message cX0_message 1 (some .int)]
def wsX5_of : List Cond := .code yX5_of cX5_of 3 (some .int) :: ((wsX5_of_r1 ++ wsX5_of_r2) ++ wsX50 ++ wsX20)
def wsX5_codeWordsAt : List Cond := .code yX5_codeWordsAt cX5_codeWordsAt 2 (some .int) :: ([.fieldLink RX5 152 "TripleTrap" "AROUND" "[I", .methodLink RX5 35 yX5_isBelow, .static yX5_isBelow, .initialized RX5, .code yX5_isBelow cX5_isBelow 2 (some .boolean)])
def wsX5_around_r1 : List Cond := [Cond.constant RX5 45 (8388608), Cond.fieldLink RX5 12 "TripleTrap" "mender" "LTripleTrap$Mender;", Cond.methodLink RX5 35 yX5_isBelow, Cond.static yX5_isBelow, Cond.initialized RX5, Cond.code yX5_isBelow cX5_isBelow 2 (some .boolean), Cond.instanceMethod yX2_distance, Cond.initialized RX2, Cond.selects RX2 yX2_distance yX2_distance, Cond.code yX2_distance cX2_distance 2 (some .int), Cond.methodLink RX2 29 yX2_errors, Cond.instanceMethod yX2_errors, Cond.selects RX2 yX2_errors yX2_errors, Cond.code yX2_errors cX2_errors 3 (some .int), Cond.fieldLink RX2 9 "TripleTrap$Mender" "errorsByRest" "[I", Cond.static yX0_remainder, Cond.initialized RX0, Cond.code yX0_remainder cX0_remainder 3 (some .int), Cond.methodLink RX2 32 yJ6_bitCount_0f7a4, Cond.static yJ6_bitCount_0f7a4, Cond.initialized RJ6, Cond.code yJ6_bitCount_0f7a4 cJ6_bitCount_0f7a4 1 (some .int), Cond.constant RJ6 265 (1431655765), Cond.constant RJ6 266 (858993459)]
def wsX5_around_r2 : List Cond := [Cond.constant RJ6 267 (252645135), Cond.methodLink RX5 63 yX5_codeWordsAt, Cond.static yX5_codeWordsAt, Cond.code yX5_codeWordsAt cX5_codeWordsAt 2 (some .int), Cond.fieldLink RX5 152 "TripleTrap" "AROUND" "[I"]
def wsX5_around : List Cond := .code yX5_around cX5_around 3 (some .int) :: ((wsX5_around_r1 ++ wsX5_around_r2) ++ wsX50 ++ wsX20)
def wsX5_turned : List Cond := .code yX5_turned cX5_turned 3 (some .int) :: ([.constant RX5 45 (8388608), .methodLink RX5 35 yX5_isBelow, .static yX5_isBelow, .initialized RX5, .code yX5_isBelow cX5_isBelow 2 (some .boolean), .static yX0_turn, .initialized RX0, .code yX0_turn cX0_turn 2 (some .int), .constant RX0 20 (8388607)])
def wsX5_trapped_r1 : List Cond := [Cond.constant RX5 45 (8388608), Cond.methodLink RX5 35 yX5_isBelow, Cond.static yX5_isBelow, Cond.initialized RX5, Cond.code yX5_isBelow cX5_isBelow 2 (some .boolean), Cond.static yX0_turn, Cond.initialized RX0, Cond.code yX0_turn cX0_turn 2 (some .int), Cond.constant RX0 20 (8388607), Cond.static yX0_trapErrors, Cond.code yX0_trapErrors cX0_trapErrors 4 (some .int), Cond.constant RX0 25 (65536), Cond.constant RX0 26 (131072), Cond.methodLink RX0 9 yX0_remainder, Cond.static yX0_remainder, Cond.code yX0_remainder cX0_remainder 3 (some .int), Cond.methodLink RX0 15 yJ6_bitCount_0f7a4, Cond.static yJ6_bitCount_0f7a4, Cond.initialized RJ6, Cond.code yJ6_bitCount_0f7a4 cJ6_bitCount_0f7a4 1 (some .int), Cond.constant RJ6 265 (1431655765), Cond.constant RJ6 266 (858993459), Cond.constant RJ6 267 (252645135), Cond.static yX0_turnBack]
def wsX5_trapped_r2 : List Cond := [Cond.code yX0_turnBack cX0_turnBack 2 (some .int), Cond.methodLink RX0 21 yX0_turn]
def wsX5_trapped : List Cond := .code yX5_trapped cX5_trapped 7 (some .int) :: ((wsX5_trapped_r1 ++ wsX5_trapped_r2))
def wsX5_wide : List Cond := .code yX5_wide cX5_wide 2 (some .int) :: ([.methodLink RX5 35 yX5_isBelow, .static yX5_isBelow, .initialized RX5, .code yX5_isBelow cX5_isBelow 2 (some .boolean), .static yX0_coded, .initialized RX0, .code yX0_coded cX0_coded 2 (some .int), .methodLink RX0 9 yX0_remainder, .static yX0_remainder, .code yX0_remainder cX0_remainder 3 (some .int), .static yX0_widen, .code yX0_widen cX0_widen 1 (some .int), .methodLink RX0 15 yJ6_bitCount_0f7a4, .static yJ6_bitCount_0f7a4, .initialized RJ6, .code yJ6_bitCount_0f7a4 cJ6_bitCount_0f7a4 1 (some .int), .constant RJ6 265 (1431655765), .constant RJ6 266 (858993459), .constant RJ6 267 (252645135)])
def wsX5_read_r1 : List Cond := [Cond.constant RX5 79 (16777216), Cond.fieldLink RX5 12 "TripleTrap" "mender" "LTripleTrap$Mender;", Cond.constant RX5 80 (8388607), Cond.methodLink RX5 35 yX5_isBelow, Cond.static yX5_isBelow, Cond.initialized RX5, Cond.code yX5_isBelow cX5_isBelow 2 (some .boolean), Cond.instanceMethod yX2_nearest, Cond.initialized RX2, Cond.selects RX2 yX2_nearest yX2_nearest, Cond.code yX2_nearest cX2_nearest 2 (some .int), Cond.methodLink RX2 29 yX2_errors, Cond.instanceMethod yX2_errors, Cond.selects RX2 yX2_errors yX2_errors, Cond.code yX2_errors cX2_errors 3 (some .int), Cond.fieldLink RX2 9 "TripleTrap$Mender" "errorsByRest" "[I", Cond.static yX0_remainder, Cond.initialized RX0, Cond.code yX0_remainder cX0_remainder 3 (some .int), Cond.static yX0_widen, Cond.code yX0_widen cX0_widen 1 (some .int), Cond.methodLink RX0 15 yJ6_bitCount_0f7a4, Cond.static yJ6_bitCount_0f7a4, Cond.initialized RJ6]
def wsX5_read_r2 : List Cond := [Cond.code yJ6_bitCount_0f7a4 cJ6_bitCount_0f7a4 1 (some .int), Cond.constant RJ6 265 (1431655765), Cond.constant RJ6 266 (858993459), Cond.constant RJ6 267 (252645135), Cond.methodLink RX5 49 yJ6_bitCount_0f7a4, Cond.static yX0_message, Cond.code yX0_message cX0_message 1 (some .int)]
def wsX5_read : List Cond := .code yX5_read cX5_read 5 (some .int) :: ((wsX5_read_r1 ++ wsX5_read_r2) ++ wsX50 ++ wsX20)
def wsX5_isMove : List Cond := .code yX5_isMove cX5_isMove 2 (some .boolean) :: ([.methodLink RX5 35 yX5_isBelow, .static yX5_isBelow, .initialized RX5, .code yX5_isBelow cX5_isBelow 2 (some .boolean)])
def wsX5_keeps : List Cond := .code yX5_keeps cX5_keeps 3 (some .int) :: ([.methodLink RX5 81 yX5_isMove, .static yX5_isMove, .initialized RX5, .code yX5_isMove cX5_isMove 2 (some .boolean), .methodLink RX5 35 yX5_isBelow, .static yX5_isBelow, .code yX5_isBelow cX5_isBelow 2 (some .boolean), .static yX0_staysInCode, .initialized RX0, .code yX0_staysInCode cX0_staysInCode 3 (some .boolean), .methodLink RX0 31 yX0_carry, .static yX0_carry, .code yX0_carry cX0_carry 5 (some .int), .methodLink RX0 27 yX0_target, .static yX0_target, .code yX0_target cX0_target 3 (some .int), .methodLink RX0 9 yX0_remainder, .static yX0_remainder, .code yX0_remainder cX0_remainder 3 (some .int)])
def wsX5_moved : List Cond := .code yX5_moved cX5_moved 4 (some .int) :: ([.constant RX5 45 (8388608), .methodLink RX5 35 yX5_isBelow, .static yX5_isBelow, .initialized RX5, .code yX5_isBelow cX5_isBelow 2 (some .boolean), .methodLink RX5 81 yX5_isMove, .static yX5_isMove, .code yX5_isMove cX5_isMove 2 (some .boolean), .static yX0_carry, .initialized RX0, .code yX0_carry cX0_carry 5 (some .int), .methodLink RX0 27 yX0_target, .static yX0_target, .code yX0_target cX0_target 3 (some .int)])
def wsX5_move_r1 : List Cond := [Cond.fieldLink RX5 19 "TripleTrap" "now" "LTripleTrap$Held;", Cond.methodLink RX5 81 yX5_isMove, Cond.static yX5_isMove, Cond.initialized RX5, Cond.code yX5_isMove cX5_isMove 2 (some .boolean), Cond.methodLink RX5 35 yX5_isBelow, Cond.static yX5_isBelow, Cond.code yX5_isBelow cX5_isBelow 2 (some .boolean), Cond.static yX0_staysInCode, Cond.initialized RX0, Cond.code yX0_staysInCode cX0_staysInCode 3 (some .boolean), Cond.methodLink RX0 31 yX0_carry, Cond.static yX0_carry, Cond.code yX0_carry cX0_carry 5 (some .int), Cond.methodLink RX0 27 yX0_target, Cond.static yX0_target, Cond.code yX0_target cX0_target 3 (some .int), Cond.methodLink RX0 9 yX0_remainder, Cond.static yX0_remainder, Cond.code yX0_remainder cX0_remainder 3 (some .int), Cond.instanceMethod yX3_append, Cond.initialized RX3, Cond.selects RX3 yX3_append yX3_append, Cond.code yX3_append cX3_append 3 none]
def wsX5_move_r2 : List Cond := [Cond.fieldLink RX3 9 "TripleTrap$Moves" "size" "I", Cond.fieldLink RX3 15 "TripleTrap$Moves" "factors" "[I", Cond.fieldLink RX3 19 "TripleTrap$Moves" "shifts" "[I", Cond.fieldLink RX3 22 "TripleTrap$Moves" "brought" "[I", Cond.static yX0_carryBack, Cond.code yX0_carryBack cX0_carryBack 5 (some .int)]
def wsX5_move : List Cond := .code yX5_move cX5_move 3 (some .int) :: ((wsX5_move_r1 ++ wsX5_move_r2) ++ wsX50 ++ wsX10 ++ wsX30)
def wsX5_drop : List Cond := .code yX5_drop cX5_drop 2 (some .int) :: ([.fieldLink RX5 19 "TripleTrap" "now" "LTripleTrap$Held;", .methodLink RX5 35 yX5_isBelow, .static yX5_isBelow, .initialized RX5, .code yX5_isBelow cX5_isBelow 2 (some .boolean), .instanceMethod yX3_removeAt, .initialized RX3, .selects RX3 yX3_removeAt yX3_removeAt, .code yX3_removeAt cX3_removeAt 3 none, .fieldLink RX3 9 "TripleTrap$Moves" "size" "I", .fieldLink RX3 15 "TripleTrap$Moves" "factors" "[I", .fieldLink RX3 19 "TripleTrap$Moves" "shifts" "[I", .fieldLink RX3 22 "TripleTrap$Moves" "brought" "[I"] ++ wsX50 ++ wsX10 ++ wsX30)
def wsX5_told : List Cond := .code yX5_told cX5_told 3 (some .int) :: ([.fieldLink RX5 19 "TripleTrap" "now" "LTripleTrap$Held;", .methodLink RX5 35 yX5_isBelow, .static yX5_isBelow, .initialized RX5, .code yX5_isBelow cX5_isBelow 2 (some .boolean), .instanceMethod yX3_coveredByFirst, .initialized RX3, .selects RX3 yX3_coveredByFirst yX3_coveredByFirst, .code yX3_coveredByFirst cX3_coveredByFirst 5 (some .int), .methodLink RX3 35 yX3_joined, .instanceMethod yX3_joined, .selects RX3 yX3_joined yX3_joined, .code yX3_joined cX3_joined 7 (some .int), .fieldLink RX3 9 "TripleTrap$Moves" "size" "I", .fieldLink RX3 22 "TripleTrap$Moves" "brought" "[I", .methodLink RX3 38 yJ6_bitCount_0f7a4, .static yJ6_bitCount_0f7a4, .initialized RJ6, .code yJ6_bitCount_0f7a4 cJ6_bitCount_0f7a4 1 (some .int), .constant RJ6 265 (1431655765), .constant RJ6 266 (858993459), .constant RJ6 267 (252645135)] ++ wsX50 ++ wsX10 ++ wsX30)
def wsX5_freed : List Cond := .code yX5_freed cX5_freed 7 (some .int) :: ([.constant RX5 45 (8388608), .fieldLink RX5 19 "TripleTrap" "now" "LTripleTrap$Held;", .methodLink RX5 35 yX5_isBelow, .static yX5_isBelow, .initialized RX5, .code yX5_isBelow cX5_isBelow 2 (some .boolean), .static yX0_carry, .initialized RX0, .code yX0_carry cX0_carry 5 (some .int), .methodLink RX0 27 yX0_target, .static yX0_target, .code yX0_target cX0_target 3 (some .int), .static yX0_remainder, .code yX0_remainder cX0_remainder 3 (some .int), .methodLink RX5 49 yJ6_bitCount_0f7a4, .static yJ6_bitCount_0f7a4, .initialized RJ6, .code yJ6_bitCount_0f7a4 cJ6_bitCount_0f7a4 1 (some .int), .constant RJ6 265 (1431655765), .constant RJ6 266 (858993459), .constant RJ6 267 (252645135), .static yX0_carryBack, .code yX0_carryBack cX0_carryBack 5 (some .int)] ++ wsX50 ++ wsX10 ++ wsX30)
def wsX5_open : List Cond := .code yX5_open cX5_open 2 (some .int) :: ([.fieldLink RX5 19 "TripleTrap" "now" "LTripleTrap$Held;", .instanceMethod yX3_coveredByFirst, .initialized RX3, .selects RX3 yX3_coveredByFirst yX3_coveredByFirst, .code yX3_coveredByFirst cX3_coveredByFirst 5 (some .int), .methodLink RX3 35 yX3_joined, .instanceMethod yX3_joined, .selects RX3 yX3_joined yX3_joined, .code yX3_joined cX3_joined 7 (some .int), .fieldLink RX3 9 "TripleTrap$Moves" "size" "I", .fieldLink RX3 22 "TripleTrap$Moves" "brought" "[I", .methodLink RX3 38 yJ6_bitCount_0f7a4, .static yJ6_bitCount_0f7a4, .initialized RJ6, .code yJ6_bitCount_0f7a4 cJ6_bitCount_0f7a4 1 (some .int), .constant RJ6 265 (1431655765), .constant RJ6 266 (858993459), .constant RJ6 267 (252645135), .instanceMethod yX3_firstNotCovered, .selects RX3 yX3_firstNotCovered yX3_firstNotCovered, .code yX3_firstNotCovered cX3_firstNotCovered 5 (some .int)] ++ wsX50 ++ wsX10 ++ wsX30)
def wsX5_sure : List Cond := .code yX5_sure cX5_sure 4 (some .int) :: ([.fieldLink RX5 19 "TripleTrap" "now" "LTripleTrap$Held;", .methodLink RX5 35 yX5_isBelow, .static yX5_isBelow, .initialized RX5, .code yX5_isBelow cX5_isBelow 2 (some .boolean)] ++ wsX50 ++ wsX10 ++ wsX40)
def wsX5_weak : List Cond := .code yX5_weak cX5_weak 4 (some .int) :: ([.fieldLink RX5 19 "TripleTrap" "now" "LTripleTrap$Held;", .methodLink RX5 35 yX5_isBelow, .static yX5_isBelow, .initialized RX5, .code yX5_isBelow cX5_isBelow 2 (some .boolean), .instanceMethod yX4_weakestBut, .initialized RX4, .selects RX4 yX4_weakestBut yX4_weakestBut, .code yX4_weakestBut cX4_weakestBut 5 (some .int), .fieldLink RX4 9 "TripleTrap$Trust" "levels" "[I"] ++ wsX50 ++ wsX10 ++ wsX40)
def wsX5_fillTries : List Cond := .code yX5_fillTries cX5_fillTries 8 none :: ([.fieldLink RX5 31 "TripleTrap" "tries" "[I", .fieldLink RX5 19 "TripleTrap" "now" "LTripleTrap$Held;", .fieldLink RX5 12 "TripleTrap" "mender" "LTripleTrap$Mender;", .instanceMethod yX4_weakestBut, .initialized RX4, .selects RX4 yX4_weakestBut yX4_weakestBut, .code yX4_weakestBut cX4_weakestBut 5 (some .int), .fieldLink RX4 9 "TripleTrap$Trust" "levels" "[I", .instanceMethod yX2_nearest, .initialized RX2, .selects RX2 yX2_nearest yX2_nearest, .code yX2_nearest cX2_nearest 2 (some .int), .methodLink RX2 29 yX2_errors, .instanceMethod yX2_errors, .selects RX2 yX2_errors yX2_errors, .code yX2_errors cX2_errors 3 (some .int), .fieldLink RX2 9 "TripleTrap$Mender" "errorsByRest" "[I", .static yX0_remainder, .initialized RX0, .code yX0_remainder cX0_remainder 3 (some .int), .static yX5_isBelow, .initialized RX5, .code yX5_isBelow cX5_isBelow 2 (some .boolean)] ++ wsX50 ++ wsX10 ++ wsX40 ++ wsX20)
def wsX5_isFirstOfItsWord : List Cond := .code yX5_isFirstOfItsWord cX5_isFirstOfItsWord 3 (some .boolean) :: ([.fieldLink RX5 31 "TripleTrap" "tries" "[I"] ++ wsX50)
def wsX5_unlikeTries : List Cond := .code yX5_unlikeTries cX5_unlikeTries 4 (some .int) :: ([.methodLink RX5 155 yX5_isFirstOfItsWord, .instanceMethod yX5_isFirstOfItsWord, .selects RX5 yX5_isFirstOfItsWord yX5_isFirstOfItsWord, .initialized RX5, .code yX5_isFirstOfItsWord cX5_isFirstOfItsWord 3 (some .boolean), .fieldLink RX5 31 "TripleTrap" "tries" "[I"] ++ wsX50)
def wsX5_bestTry : List Cond := .code yX5_bestTry cX5_bestTry 7 (some .int) :: ([.fieldLink RX5 19 "TripleTrap" "now" "LTripleTrap$Held;", .fieldLink RX5 31 "TripleTrap" "tries" "[I", .instanceMethod yX4_sum, .initialized RX4, .selects RX4 yX4_sum yX4_sum, .code yX4_sum cX4_sum 4 (some .int), .fieldLink RX4 9 "TripleTrap$Trust" "levels" "[I"] ++ wsX50 ++ wsX10 ++ wsX40)
def wsX5_chosen_r1 : List Cond := [Cond.constant RX5 45 (8388608), Cond.fieldLink RX5 31 "TripleTrap" "tries" "[I", Cond.fieldLink RX5 19 "TripleTrap" "now" "LTripleTrap$Held;", Cond.methodLink RX5 35 yX5_isBelow, Cond.static yX5_isBelow, Cond.initialized RX5, Cond.code yX5_isBelow cX5_isBelow 2 (some .boolean), Cond.methodLink RX5 136 yX5_fillTries, Cond.instanceMethod yX5_fillTries, Cond.selects RX5 yX5_fillTries yX5_fillTries, Cond.code yX5_fillTries cX5_fillTries 8 none, Cond.fieldLink RX5 12 "TripleTrap" "mender" "LTripleTrap$Mender;", Cond.instanceMethod yX4_weakestBut, Cond.initialized RX4, Cond.selects RX4 yX4_weakestBut yX4_weakestBut, Cond.code yX4_weakestBut cX4_weakestBut 5 (some .int), Cond.fieldLink RX4 9 "TripleTrap$Trust" "levels" "[I", Cond.instanceMethod yX2_nearest, Cond.initialized RX2, Cond.selects RX2 yX2_nearest yX2_nearest, Cond.code yX2_nearest cX2_nearest 2 (some .int), Cond.methodLink RX2 29 yX2_errors, Cond.instanceMethod yX2_errors, Cond.selects RX2 yX2_errors yX2_errors]
def wsX5_chosen_r2 : List Cond := [Cond.code yX2_errors cX2_errors 3 (some .int), Cond.fieldLink RX2 9 "TripleTrap$Mender" "errorsByRest" "[I", Cond.static yX0_remainder, Cond.initialized RX0, Cond.code yX0_remainder cX0_remainder 3 (some .int), Cond.methodLink RX5 139 yX5_unlikeTries, Cond.instanceMethod yX5_unlikeTries, Cond.selects RX5 yX5_unlikeTries yX5_unlikeTries, Cond.code yX5_unlikeTries cX5_unlikeTries 4 (some .int), Cond.methodLink RX5 155 yX5_isFirstOfItsWord, Cond.instanceMethod yX5_isFirstOfItsWord, Cond.selects RX5 yX5_isFirstOfItsWord yX5_isFirstOfItsWord, Cond.code yX5_isFirstOfItsWord cX5_isFirstOfItsWord 3 (some .boolean), Cond.methodLink RX5 142 yX5_bestTry, Cond.instanceMethod yX5_bestTry, Cond.selects RX5 yX5_bestTry yX5_bestTry, Cond.code yX5_bestTry cX5_bestTry 7 (some .int), Cond.instanceMethod yX4_sum, Cond.selects RX4 yX4_sum yX4_sum, Cond.code yX4_sum cX4_sum 4 (some .int)]
def wsX5_chosen : List Cond := .code yX5_chosen cX5_chosen 6 (some .int) :: ((wsX5_chosen_r1 ++ wsX5_chosen_r2) ++ wsX50 ++ wsX10 ++ wsX40 ++ wsX20)
def wsX5_image_r1 : List Cond := [Cond.fieldLink RX5 23 "TripleTrap" "images" "[LTripleTrap$Held;", Cond.fieldLink RX5 19 "TripleTrap" "now" "LTripleTrap$Held;", Cond.fieldLink RX5 27 "TripleTrap" "imagesKept" "I", Cond.methodLink RX5 35 yX5_isBelow, Cond.static yX5_isBelow, Cond.initialized RX5, Cond.code yX5_isBelow cX5_isBelow 2 (some .boolean), Cond.instanceMethod yX1_copyFrom, Cond.initialized RX1, Cond.selects RX1 yX1_copyFrom yX1_copyFrom, Cond.code yX1_copyFrom cX1_copyFrom 2 none, Cond.fieldLink RX1 10 "TripleTrap$Held" "moves" "LTripleTrap$Moves;", Cond.fieldLink RX1 19 "TripleTrap$Held" "trust" "LTripleTrap$Trust;", Cond.instanceMethod yX3_copyFrom, Cond.initialized RX3, Cond.selects RX3 yX3_copyFrom yX3_copyFrom, Cond.code yX3_copyFrom cX3_copyFrom 3 none, Cond.fieldLink RX3 9 "TripleTrap$Moves" "size" "I", Cond.fieldLink RX3 15 "TripleTrap$Moves" "factors" "[I", Cond.fieldLink RX3 19 "TripleTrap$Moves" "shifts" "[I", Cond.fieldLink RX3 22 "TripleTrap$Moves" "brought" "[I", Cond.instanceMethod yX4_copyFrom, Cond.initialized RX4, Cond.selects RX4 yX4_copyFrom yX4_copyFrom]
def wsX5_image_r2 : List Cond := [Cond.code yX4_copyFrom cX4_copyFrom 3 none, Cond.fieldLink RX4 9 "TripleTrap$Trust" "levels" "[I"]
def wsX5_image : List Cond := .code yX5_image cX5_image 2 (some .int) :: ((wsX5_image_r1 ++ wsX5_image_r2) ++ wsX50 ++ wsX10 ++ wsX30 ++ wsX40)
def wsX5_restore_r1 : List Cond := [Cond.fieldLink RX5 27 "TripleTrap" "imagesKept" "I", Cond.fieldLink RX5 19 "TripleTrap" "now" "LTripleTrap$Held;", Cond.fieldLink RX5 23 "TripleTrap" "images" "[LTripleTrap$Held;", Cond.methodLink RX5 35 yX5_isBelow, Cond.static yX5_isBelow, Cond.initialized RX5, Cond.code yX5_isBelow cX5_isBelow 2 (some .boolean), Cond.instanceMethod yX1_copyFrom, Cond.initialized RX1, Cond.selects RX1 yX1_copyFrom yX1_copyFrom, Cond.code yX1_copyFrom cX1_copyFrom 2 none, Cond.fieldLink RX1 10 "TripleTrap$Held" "moves" "LTripleTrap$Moves;", Cond.fieldLink RX1 19 "TripleTrap$Held" "trust" "LTripleTrap$Trust;", Cond.instanceMethod yX3_copyFrom, Cond.initialized RX3, Cond.selects RX3 yX3_copyFrom yX3_copyFrom, Cond.code yX3_copyFrom cX3_copyFrom 3 none, Cond.fieldLink RX3 9 "TripleTrap$Moves" "size" "I", Cond.fieldLink RX3 15 "TripleTrap$Moves" "factors" "[I", Cond.fieldLink RX3 19 "TripleTrap$Moves" "shifts" "[I", Cond.fieldLink RX3 22 "TripleTrap$Moves" "brought" "[I", Cond.instanceMethod yX4_copyFrom, Cond.initialized RX4, Cond.selects RX4 yX4_copyFrom yX4_copyFrom]
def wsX5_restore_r2 : List Cond := [Cond.code yX4_copyFrom cX4_copyFrom 3 none, Cond.fieldLink RX4 9 "TripleTrap$Trust" "levels" "[I"]
def wsX5_restore : List Cond := .code yX5_restore cX5_restore 2 (some .int) :: ((wsX5_restore_r1 ++ wsX5_restore_r2) ++ wsX50 ++ wsX10 ++ wsX30 ++ wsX40)
def wsX5_count : List Cond := .code yX5_count cX5_count 2 (some .int) :: ([.fieldLink RX5 19 "TripleTrap" "now" "LTripleTrap$Held;", .constant RX5 80 (8388607), .fieldLink RX5 27 "TripleTrap" "imagesKept" "I", .instanceMethod yX4_sum, .initialized RX4, .selects RX4 yX4_sum yX4_sum, .code yX4_sum cX4_sum 4 (some .int), .fieldLink RX4 9 "TripleTrap$Trust" "levels" "[I", .methodLink RX5 63 yX5_codeWordsAt, .static yX5_codeWordsAt, .initialized RX5, .code yX5_codeWordsAt cX5_codeWordsAt 2 (some .int), .fieldLink RX5 152 "TripleTrap" "AROUND" "[I", .methodLink RX5 35 yX5_isBelow, .static yX5_isBelow, .code yX5_isBelow cX5_isBelow 2 (some .boolean)] ++ wsX50 ++ wsX10 ++ wsX30 ++ wsX40)
def wsX6_restOf : List Cond := .code yX6_restOf cX6_restOf 3 (some .int) :: ([])
def wsX6_layErrors : List Cond := .code yX6_layErrors cX6_layErrors 2 none :: ([.fieldLink RX6 20 "TripleTrapModel" "errorsOf" "[I", .methodLink RX6 30 yX6_restOf, .static yX6_restOf, .initialized RX6, .code yX6_restOf cX6_restOf 3 (some .int)] ++ wsX60)
def wsX6_init : List Cond := .code yX6_init cX6_init 4 none :: ([.methodLink RX6 1 objectInit, .instanceMethod objectInit, .code objectInit ⟨#[0xb1]⟩ 1 none, .arrayClass .int, .fieldLink RX6 7 "TripleTrapModel" "state" "[I", .fieldLink RX6 13 "TripleTrapModel" "images" "[I", .arrayClass .boolean, .fieldLink RX6 16 "TripleTrapModel" "isKept" "[Z", .fieldLink RX6 20 "TripleTrapModel" "errorsOf" "[I", .fieldLink RX6 23 "TripleTrapModel" "comes" "[I", .methodLink RX6 26 yX6_layErrors, .instanceMethod yX6_layErrors, .selects RX6 yX6_layErrors yX6_layErrors, .initialized RX6, .code yX6_layErrors cX6_layErrors 2 none, .methodLink RX6 30 yX6_restOf, .static yX6_restOf, .code yX6_restOf cX6_restOf 3 (some .int)] ++ wsX60)
def wsX6_in : List Cond := .code yX6_in cX6_in 3 (some .boolean) :: ([])
def wsX6_isWord : List Cond := .code yX6_isWord cX6_isWord 1 (some .boolean) :: ([.constant RX6 34 (8388607), .methodLink RX6 35 yX6_in, .static yX6_in, .initialized RX6, .code yX6_in cX6_in 3 (some .boolean)])
def wsX6_isMessage : List Cond := .code yX6_isMessage cX6_isMessage 1 (some .boolean) :: ([.methodLink RX6 35 yX6_in, .static yX6_in, .initialized RX6, .code yX6_in cX6_in 3 (some .boolean)])
def wsX6_weight : List Cond := .code yX6_weight cX6_weight 3 (some .int) :: ([])
def wsX6_madeOf : List Cond := .code yX6_madeOf cX6_madeOf 2 (some .int) :: ([.methodLink RX6 30 yX6_restOf, .static yX6_restOf, .initialized RX6, .code yX6_restOf cX6_restOf 3 (some .int)])
def wsX6_nearest : List Cond := .code yX6_nearest cX6_nearest 2 (some .int) :: ([.fieldLink RX6 20 "TripleTrapModel" "errorsOf" "[I", .methodLink RX6 30 yX6_restOf, .static yX6_restOf, .initialized RX6, .code yX6_restOf cX6_restOf 3 (some .int)] ++ wsX60)
def wsX6_made : List Cond := .code yX6_made cX6_made 2 (some .int) :: ([.methodLink RX6 39 yX6_isMessage, .static yX6_isMessage, .initialized RX6, .code yX6_isMessage cX6_isMessage 1 (some .boolean), .methodLink RX6 35 yX6_in, .static yX6_in, .code yX6_in cX6_in 3 (some .boolean), .methodLink RX6 43 yX6_madeOf, .static yX6_madeOf, .code yX6_madeOf cX6_madeOf 2 (some .int), .methodLink RX6 30 yX6_restOf, .static yX6_restOf, .code yX6_restOf cX6_restOf 3 (some .int)])
def wsX6_rest : List Cond := .code yX6_rest cX6_rest 2 (some .int) :: ([.methodLink RX6 46 yX6_isWord, .static yX6_isWord, .initialized RX6, .code yX6_isWord cX6_isWord 1 (some .boolean), .constant RX6 34 (8388607), .methodLink RX6 35 yX6_in, .static yX6_in, .code yX6_in cX6_in 3 (some .boolean), .methodLink RX6 30 yX6_restOf, .static yX6_restOf, .code yX6_restOf cX6_restOf 3 (some .int)])
def wsX6_of : List Cond := .code yX6_of cX6_of 3 (some .int) :: ([.fieldLink RX6 20 "TripleTrapModel" "errorsOf" "[I", .methodLink RX6 46 yX6_isWord, .static yX6_isWord, .initialized RX6, .code yX6_isWord cX6_isWord 1 (some .boolean), .constant RX6 34 (8388607), .methodLink RX6 35 yX6_in, .static yX6_in, .code yX6_in cX6_in 3 (some .boolean), .methodLink RX6 49 yX6_weight, .static yX6_weight, .code yX6_weight cX6_weight 3 (some .int), .methodLink RX6 52 yX6_nearest, .instanceMethod yX6_nearest, .selects RX6 yX6_nearest yX6_nearest, .code yX6_nearest cX6_nearest 2 (some .int), .methodLink RX6 30 yX6_restOf, .static yX6_restOf, .code yX6_restOf cX6_restOf 3 (some .int)] ++ wsX60)
def wsX6_around : List Cond := .code yX6_around cX6_around 5 (some .int) :: ([.methodLink RX6 46 yX6_isWord, .static yX6_isWord, .initialized RX6, .code yX6_isWord cX6_isWord 1 (some .boolean), .constant RX6 34 (8388607), .methodLink RX6 35 yX6_in, .static yX6_in, .code yX6_in cX6_in 3 (some .boolean), .methodLink RX6 43 yX6_madeOf, .static yX6_madeOf, .code yX6_madeOf cX6_madeOf 2 (some .int), .methodLink RX6 30 yX6_restOf, .static yX6_restOf, .code yX6_restOf cX6_restOf 3 (some .int), .methodLink RX6 49 yX6_weight, .static yX6_weight, .code yX6_weight cX6_weight 3 (some .int)])
def wsX6_turn : List Cond := .code yX6_turn cX6_turn 4 (some .int) :: ([])
def wsX6_turned : List Cond := .code yX6_turned cX6_turned 3 (some .int) :: ([.methodLink RX6 46 yX6_isWord, .static yX6_isWord, .initialized RX6, .code yX6_isWord cX6_isWord 1 (some .boolean), .constant RX6 34 (8388607), .methodLink RX6 35 yX6_in, .static yX6_in, .code yX6_in cX6_in 3 (some .boolean), .methodLink RX6 55 yX6_turn, .static yX6_turn, .code yX6_turn cX6_turn 4 (some .int)])
def wsX6_caught : List Cond := .code yX6_caught cX6_caught 4 (some .int) :: ([.methodLink RX6 30 yX6_restOf, .static yX6_restOf, .initialized RX6, .code yX6_restOf cX6_restOf 3 (some .int), .methodLink RX6 49 yX6_weight, .static yX6_weight, .code yX6_weight cX6_weight 3 (some .int)])
def wsX6_trapped : List Cond := .code yX6_trapped cX6_trapped 6 (some .int) :: ([.methodLink RX6 46 yX6_isWord, .static yX6_isWord, .initialized RX6, .code yX6_isWord cX6_isWord 1 (some .boolean), .constant RX6 34 (8388607), .methodLink RX6 35 yX6_in, .static yX6_in, .code yX6_in cX6_in 3 (some .boolean), .methodLink RX6 55 yX6_turn, .static yX6_turn, .code yX6_turn cX6_turn 4 (some .int), .methodLink RX6 59 yX6_caught, .static yX6_caught, .code yX6_caught cX6_caught 4 (some .int), .methodLink RX6 30 yX6_restOf, .static yX6_restOf, .code yX6_restOf cX6_restOf 3 (some .int), .methodLink RX6 49 yX6_weight, .static yX6_weight, .code yX6_weight cX6_weight 3 (some .int)])
def wsX6_widened : List Cond := .code yX6_widened cX6_widened 1 (some .int) :: ([.methodLink RX6 49 yX6_weight, .static yX6_weight, .initialized RX6, .code yX6_weight cX6_weight 3 (some .int)])
def wsX6_wide : List Cond := .code yX6_wide cX6_wide 2 (some .int) :: ([.methodLink RX6 39 yX6_isMessage, .static yX6_isMessage, .initialized RX6, .code yX6_isMessage cX6_isMessage 1 (some .boolean), .methodLink RX6 35 yX6_in, .static yX6_in, .code yX6_in cX6_in 3 (some .boolean), .methodLink RX6 43 yX6_madeOf, .static yX6_madeOf, .code yX6_madeOf cX6_madeOf 2 (some .int), .methodLink RX6 30 yX6_restOf, .static yX6_restOf, .code yX6_restOf cX6_restOf 3 (some .int), .methodLink RX6 62 yX6_widened, .static yX6_widened, .code yX6_widened cX6_widened 1 (some .int), .methodLink RX6 49 yX6_weight, .static yX6_weight, .code yX6_weight cX6_weight 3 (some .int)])
def wsX6_read : List Cond := .code yX6_read cX6_read 5 (some .int) :: ([.constant RX6 65 (16777215), .constant RX6 66 (8388608), .methodLink RX6 35 yX6_in, .static yX6_in, .initialized RX6, .code yX6_in cX6_in 3 (some .boolean), .methodLink RX6 52 yX6_nearest, .instanceMethod yX6_nearest, .selects RX6 yX6_nearest yX6_nearest, .code yX6_nearest cX6_nearest 2 (some .int), .fieldLink RX6 20 "TripleTrapModel" "errorsOf" "[I", .methodLink RX6 30 yX6_restOf, .static yX6_restOf, .code yX6_restOf cX6_restOf 3 (some .int), .methodLink RX6 62 yX6_widened, .static yX6_widened, .code yX6_widened cX6_widened 1 (some .int), .methodLink RX6 49 yX6_weight, .static yX6_weight, .code yX6_weight cX6_weight 3 (some .int)] ++ wsX60)
def wsX6_isMove : List Cond := .code yX6_isMove cX6_isMove 2 (some .boolean) :: ([.methodLink RX6 35 yX6_in, .static yX6_in, .initialized RX6, .code yX6_in cX6_in 3 (some .boolean)])
def wsX6_place : List Cond := .code yX6_place cX6_place 3 (some .int) :: ([])
def wsX6_go : List Cond := .code yX6_go cX6_go 5 (some .int) :: ([.methodLink RX6 67 yX6_place, .static yX6_place, .initialized RX6, .code yX6_place cX6_place 3 (some .int)])
def wsX6_goBack : List Cond := .code yX6_goBack cX6_goBack 5 (some .int) :: ([.methodLink RX6 67 yX6_place, .static yX6_place, .initialized RX6, .code yX6_place cX6_place 3 (some .int)])
def wsX6_keepsCode : List Cond := .code yX6_keepsCode cX6_keepsCode 4 (some .boolean) :: ([.methodLink RX6 43 yX6_madeOf, .static yX6_madeOf, .initialized RX6, .code yX6_madeOf cX6_madeOf 2 (some .int), .methodLink RX6 30 yX6_restOf, .static yX6_restOf, .code yX6_restOf cX6_restOf 3 (some .int), .methodLink RX6 71 yX6_go, .static yX6_go, .code yX6_go cX6_go 5 (some .int), .methodLink RX6 67 yX6_place, .static yX6_place, .code yX6_place cX6_place 3 (some .int)])
def wsX6_keeps : List Cond := .code yX6_keeps cX6_keeps 3 (some .int) :: ([.methodLink RX6 74 yX6_isMove, .static yX6_isMove, .initialized RX6, .code yX6_isMove cX6_isMove 2 (some .boolean), .methodLink RX6 35 yX6_in, .static yX6_in, .code yX6_in cX6_in 3 (some .boolean), .methodLink RX6 78 yX6_keepsCode, .static yX6_keepsCode, .code yX6_keepsCode cX6_keepsCode 4 (some .boolean), .methodLink RX6 43 yX6_madeOf, .static yX6_madeOf, .code yX6_madeOf cX6_madeOf 2 (some .int), .methodLink RX6 30 yX6_restOf, .static yX6_restOf, .code yX6_restOf cX6_restOf 3 (some .int), .methodLink RX6 71 yX6_go, .static yX6_go, .code yX6_go cX6_go 5 (some .int), .methodLink RX6 67 yX6_place, .static yX6_place, .code yX6_place cX6_place 3 (some .int)])
def wsX6_moved : List Cond := .code yX6_moved cX6_moved 4 (some .int) :: ([.methodLink RX6 46 yX6_isWord, .static yX6_isWord, .initialized RX6, .code yX6_isWord cX6_isWord 1 (some .boolean), .constant RX6 34 (8388607), .methodLink RX6 35 yX6_in, .static yX6_in, .code yX6_in cX6_in 3 (some .boolean), .methodLink RX6 74 yX6_isMove, .static yX6_isMove, .code yX6_isMove cX6_isMove 2 (some .boolean), .methodLink RX6 71 yX6_go, .static yX6_go, .code yX6_go cX6_go 5 (some .int), .methodLink RX6 67 yX6_place, .static yX6_place, .code yX6_place cX6_place 3 (some .int)])
def wsX6_move : List Cond := .code yX6_move cX6_move 4 (some .int) :: ([.fieldLink RX6 7 "TripleTrapModel" "state" "[I", .methodLink RX6 74 yX6_isMove, .static yX6_isMove, .initialized RX6, .code yX6_isMove cX6_isMove 2 (some .boolean), .methodLink RX6 35 yX6_in, .static yX6_in, .code yX6_in cX6_in 3 (some .boolean), .methodLink RX6 78 yX6_keepsCode, .static yX6_keepsCode, .code yX6_keepsCode cX6_keepsCode 4 (some .boolean), .methodLink RX6 43 yX6_madeOf, .static yX6_madeOf, .code yX6_madeOf cX6_madeOf 2 (some .int), .methodLink RX6 30 yX6_restOf, .static yX6_restOf, .code yX6_restOf cX6_restOf 3 (some .int), .methodLink RX6 71 yX6_go, .static yX6_go, .code yX6_go cX6_go 5 (some .int), .methodLink RX6 67 yX6_place, .static yX6_place, .code yX6_place cX6_place 3 (some .int)] ++ wsX60)
def wsX6_isThere : List Cond := .code yX6_isThere cX6_isThere 2 (some .boolean) :: ([.fieldLink RX6 7 "TripleTrapModel" "state" "[I", .methodLink RX6 35 yX6_in, .static yX6_in, .initialized RX6, .code yX6_in cX6_in 3 (some .boolean)] ++ wsX60)
def wsX6_drop : List Cond := .code yX6_drop cX6_drop 3 (some .int) :: ([.fieldLink RX6 7 "TripleTrapModel" "state" "[I", .methodLink RX6 81 yX6_isThere, .instanceMethod yX6_isThere, .selects RX6 yX6_isThere yX6_isThere, .initialized RX6, .code yX6_isThere cX6_isThere 2 (some .boolean), .methodLink RX6 35 yX6_in, .static yX6_in, .code yX6_in cX6_in 3 (some .boolean)] ++ wsX60)
def wsX6_bringsTo : List Cond := .code yX6_bringsTo cX6_bringsTo 3 (some .boolean) :: ([.fieldLink RX6 7 "TripleTrapModel" "state" "[I", .methodLink RX6 67 yX6_place, .static yX6_place, .initialized RX6, .code yX6_place cX6_place 3 (some .int)] ++ wsX60)
def wsX6_coveredBy : List Cond := .code yX6_coveredBy cX6_coveredBy 5 (some .int) :: ([.fieldLink RX6 7 "TripleTrapModel" "state" "[I", .methodLink RX6 84 yX6_bringsTo, .instanceMethod yX6_bringsTo, .selects RX6 yX6_bringsTo yX6_bringsTo, .initialized RX6, .code yX6_bringsTo cX6_bringsTo 3 (some .boolean), .methodLink RX6 67 yX6_place, .static yX6_place, .code yX6_place cX6_place 3 (some .int)] ++ wsX60)
def wsX6_layTriples : List Cond := .code yX6_layTriples cX6_layTriples 5 none :: ([.fieldLink RX6 87 "TripleTrapModel" "triples" "I", .fieldLink RX6 91 "TripleTrapModel" "firstTriple" "I", .methodLink RX6 94 yX6_coveredBy, .instanceMethod yX6_coveredBy, .selects RX6 yX6_coveredBy yX6_coveredBy, .initialized RX6, .code yX6_coveredBy cX6_coveredBy 5 (some .int), .fieldLink RX6 7 "TripleTrapModel" "state" "[I", .methodLink RX6 84 yX6_bringsTo, .instanceMethod yX6_bringsTo, .selects RX6 yX6_bringsTo yX6_bringsTo, .code yX6_bringsTo cX6_bringsTo 3 (some .boolean), .methodLink RX6 67 yX6_place, .static yX6_place, .code yX6_place cX6_place 3 (some .int)] ++ wsX60)
def wsX6_told_r1 : List Cond := [Cond.fieldLink RX6 7 "TripleTrapModel" "state" "[I", Cond.fieldLink RX6 87 "TripleTrapModel" "triples" "I", Cond.methodLink RX6 81 yX6_isThere, Cond.instanceMethod yX6_isThere, Cond.selects RX6 yX6_isThere yX6_isThere, Cond.initialized RX6, Cond.code yX6_isThere cX6_isThere 2 (some .boolean), Cond.methodLink RX6 35 yX6_in, Cond.static yX6_in, Cond.code yX6_in cX6_in 3 (some .boolean), Cond.methodLink RX6 97 yX6_layTriples, Cond.instanceMethod yX6_layTriples, Cond.selects RX6 yX6_layTriples yX6_layTriples, Cond.code yX6_layTriples cX6_layTriples 5 none, Cond.fieldLink RX6 91 "TripleTrapModel" "firstTriple" "I", Cond.methodLink RX6 94 yX6_coveredBy, Cond.instanceMethod yX6_coveredBy, Cond.selects RX6 yX6_coveredBy yX6_coveredBy, Cond.code yX6_coveredBy cX6_coveredBy 5 (some .int), Cond.methodLink RX6 84 yX6_bringsTo, Cond.instanceMethod yX6_bringsTo, Cond.selects RX6 yX6_bringsTo yX6_bringsTo, Cond.code yX6_bringsTo cX6_bringsTo 3 (some .boolean), Cond.methodLink RX6 67 yX6_place]
def wsX6_told_r2 : List Cond := [Cond.static yX6_place, Cond.code yX6_place cX6_place 3 (some .int)]
def wsX6_told : List Cond := .code yX6_told cX6_told 3 (some .int) :: ((wsX6_told_r1 ++ wsX6_told_r2) ++ wsX60)
def wsX6_freed : List Cond := .code yX6_freed cX6_freed 5 (some .int) :: ([.fieldLink RX6 7 "TripleTrapModel" "state" "[I", .methodLink RX6 46 yX6_isWord, .static yX6_isWord, .initialized RX6, .code yX6_isWord cX6_isWord 1 (some .boolean), .constant RX6 34 (8388607), .methodLink RX6 35 yX6_in, .static yX6_in, .code yX6_in cX6_in 3 (some .boolean), .methodLink RX6 71 yX6_go, .static yX6_go, .code yX6_go cX6_go 5 (some .int), .methodLink RX6 67 yX6_place, .static yX6_place, .code yX6_place cX6_place 3 (some .int), .methodLink RX6 30 yX6_restOf, .static yX6_restOf, .code yX6_restOf cX6_restOf 3 (some .int), .methodLink RX6 49 yX6_weight, .static yX6_weight, .code yX6_weight cX6_weight 3 (some .int), .methodLink RX6 100 yX6_goBack, .static yX6_goBack, .code yX6_goBack cX6_goBack 5 (some .int)] ++ wsX60)
def wsX6_open : List Cond := .code yX6_open cX6_open 2 (some .int) :: ([.fieldLink RX6 7 "TripleTrapModel" "state" "[I", .fieldLink RX6 87 "TripleTrapModel" "triples" "I", .fieldLink RX6 91 "TripleTrapModel" "firstTriple" "I", .methodLink RX6 35 yX6_in, .static yX6_in, .initialized RX6, .code yX6_in cX6_in 3 (some .boolean), .methodLink RX6 97 yX6_layTriples, .instanceMethod yX6_layTriples, .selects RX6 yX6_layTriples yX6_layTriples, .code yX6_layTriples cX6_layTriples 5 none, .methodLink RX6 94 yX6_coveredBy, .instanceMethod yX6_coveredBy, .selects RX6 yX6_coveredBy yX6_coveredBy, .code yX6_coveredBy cX6_coveredBy 5 (some .int), .methodLink RX6 84 yX6_bringsTo, .instanceMethod yX6_bringsTo, .selects RX6 yX6_bringsTo yX6_bringsTo, .code yX6_bringsTo cX6_bringsTo 3 (some .boolean), .methodLink RX6 67 yX6_place, .static yX6_place, .code yX6_place cX6_place 3 (some .int)] ++ wsX60)
def wsX6_isPlace : List Cond := .code yX6_isPlace cX6_isPlace 1 (some .boolean) :: ([.methodLink RX6 35 yX6_in, .static yX6_in, .initialized RX6, .code yX6_in cX6_in 3 (some .boolean)])
def wsX6_sure : List Cond := .code yX6_sure cX6_sure 4 (some .int) :: ([.fieldLink RX6 7 "TripleTrapModel" "state" "[I", .methodLink RX6 103 yX6_isPlace, .static yX6_isPlace, .initialized RX6, .code yX6_isPlace cX6_isPlace 1 (some .boolean), .methodLink RX6 35 yX6_in, .static yX6_in, .code yX6_in cX6_in 3 (some .boolean)] ++ wsX60)
def wsX6_weakAt : List Cond := .code yX6_weakAt cX6_weakAt 7 (some .int) :: ([.fieldLink RX6 7 "TripleTrapModel" "state" "[I"] ++ wsX60)
def wsX6_weak : List Cond := .code yX6_weak cX6_weak 2 (some .int) :: ([.methodLink RX6 35 yX6_in, .static yX6_in, .initialized RX6, .code yX6_in cX6_in 3 (some .boolean), .methodLink RX6 106 yX6_weakAt, .instanceMethod yX6_weakAt, .selects RX6 yX6_weakAt yX6_weakAt, .code yX6_weakAt cX6_weakAt 7 (some .int), .fieldLink RX6 7 "TripleTrapModel" "state" "[I"] ++ wsX60)
def wsX6_loss : List Cond := .code yX6_loss cX6_loss 5 (some .int) :: ([.fieldLink RX6 7 "TripleTrapModel" "state" "[I"] ++ wsX60)
def wsX6_layTries : List Cond := .code yX6_layTries cX6_layTries 6 none :: ([.fieldLink RX6 23 "TripleTrapModel" "comes" "[I", .methodLink RX6 106 yX6_weakAt, .instanceMethod yX6_weakAt, .selects RX6 yX6_weakAt yX6_weakAt, .initialized RX6, .code yX6_weakAt cX6_weakAt 7 (some .int), .fieldLink RX6 7 "TripleTrapModel" "state" "[I", .methodLink RX6 52 yX6_nearest, .instanceMethod yX6_nearest, .selects RX6 yX6_nearest yX6_nearest, .code yX6_nearest cX6_nearest 2 (some .int), .fieldLink RX6 20 "TripleTrapModel" "errorsOf" "[I", .methodLink RX6 30 yX6_restOf, .static yX6_restOf, .code yX6_restOf cX6_restOf 3 (some .int)] ++ wsX60)
def wsX6_unlike : List Cond := .code yX6_unlike cX6_unlike 6 (some .int) :: ([.fieldLink RX6 23 "TripleTrapModel" "comes" "[I"] ++ wsX60)
def wsX6_chosen_r1 : List Cond := [Cond.fieldLink RX6 23 "TripleTrapModel" "comes" "[I", Cond.methodLink RX6 46 yX6_isWord, Cond.static yX6_isWord, Cond.initialized RX6, Cond.code yX6_isWord cX6_isWord 1 (some .boolean), Cond.constant RX6 34 (8388607), Cond.methodLink RX6 35 yX6_in, Cond.static yX6_in, Cond.code yX6_in cX6_in 3 (some .boolean), Cond.methodLink RX6 109 yX6_layTries, Cond.instanceMethod yX6_layTries, Cond.selects RX6 yX6_layTries yX6_layTries, Cond.code yX6_layTries cX6_layTries 6 none, Cond.methodLink RX6 106 yX6_weakAt, Cond.instanceMethod yX6_weakAt, Cond.selects RX6 yX6_weakAt yX6_weakAt, Cond.code yX6_weakAt cX6_weakAt 7 (some .int), Cond.fieldLink RX6 7 "TripleTrapModel" "state" "[I", Cond.methodLink RX6 52 yX6_nearest, Cond.instanceMethod yX6_nearest, Cond.selects RX6 yX6_nearest yX6_nearest, Cond.code yX6_nearest cX6_nearest 2 (some .int), Cond.fieldLink RX6 20 "TripleTrapModel" "errorsOf" "[I", Cond.methodLink RX6 30 yX6_restOf]
def wsX6_chosen_r2 : List Cond := [Cond.static yX6_restOf, Cond.code yX6_restOf cX6_restOf 3 (some .int), Cond.methodLink RX6 113 yX6_loss, Cond.instanceMethod yX6_loss, Cond.selects RX6 yX6_loss yX6_loss, Cond.code yX6_loss cX6_loss 5 (some .int), Cond.methodLink RX6 116 yX6_unlike, Cond.instanceMethod yX6_unlike, Cond.selects RX6 yX6_unlike yX6_unlike, Cond.code yX6_unlike cX6_unlike 6 (some .int)]
def wsX6_chosen : List Cond := .code yX6_chosen cX6_chosen 6 (some .int) :: ((wsX6_chosen_r1 ++ wsX6_chosen_r2) ++ wsX60)
def wsX6_image : List Cond := .code yX6_image cX6_image 3 (some .int) :: ([.fieldLink RX6 13 "TripleTrapModel" "images" "[I", .fieldLink RX6 7 "TripleTrapModel" "state" "[I", .fieldLink RX6 16 "TripleTrapModel" "isKept" "[Z", .methodLink RX6 35 yX6_in, .static yX6_in, .initialized RX6, .code yX6_in cX6_in 3 (some .boolean)] ++ wsX60)
def wsX6_restore : List Cond := .code yX6_restore cX6_restore 3 (some .int) :: ([.fieldLink RX6 16 "TripleTrapModel" "isKept" "[Z", .fieldLink RX6 7 "TripleTrapModel" "state" "[I", .fieldLink RX6 13 "TripleTrapModel" "images" "[I", .methodLink RX6 35 yX6_in, .static yX6_in, .initialized RX6, .code yX6_in cX6_in 3 (some .boolean)] ++ wsX60)
def wsX6_sureOfAll : List Cond := .code yX6_sureOfAll cX6_sureOfAll 3 (some .int) :: ([.fieldLink RX6 7 "TripleTrapModel" "state" "[I"] ++ wsX60)
def wsX6_ofWeight : List Cond := .code yX6_ofWeight cX6_ofWeight 3 (some .int) :: ([.methodLink RX6 43 yX6_madeOf, .static yX6_madeOf, .initialized RX6, .code yX6_madeOf cX6_madeOf 2 (some .int), .methodLink RX6 30 yX6_restOf, .static yX6_restOf, .code yX6_restOf cX6_restOf 3 (some .int), .methodLink RX6 49 yX6_weight, .static yX6_weight, .code yX6_weight cX6_weight 3 (some .int)])
def wsX6_count : List Cond := .code yX6_count cX6_count 2 (some .int) :: ([.fieldLink RX6 7 "TripleTrapModel" "state" "[I", .fieldLink RX6 16 "TripleTrapModel" "isKept" "[Z", .methodLink RX6 35 yX6_in, .static yX6_in, .initialized RX6, .code yX6_in cX6_in 3 (some .boolean), .methodLink RX6 119 yX6_ofWeight, .static yX6_ofWeight, .code yX6_ofWeight cX6_ofWeight 3 (some .int), .methodLink RX6 43 yX6_madeOf, .static yX6_madeOf, .code yX6_madeOf cX6_madeOf 2 (some .int), .methodLink RX6 30 yX6_restOf, .static yX6_restOf, .code yX6_restOf cX6_restOf 3 (some .int), .methodLink RX6 49 yX6_weight, .static yX6_weight, .code yX6_weight cX6_weight 3 (some .int), .methodLink RX6 122 yX6_sureOfAll, .instanceMethod yX6_sureOfAll, .selects RX6 yX6_sureOfAll yX6_sureOfAll, .code yX6_sureOfAll cX6_sureOfAll 3 (some .int)] ++ wsX60)
def wsL_law_r1 : List Cond := [Cond.classLink RL 7 RX5, Cond.instantiable RX5 5, Cond.initialized RX5, Cond.classLink RL 10 RX6, Cond.instantiable RX6 7, Cond.initialized RX6, Cond.methodLink RL 9 yX5_init, Cond.instanceMethod yX5_init, Cond.code yX5_init cX5_init 2 none, Cond.methodLink RX5 3 objectInit, Cond.instanceMethod objectInit, Cond.code objectInit ⟨#[0xb1]⟩ 1 none, Cond.classLink RX5 9 RX2, Cond.instantiable RX2 1, Cond.initialized RX2, Cond.fieldLink RX5 12 "TripleTrap" "mender" "LTripleTrap$Mender;", Cond.classLink RX5 16 RX1, Cond.instantiable RX1 2, Cond.initialized RX1, Cond.fieldLink RX5 19 "TripleTrap" "now" "LTripleTrap$Held;", Cond.fieldLink RX5 23 "TripleTrap" "images" "[LTripleTrap$Held;", Cond.fieldLink RX5 27 "TripleTrap" "imagesKept" "I", Cond.arrayClass .int, Cond.fieldLink RX5 31 "TripleTrap" "tries" "[I"]
def wsL_law_r2 : List Cond := [Cond.instanceMethod yX2_init, Cond.code yX2_init cX2_init 7 none, Cond.methodLink RX2 3 objectInit, Cond.fieldLink RX2 9 "TripleTrap$Mender" "errorsByRest" "[I", Cond.static yX0_remainder, Cond.initialized RX0, Cond.code yX0_remainder cX0_remainder 3 (some .int), Cond.methodLink RX2 21 yX2_enter, Cond.instanceMethod yX2_enter, Cond.selects RX2 yX2_enter yX2_enter, Cond.code yX2_enter cX2_enter 3 none, Cond.static yX5_isBelow, Cond.code yX5_isBelow cX5_isBelow 2 (some .boolean), Cond.instanceMethod yX1_init, Cond.code yX1_init cX1_init 1 none, Cond.methodLink RX1 1 objectInit, Cond.classLink RX1 7 RX3, Cond.instantiable RX3 4, Cond.initialized RX3, Cond.fieldLink RX1 10 "TripleTrap$Held" "moves" "LTripleTrap$Moves;", Cond.classLink RX1 16 RX4, Cond.instantiable RX4 1, Cond.initialized RX4, Cond.fieldLink RX1 19 "TripleTrap$Held" "trust" "LTripleTrap$Trust;"]
def wsL_law_r3 : List Cond := [Cond.instanceMethod yX3_init, Cond.code yX3_init cX3_init 1 none, Cond.methodLink RX3 3 objectInit, Cond.fieldLink RX3 9 "TripleTrap$Moves" "size" "I", Cond.fieldLink RX3 15 "TripleTrap$Moves" "factors" "[I", Cond.fieldLink RX3 19 "TripleTrap$Moves" "shifts" "[I", Cond.fieldLink RX3 22 "TripleTrap$Moves" "brought" "[I", Cond.instanceMethod yX4_init, Cond.code yX4_init cX4_init 2 none, Cond.methodLink RX4 3 objectInit, Cond.fieldLink RX4 9 "TripleTrap$Trust" "levels" "[I", Cond.methodLink RL 12 yX6_init, Cond.instanceMethod yX6_init, Cond.code yX6_init cX6_init 4 none, Cond.methodLink RX6 1 objectInit, Cond.fieldLink RX6 7 "TripleTrapModel" "state" "[I", Cond.fieldLink RX6 13 "TripleTrapModel" "images" "[I", Cond.arrayClass .boolean, Cond.fieldLink RX6 16 "TripleTrapModel" "isKept" "[Z", Cond.fieldLink RX6 20 "TripleTrapModel" "errorsOf" "[I", Cond.fieldLink RX6 23 "TripleTrapModel" "comes" "[I", Cond.methodLink RX6 26 yX6_layErrors, Cond.instanceMethod yX6_layErrors, Cond.selects RX6 yX6_layErrors yX6_layErrors]
def wsL_law_r4 : List Cond := [Cond.code yX6_layErrors cX6_layErrors 2 none, Cond.methodLink RX6 30 yX6_restOf, Cond.static yX6_restOf, Cond.code yX6_restOf cX6_restOf 3 (some .int), Cond.methodLink RL 13 yX5_made, Cond.instanceMethod yX5_made, Cond.selects RX5 yX5_made yX5_made, Cond.code yX5_made cX5_made 2 (some .int), Cond.methodLink RX5 35 yX5_isBelow, Cond.static yX0_coded, Cond.code yX0_coded cX0_coded 2 (some .int), Cond.methodLink RX0 9 yX0_remainder, Cond.methodLink RL 17 yX6_made, Cond.instanceMethod yX6_made, Cond.selects RX6 yX6_made yX6_made, Cond.code yX6_made cX6_made 2 (some .int), Cond.methodLink RX6 39 yX6_isMessage, Cond.static yX6_isMessage, Cond.code yX6_isMessage cX6_isMessage 1 (some .boolean), Cond.methodLink RX6 35 yX6_in, Cond.static yX6_in, Cond.code yX6_in cX6_in 3 (some .boolean), Cond.methodLink RX6 43 yX6_madeOf, Cond.static yX6_madeOf]
def wsL_law_r5 : List Cond := [Cond.code yX6_madeOf cX6_madeOf 2 (some .int), Cond.methodLink RL 18 yX5_rest, Cond.instanceMethod yX5_rest, Cond.selects RX5 yX5_rest yX5_rest, Cond.code yX5_rest cX5_rest 2 (some .int), Cond.constant RX5 45 (8388608), Cond.methodLink RL 21 yX6_rest, Cond.instanceMethod yX6_rest, Cond.selects RX6 yX6_rest yX6_rest, Cond.code yX6_rest cX6_rest 2 (some .int), Cond.methodLink RX6 46 yX6_isWord, Cond.static yX6_isWord, Cond.code yX6_isWord cX6_isWord 1 (some .boolean), Cond.constant RX6 34 (8388607), Cond.methodLink RL 22 yX5_of, Cond.instanceMethod yX5_of, Cond.selects RX5 yX5_of yX5_of, Cond.code yX5_of cX5_of 3 (some .int), Cond.methodLink RX5 49 yJ6_bitCount_0f7a4, Cond.static yJ6_bitCount_0f7a4, Cond.initialized RJ6, Cond.code yJ6_bitCount_0f7a4 cJ6_bitCount_0f7a4 1 (some .int), Cond.constant RJ6 265 (1431655765), Cond.constant RJ6 266 (858993459)]
def wsL_law_r6 : List Cond := [Cond.constant RJ6 267 (252645135), Cond.instanceMethod yX2_nearest, Cond.selects RX2 yX2_nearest yX2_nearest, Cond.code yX2_nearest cX2_nearest 2 (some .int), Cond.methodLink RX2 29 yX2_errors, Cond.instanceMethod yX2_errors, Cond.selects RX2 yX2_errors yX2_errors, Cond.code yX2_errors cX2_errors 3 (some .int), Cond.instanceMethod yX2_distance, Cond.selects RX2 yX2_distance yX2_distance, Cond.code yX2_distance cX2_distance 2 (some .int), Cond.methodLink RX2 32 yJ6_bitCount_0f7a4, Cond.static yX0_message, Cond.code yX0_message cX0_message 1 (some .int), Cond.methodLink RL 26 yX6_of, Cond.instanceMethod yX6_of, Cond.selects RX6 yX6_of yX6_of, Cond.code yX6_of cX6_of 3 (some .int), Cond.methodLink RX6 49 yX6_weight, Cond.static yX6_weight, Cond.code yX6_weight cX6_weight 3 (some .int), Cond.methodLink RX6 52 yX6_nearest, Cond.instanceMethod yX6_nearest, Cond.selects RX6 yX6_nearest yX6_nearest]
def wsL_law_r7 : List Cond := [Cond.code yX6_nearest cX6_nearest 2 (some .int), Cond.methodLink RL 27 yX5_around, Cond.instanceMethod yX5_around, Cond.selects RX5 yX5_around yX5_around, Cond.code yX5_around cX5_around 3 (some .int), Cond.methodLink RX5 63 yX5_codeWordsAt, Cond.static yX5_codeWordsAt, Cond.code yX5_codeWordsAt cX5_codeWordsAt 2 (some .int), Cond.fieldLink RX5 152 "TripleTrap" "AROUND" "[I", Cond.methodLink RL 30 yX6_around, Cond.instanceMethod yX6_around, Cond.selects RX6 yX6_around yX6_around, Cond.code yX6_around cX6_around 5 (some .int), Cond.methodLink RL 31 yX5_turned, Cond.instanceMethod yX5_turned, Cond.selects RX5 yX5_turned yX5_turned, Cond.code yX5_turned cX5_turned 3 (some .int), Cond.static yX0_turn, Cond.code yX0_turn cX0_turn 2 (some .int), Cond.constant RX0 20 (8388607), Cond.methodLink RL 34 yX6_turned, Cond.instanceMethod yX6_turned, Cond.selects RX6 yX6_turned yX6_turned, Cond.code yX6_turned cX6_turned 3 (some .int)]
def wsL_law_r8 : List Cond := [Cond.methodLink RX6 55 yX6_turn, Cond.static yX6_turn, Cond.code yX6_turn cX6_turn 4 (some .int), Cond.methodLink RL 35 yX5_trapped, Cond.instanceMethod yX5_trapped, Cond.selects RX5 yX5_trapped yX5_trapped, Cond.code yX5_trapped cX5_trapped 7 (some .int), Cond.static yX0_trapErrors, Cond.code yX0_trapErrors cX0_trapErrors 4 (some .int), Cond.constant RX0 25 (65536), Cond.constant RX0 26 (131072), Cond.methodLink RX0 15 yJ6_bitCount_0f7a4, Cond.static yX0_turnBack, Cond.code yX0_turnBack cX0_turnBack 2 (some .int), Cond.methodLink RX0 21 yX0_turn, Cond.methodLink RL 38 yX6_trapped, Cond.instanceMethod yX6_trapped, Cond.selects RX6 yX6_trapped yX6_trapped, Cond.code yX6_trapped cX6_trapped 6 (some .int), Cond.methodLink RX6 59 yX6_caught, Cond.static yX6_caught, Cond.code yX6_caught cX6_caught 4 (some .int), Cond.methodLink RL 39 yX5_wide, Cond.instanceMethod yX5_wide]
def wsL_law_r9 : List Cond := [Cond.selects RX5 yX5_wide yX5_wide, Cond.code yX5_wide cX5_wide 2 (some .int), Cond.static yX0_widen, Cond.code yX0_widen cX0_widen 1 (some .int), Cond.methodLink RL 42 yX6_wide, Cond.instanceMethod yX6_wide, Cond.selects RX6 yX6_wide yX6_wide, Cond.code yX6_wide cX6_wide 2 (some .int), Cond.methodLink RX6 62 yX6_widened, Cond.static yX6_widened, Cond.code yX6_widened cX6_widened 1 (some .int), Cond.methodLink RL 43 yX5_read, Cond.instanceMethod yX5_read, Cond.selects RX5 yX5_read yX5_read, Cond.code yX5_read cX5_read 5 (some .int), Cond.constant RX5 79 (16777216), Cond.constant RX5 80 (8388607), Cond.methodLink RL 46 yX6_read, Cond.instanceMethod yX6_read, Cond.selects RX6 yX6_read yX6_read, Cond.code yX6_read cX6_read 5 (some .int), Cond.constant RX6 65 (16777215), Cond.constant RX6 66 (8388608), Cond.methodLink RL 47 yX5_keeps]
def wsL_law_r10 : List Cond := [Cond.instanceMethod yX5_keeps, Cond.selects RX5 yX5_keeps yX5_keeps, Cond.code yX5_keeps cX5_keeps 3 (some .int), Cond.methodLink RX5 81 yX5_isMove, Cond.static yX5_isMove, Cond.code yX5_isMove cX5_isMove 2 (some .boolean), Cond.static yX0_staysInCode, Cond.code yX0_staysInCode cX0_staysInCode 3 (some .boolean), Cond.methodLink RX0 31 yX0_carry, Cond.static yX0_carry, Cond.code yX0_carry cX0_carry 5 (some .int), Cond.methodLink RX0 27 yX0_target, Cond.static yX0_target, Cond.code yX0_target cX0_target 3 (some .int), Cond.methodLink RL 50 yX6_keeps, Cond.instanceMethod yX6_keeps, Cond.selects RX6 yX6_keeps yX6_keeps, Cond.code yX6_keeps cX6_keeps 3 (some .int), Cond.methodLink RX6 74 yX6_isMove, Cond.static yX6_isMove, Cond.code yX6_isMove cX6_isMove 2 (some .boolean), Cond.methodLink RX6 78 yX6_keepsCode, Cond.static yX6_keepsCode, Cond.code yX6_keepsCode cX6_keepsCode 4 (some .boolean)]
def wsL_law_r11 : List Cond := [Cond.methodLink RX6 71 yX6_go, Cond.static yX6_go, Cond.code yX6_go cX6_go 5 (some .int), Cond.methodLink RX6 67 yX6_place, Cond.static yX6_place, Cond.code yX6_place cX6_place 3 (some .int), Cond.methodLink RL 51 yX5_moved, Cond.instanceMethod yX5_moved, Cond.selects RX5 yX5_moved yX5_moved, Cond.code yX5_moved cX5_moved 4 (some .int), Cond.methodLink RL 55 yX6_moved, Cond.instanceMethod yX6_moved, Cond.selects RX6 yX6_moved yX6_moved, Cond.code yX6_moved cX6_moved 4 (some .int), Cond.methodLink RL 56 yX5_move, Cond.instanceMethod yX5_move, Cond.selects RX5 yX5_move yX5_move, Cond.code yX5_move cX5_move 3 (some .int), Cond.instanceMethod yX3_append, Cond.selects RX3 yX3_append yX3_append, Cond.code yX3_append cX3_append 3 none, Cond.static yX0_carryBack, Cond.code yX0_carryBack cX0_carryBack 5 (some .int), Cond.methodLink RL 59 yX6_move]
def wsL_law_r12 : List Cond := [Cond.instanceMethod yX6_move, Cond.selects RX6 yX6_move yX6_move, Cond.code yX6_move cX6_move 4 (some .int), Cond.methodLink RL 60 yX5_drop, Cond.instanceMethod yX5_drop, Cond.selects RX5 yX5_drop yX5_drop, Cond.code yX5_drop cX5_drop 2 (some .int), Cond.instanceMethod yX3_removeAt, Cond.selects RX3 yX3_removeAt yX3_removeAt, Cond.code yX3_removeAt cX3_removeAt 3 none, Cond.methodLink RL 63 yX6_drop, Cond.instanceMethod yX6_drop, Cond.selects RX6 yX6_drop yX6_drop, Cond.code yX6_drop cX6_drop 3 (some .int), Cond.methodLink RX6 81 yX6_isThere, Cond.instanceMethod yX6_isThere, Cond.selects RX6 yX6_isThere yX6_isThere, Cond.code yX6_isThere cX6_isThere 2 (some .boolean), Cond.methodLink RL 64 yX5_told, Cond.instanceMethod yX5_told, Cond.selects RX5 yX5_told yX5_told, Cond.code yX5_told cX5_told 3 (some .int), Cond.instanceMethod yX3_coveredByFirst, Cond.selects RX3 yX3_coveredByFirst yX3_coveredByFirst]
def wsL_law_r13 : List Cond := [Cond.code yX3_coveredByFirst cX3_coveredByFirst 5 (some .int), Cond.methodLink RX3 35 yX3_joined, Cond.instanceMethod yX3_joined, Cond.selects RX3 yX3_joined yX3_joined, Cond.code yX3_joined cX3_joined 7 (some .int), Cond.methodLink RX3 38 yJ6_bitCount_0f7a4, Cond.methodLink RL 67 yX6_told, Cond.instanceMethod yX6_told, Cond.selects RX6 yX6_told yX6_told, Cond.code yX6_told cX6_told 3 (some .int), Cond.fieldLink RX6 87 "TripleTrapModel" "triples" "I", Cond.methodLink RX6 97 yX6_layTriples, Cond.instanceMethod yX6_layTriples, Cond.selects RX6 yX6_layTriples yX6_layTriples, Cond.code yX6_layTriples cX6_layTriples 5 none, Cond.fieldLink RX6 91 "TripleTrapModel" "firstTriple" "I", Cond.methodLink RX6 94 yX6_coveredBy, Cond.instanceMethod yX6_coveredBy, Cond.selects RX6 yX6_coveredBy yX6_coveredBy, Cond.code yX6_coveredBy cX6_coveredBy 5 (some .int), Cond.methodLink RX6 84 yX6_bringsTo, Cond.instanceMethod yX6_bringsTo, Cond.selects RX6 yX6_bringsTo yX6_bringsTo, Cond.code yX6_bringsTo cX6_bringsTo 3 (some .boolean)]
def wsL_law_r14 : List Cond := [Cond.methodLink RL 68 yX5_freed, Cond.instanceMethod yX5_freed, Cond.selects RX5 yX5_freed yX5_freed, Cond.code yX5_freed cX5_freed 7 (some .int), Cond.methodLink RL 71 yX6_freed, Cond.instanceMethod yX6_freed, Cond.selects RX6 yX6_freed yX6_freed, Cond.code yX6_freed cX6_freed 5 (some .int), Cond.methodLink RX6 100 yX6_goBack, Cond.static yX6_goBack, Cond.code yX6_goBack cX6_goBack 5 (some .int), Cond.methodLink RL 72 yX5_open, Cond.instanceMethod yX5_open, Cond.selects RX5 yX5_open yX5_open, Cond.code yX5_open cX5_open 2 (some .int), Cond.instanceMethod yX3_firstNotCovered, Cond.selects RX3 yX3_firstNotCovered yX3_firstNotCovered, Cond.code yX3_firstNotCovered cX3_firstNotCovered 5 (some .int), Cond.methodLink RL 75 yX6_open, Cond.instanceMethod yX6_open, Cond.selects RX6 yX6_open yX6_open, Cond.code yX6_open cX6_open 2 (some .int), Cond.methodLink RL 76 yX5_sure, Cond.instanceMethod yX5_sure]
def wsL_law_r15 : List Cond := [Cond.selects RX5 yX5_sure yX5_sure, Cond.code yX5_sure cX5_sure 4 (some .int), Cond.methodLink RL 79 yX6_sure, Cond.instanceMethod yX6_sure, Cond.selects RX6 yX6_sure yX6_sure, Cond.code yX6_sure cX6_sure 4 (some .int), Cond.methodLink RX6 103 yX6_isPlace, Cond.static yX6_isPlace, Cond.code yX6_isPlace cX6_isPlace 1 (some .boolean), Cond.methodLink RL 80 yX5_weak, Cond.instanceMethod yX5_weak, Cond.selects RX5 yX5_weak yX5_weak, Cond.code yX5_weak cX5_weak 4 (some .int), Cond.instanceMethod yX4_weakestBut, Cond.selects RX4 yX4_weakestBut yX4_weakestBut, Cond.code yX4_weakestBut cX4_weakestBut 5 (some .int), Cond.methodLink RL 83 yX6_weak, Cond.instanceMethod yX6_weak, Cond.selects RX6 yX6_weak yX6_weak, Cond.code yX6_weak cX6_weak 2 (some .int), Cond.methodLink RX6 106 yX6_weakAt, Cond.instanceMethod yX6_weakAt, Cond.selects RX6 yX6_weakAt yX6_weakAt, Cond.code yX6_weakAt cX6_weakAt 7 (some .int)]
def wsL_law_r16 : List Cond := [Cond.methodLink RL 84 yX5_chosen, Cond.instanceMethod yX5_chosen, Cond.selects RX5 yX5_chosen yX5_chosen, Cond.code yX5_chosen cX5_chosen 6 (some .int), Cond.methodLink RX5 136 yX5_fillTries, Cond.instanceMethod yX5_fillTries, Cond.selects RX5 yX5_fillTries yX5_fillTries, Cond.code yX5_fillTries cX5_fillTries 8 none, Cond.methodLink RX5 139 yX5_unlikeTries, Cond.instanceMethod yX5_unlikeTries, Cond.selects RX5 yX5_unlikeTries yX5_unlikeTries, Cond.code yX5_unlikeTries cX5_unlikeTries 4 (some .int), Cond.methodLink RX5 155 yX5_isFirstOfItsWord, Cond.instanceMethod yX5_isFirstOfItsWord, Cond.selects RX5 yX5_isFirstOfItsWord yX5_isFirstOfItsWord, Cond.code yX5_isFirstOfItsWord cX5_isFirstOfItsWord 3 (some .boolean), Cond.methodLink RX5 142 yX5_bestTry, Cond.instanceMethod yX5_bestTry, Cond.selects RX5 yX5_bestTry yX5_bestTry, Cond.code yX5_bestTry cX5_bestTry 7 (some .int), Cond.instanceMethod yX4_sum, Cond.selects RX4 yX4_sum yX4_sum, Cond.code yX4_sum cX4_sum 4 (some .int), Cond.methodLink RL 87 yX6_chosen]
def wsL_law_r17 : List Cond := [Cond.instanceMethod yX6_chosen, Cond.selects RX6 yX6_chosen yX6_chosen, Cond.code yX6_chosen cX6_chosen 6 (some .int), Cond.methodLink RX6 109 yX6_layTries, Cond.instanceMethod yX6_layTries, Cond.selects RX6 yX6_layTries yX6_layTries, Cond.code yX6_layTries cX6_layTries 6 none, Cond.methodLink RX6 113 yX6_loss, Cond.instanceMethod yX6_loss, Cond.selects RX6 yX6_loss yX6_loss, Cond.code yX6_loss cX6_loss 5 (some .int), Cond.methodLink RX6 116 yX6_unlike, Cond.instanceMethod yX6_unlike, Cond.selects RX6 yX6_unlike yX6_unlike, Cond.code yX6_unlike cX6_unlike 6 (some .int), Cond.methodLink RL 88 yX5_image, Cond.instanceMethod yX5_image, Cond.selects RX5 yX5_image yX5_image, Cond.code yX5_image cX5_image 2 (some .int), Cond.instanceMethod yX1_copyFrom, Cond.selects RX1 yX1_copyFrom yX1_copyFrom, Cond.code yX1_copyFrom cX1_copyFrom 2 none, Cond.instanceMethod yX3_copyFrom, Cond.selects RX3 yX3_copyFrom yX3_copyFrom]
def wsL_law_r18 : List Cond := [Cond.code yX3_copyFrom cX3_copyFrom 3 none, Cond.instanceMethod yX4_copyFrom, Cond.selects RX4 yX4_copyFrom yX4_copyFrom, Cond.code yX4_copyFrom cX4_copyFrom 3 none, Cond.methodLink RL 91 yX6_image, Cond.instanceMethod yX6_image, Cond.selects RX6 yX6_image yX6_image, Cond.code yX6_image cX6_image 3 (some .int), Cond.methodLink RL 92 yX5_restore, Cond.instanceMethod yX5_restore, Cond.selects RX5 yX5_restore yX5_restore, Cond.code yX5_restore cX5_restore 2 (some .int), Cond.methodLink RL 95 yX6_restore, Cond.instanceMethod yX6_restore, Cond.selects RX6 yX6_restore yX6_restore, Cond.code yX6_restore cX6_restore 3 (some .int), Cond.methodLink RL 96 yX5_count, Cond.instanceMethod yX5_count, Cond.selects RX5 yX5_count yX5_count, Cond.code yX5_count cX5_count 2 (some .int), Cond.methodLink RL 99 yX6_count, Cond.instanceMethod yX6_count, Cond.selects RX6 yX6_count yX6_count, Cond.code yX6_count cX6_count 2 (some .int)]
def wsL_law_r19 : List Cond := [Cond.methodLink RX6 119 yX6_ofWeight, Cond.static yX6_ofWeight, Cond.code yX6_ofWeight cX6_ofWeight 3 (some .int), Cond.methodLink RX6 122 yX6_sureOfAll, Cond.instanceMethod yX6_sureOfAll, Cond.selects RX6 yX6_sureOfAll yX6_sureOfAll, Cond.code yX6_sureOfAll cX6_sureOfAll 3 (some .int)]
def wsL_law : List Cond := (wsL_law_r1 ++ (wsL_law_r2 ++ (wsL_law_r3 ++ (wsL_law_r4 ++ (wsL_law_r5 ++ (wsL_law_r6 ++ (wsL_law_r7 ++ (wsL_law_r8 ++ (wsL_law_r9 ++ (wsL_law_r10 ++ (wsL_law_r11 ++ (wsL_law_r12 ++ (wsL_law_r13 ++ (wsL_law_r14 ++ (wsL_law_r15 ++ (wsL_law_r16 ++ (wsL_law_r17 ++ (wsL_law_r18 ++ wsL_law_r19)))))))))))))))))) ++ wsX50 ++ wsX60 ++ wsX20 ++ wsX10 ++ wsX30 ++ wsX40 ++ ([] : List Cond)
end
section
theorem in_places {big : List Cond} (ws : List Cond) (ps : List Nat) (hp : ws = ps.filterMap (fun i => big[i]?)) : ∀ w ∈ ws, w ∈ big := by
  intro w hw
  rw [hp] at hw
  obtain ⟨i, -, hi⟩ := List.mem_filterMap.mp hw
  first | exact List.mem_of_getElem? hi | exact List.getElem?_mem hi
set_option maxRecDepth 20000 in
theorem wsL_r1_in : ∀ w ∈ wsL_law_r1, w ∈ lw_tbl := in_places _ [38, 39, 30, 344, 345, 36, 40, 41, 42, 43, 44, 45, 46, 47, 31, 116, 67, 68, 33, 117, 118, 119, 66, 120] (by decide +kernel)
set_option maxRecDepth 20000 in
theorem wsL_r2_in : ∀ w ∈ wsL_law_r2, w ∈ lw_tbl := in_places _ [49, 50, 51, 62, 53, 32, 54, 55, 57, 0, 58, 60, 61, 70, 71, 72, 73, 74, 34, 106, 95, 96, 35, 108] (by decide +kernel)
set_option maxRecDepth 20000 in
theorem wsL_r3_in : ∀ w ∈ wsL_law_r3, w ∈ lw_tbl := in_places _ [76, 77, 78, 79, 81, 83, 85, 98, 99, 100, 101, 346, 347, 348, 349, 357, 358, 379, 359, 360, 363, 350, 352, 18] (by decide +kernel)
set_option maxRecDepth 20000 in
theorem wsL_r4_in : ∀ w ∈ wsL_law_r4, w ∈ lw_tbl := in_places _ [353, 354, 355, 356, 132, 133, 134, 135, 136, 138, 139, 140, 380, 381, 382, 383, 384, 385, 386, 387, 388, 389, 390, 391] (by decide +kernel)
set_option maxRecDepth 20000 in
theorem wsL_r5_in : ∀ w ∈ wsL_law_r5, w ∈ lw_tbl := in_places _ [392, 141, 142, 143, 144, 145, 393, 394, 395, 396, 397, 398, 399, 400, 147, 148, 149, 150, 151, 152, 37, 153, 154, 155] (by decide +kernel)
set_option maxRecDepth 20000 in
theorem wsL_r6_in : ∀ w ∈ wsL_law_r6, w ∈ lw_tbl := in_places _ [156, 159, 1, 160, 161, 163, 2, 164, 167, 3, 168, 169, 171, 172, 401, 402, 403, 404, 405, 406, 407, 408, 410, 19] (by decide +kernel)
set_option maxRecDepth 20000 in
theorem wsL_r7_in : ∀ w ∈ wsL_law_r7, w ∈ lw_tbl := in_places _ [411, 173, 174, 175, 176, 177, 178, 179, 180, 412, 413, 414, 415, 182, 183, 184, 185, 187, 188, 189, 416, 417, 418, 419] (by decide +kernel)
set_option maxRecDepth 20000 in
theorem wsL_r8_in : ∀ w ∈ wsL_law_r8, w ∈ lw_tbl := in_places _ [420, 421, 422, 190, 191, 192, 193, 195, 196, 197, 198, 199, 201, 202, 203, 423, 424, 425, 426, 427, 428, 429, 204, 205] (by decide +kernel)
set_option maxRecDepth 20000 in
theorem wsL_r9_in : ∀ w ∈ wsL_law_r9, w ∈ lw_tbl := in_places _ [206, 207, 209, 210, 430, 431, 432, 433, 434, 435, 436, 211, 212, 213, 214, 215, 216, 437, 438, 439, 440, 441, 442, 217] (by decide +kernel)
set_option maxRecDepth 20000 in
theorem wsL_r10_in : ∀ w ∈ wsL_law_r10, w ∈ lw_tbl := in_places _ [218, 219, 220, 221, 222, 223, 225, 226, 227, 228, 229, 230, 231, 232, 443, 444, 445, 446, 447, 448, 449, 450, 451, 452] (by decide +kernel)
set_option maxRecDepth 20000 in
theorem wsL_r11_in : ∀ w ∈ wsL_law_r11, w ∈ lw_tbl := in_places _ [453, 454, 455, 456, 457, 458, 233, 234, 235, 236, 459, 460, 461, 462, 238, 239, 240, 241, 244, 4, 245, 247, 248, 463] (by decide +kernel)
set_option maxRecDepth 20000 in
theorem wsL_r12_in : ∀ w ∈ wsL_law_r12, w ∈ lw_tbl := in_places _ [464, 465, 466, 249, 250, 251, 252, 255, 5, 256, 467, 468, 469, 470, 471, 473, 20, 474, 258, 259, 260, 261, 264, 6] (by decide +kernel)
set_option maxRecDepth 20000 in
theorem wsL_r13_in : ∀ w ∈ wsL_law_r13, w ∈ lw_tbl := in_places _ [265, 266, 268, 7, 269, 270, 475, 476, 477, 478, 361, 479, 481, 21, 482, 362, 483, 485, 22, 486, 487, 489, 23, 490] (by decide +kernel)
set_option maxRecDepth 20000 in
theorem wsL_r14_in : ∀ w ∈ wsL_law_r14, w ∈ lw_tbl := in_places _ [271, 272, 273, 274, 491, 492, 493, 494, 495, 496, 497, 276, 277, 278, 279, 282, 8, 283, 498, 499, 500, 501, 284, 285] (by decide +kernel)
set_option maxRecDepth 20000 in
theorem wsL_r15_in : ∀ w ∈ wsL_law_r15, w ∈ lw_tbl := in_places _ [286, 287, 502, 503, 504, 505, 506, 507, 508, 288, 289, 290, 291, 294, 9, 295, 509, 510, 511, 512, 513, 515, 24, 516] (by decide +kernel)
set_option maxRecDepth 20000 in
theorem wsL_r16_in : ∀ w ∈ wsL_law_r16, w ∈ lw_tbl := in_places _ [296, 297, 298, 299, 300, 302, 10, 303, 304, 306, 11, 307, 308, 310, 12, 311, 312, 314, 13, 315, 318, 14, 319, 517] (by decide +kernel)
set_option maxRecDepth 20000 in
theorem wsL_r17_in : ∀ w ∈ wsL_law_r17, w ∈ lw_tbl := in_places _ [518, 519, 520, 521, 523, 25, 524, 525, 527, 26, 528, 529, 531, 27, 532, 320, 321, 322, 323, 326, 15, 327, 330, 16] (by decide +kernel)
set_option maxRecDepth 20000 in
theorem wsL_r18_in : ∀ w ∈ wsL_law_r18, w ∈ lw_tbl := in_places _ [331, 334, 17, 335, 533, 534, 535, 536, 336, 337, 338, 339, 537, 538, 539, 540, 340, 341, 342, 343, 541, 542, 543, 544] (by decide +kernel)
set_option maxRecDepth 20000 in
theorem wsL_r19_in : ∀ w ∈ wsL_law_r19, w ∈ lw_tbl := in_places _ [545, 546, 547, 548, 550, 28, 551] (by decide +kernel)
set_option maxRecDepth 20000 in
theorem inX5 : ∀ w ∈ wsX50, w ∈ lw_tbl := by decide +kernel
set_option maxRecDepth 20000 in
theorem inX6 : ∀ w ∈ wsX60, w ∈ lw_tbl := by decide +kernel
set_option maxRecDepth 20000 in
theorem inX2 : ∀ w ∈ wsX20, w ∈ lw_tbl := by decide +kernel
set_option maxRecDepth 20000 in
theorem inX1 : ∀ w ∈ wsX10, w ∈ lw_tbl := by decide +kernel
set_option maxRecDepth 20000 in
theorem inX3 : ∀ w ∈ wsX30, w ∈ lw_tbl := by decide +kernel
set_option maxRecDepth 20000 in
theorem inX4 : ∀ w ∈ wsX40, w ∈ lw_tbl := by decide +kernel
theorem wsL_s19 : ∀ w ∈ wsL_law_r19, w ∈ lw_tbl := wsL_r19_in
theorem wsL_s18 : ∀ w ∈ wsL_law_r18 ++ (wsL_law_r19), w ∈ lw_tbl := fun w h => (List.mem_append.mp h).elim (wsL_r18_in w) (wsL_s19 w)
theorem wsL_s17 : ∀ w ∈ wsL_law_r17 ++ (wsL_law_r18 ++ (wsL_law_r19)), w ∈ lw_tbl := fun w h => (List.mem_append.mp h).elim (wsL_r17_in w) (wsL_s18 w)
theorem wsL_s16 : ∀ w ∈ wsL_law_r16 ++ (wsL_law_r17 ++ (wsL_law_r18 ++ (wsL_law_r19))), w ∈ lw_tbl := fun w h => (List.mem_append.mp h).elim (wsL_r16_in w) (wsL_s17 w)
theorem wsL_s15 : ∀ w ∈ wsL_law_r15 ++ (wsL_law_r16 ++ (wsL_law_r17 ++ (wsL_law_r18 ++ (wsL_law_r19)))), w ∈ lw_tbl := fun w h => (List.mem_append.mp h).elim (wsL_r15_in w) (wsL_s16 w)
theorem wsL_s14 : ∀ w ∈ wsL_law_r14 ++ (wsL_law_r15 ++ (wsL_law_r16 ++ (wsL_law_r17 ++ (wsL_law_r18 ++ (wsL_law_r19))))), w ∈ lw_tbl := fun w h => (List.mem_append.mp h).elim (wsL_r14_in w) (wsL_s15 w)
theorem wsL_s13 : ∀ w ∈ wsL_law_r13 ++ (wsL_law_r14 ++ (wsL_law_r15 ++ (wsL_law_r16 ++ (wsL_law_r17 ++ (wsL_law_r18 ++ (wsL_law_r19)))))), w ∈ lw_tbl := fun w h => (List.mem_append.mp h).elim (wsL_r13_in w) (wsL_s14 w)
theorem wsL_s12 : ∀ w ∈ wsL_law_r12 ++ (wsL_law_r13 ++ (wsL_law_r14 ++ (wsL_law_r15 ++ (wsL_law_r16 ++ (wsL_law_r17 ++ (wsL_law_r18 ++ (wsL_law_r19))))))), w ∈ lw_tbl := fun w h => (List.mem_append.mp h).elim (wsL_r12_in w) (wsL_s13 w)
theorem wsL_s11 : ∀ w ∈ wsL_law_r11 ++ (wsL_law_r12 ++ (wsL_law_r13 ++ (wsL_law_r14 ++ (wsL_law_r15 ++ (wsL_law_r16 ++ (wsL_law_r17 ++ (wsL_law_r18 ++ (wsL_law_r19)))))))), w ∈ lw_tbl := fun w h => (List.mem_append.mp h).elim (wsL_r11_in w) (wsL_s12 w)
theorem wsL_s10 : ∀ w ∈ wsL_law_r10 ++ (wsL_law_r11 ++ (wsL_law_r12 ++ (wsL_law_r13 ++ (wsL_law_r14 ++ (wsL_law_r15 ++ (wsL_law_r16 ++ (wsL_law_r17 ++ (wsL_law_r18 ++ (wsL_law_r19))))))))), w ∈ lw_tbl := fun w h => (List.mem_append.mp h).elim (wsL_r10_in w) (wsL_s11 w)
theorem wsL_s9 : ∀ w ∈ wsL_law_r9 ++ (wsL_law_r10 ++ (wsL_law_r11 ++ (wsL_law_r12 ++ (wsL_law_r13 ++ (wsL_law_r14 ++ (wsL_law_r15 ++ (wsL_law_r16 ++ (wsL_law_r17 ++ (wsL_law_r18 ++ (wsL_law_r19)))))))))), w ∈ lw_tbl := fun w h => (List.mem_append.mp h).elim (wsL_r9_in w) (wsL_s10 w)
theorem wsL_s8 : ∀ w ∈ wsL_law_r8 ++ (wsL_law_r9 ++ (wsL_law_r10 ++ (wsL_law_r11 ++ (wsL_law_r12 ++ (wsL_law_r13 ++ (wsL_law_r14 ++ (wsL_law_r15 ++ (wsL_law_r16 ++ (wsL_law_r17 ++ (wsL_law_r18 ++ (wsL_law_r19))))))))))), w ∈ lw_tbl := fun w h => (List.mem_append.mp h).elim (wsL_r8_in w) (wsL_s9 w)
theorem wsL_s7 : ∀ w ∈ wsL_law_r7 ++ (wsL_law_r8 ++ (wsL_law_r9 ++ (wsL_law_r10 ++ (wsL_law_r11 ++ (wsL_law_r12 ++ (wsL_law_r13 ++ (wsL_law_r14 ++ (wsL_law_r15 ++ (wsL_law_r16 ++ (wsL_law_r17 ++ (wsL_law_r18 ++ (wsL_law_r19)))))))))))), w ∈ lw_tbl := fun w h => (List.mem_append.mp h).elim (wsL_r7_in w) (wsL_s8 w)
theorem wsL_s6 : ∀ w ∈ wsL_law_r6 ++ (wsL_law_r7 ++ (wsL_law_r8 ++ (wsL_law_r9 ++ (wsL_law_r10 ++ (wsL_law_r11 ++ (wsL_law_r12 ++ (wsL_law_r13 ++ (wsL_law_r14 ++ (wsL_law_r15 ++ (wsL_law_r16 ++ (wsL_law_r17 ++ (wsL_law_r18 ++ (wsL_law_r19))))))))))))), w ∈ lw_tbl := fun w h => (List.mem_append.mp h).elim (wsL_r6_in w) (wsL_s7 w)
theorem wsL_s5 : ∀ w ∈ wsL_law_r5 ++ (wsL_law_r6 ++ (wsL_law_r7 ++ (wsL_law_r8 ++ (wsL_law_r9 ++ (wsL_law_r10 ++ (wsL_law_r11 ++ (wsL_law_r12 ++ (wsL_law_r13 ++ (wsL_law_r14 ++ (wsL_law_r15 ++ (wsL_law_r16 ++ (wsL_law_r17 ++ (wsL_law_r18 ++ (wsL_law_r19)))))))))))))), w ∈ lw_tbl := fun w h => (List.mem_append.mp h).elim (wsL_r5_in w) (wsL_s6 w)
theorem wsL_s4 : ∀ w ∈ wsL_law_r4 ++ (wsL_law_r5 ++ (wsL_law_r6 ++ (wsL_law_r7 ++ (wsL_law_r8 ++ (wsL_law_r9 ++ (wsL_law_r10 ++ (wsL_law_r11 ++ (wsL_law_r12 ++ (wsL_law_r13 ++ (wsL_law_r14 ++ (wsL_law_r15 ++ (wsL_law_r16 ++ (wsL_law_r17 ++ (wsL_law_r18 ++ (wsL_law_r19))))))))))))))), w ∈ lw_tbl := fun w h => (List.mem_append.mp h).elim (wsL_r4_in w) (wsL_s5 w)
theorem wsL_s3 : ∀ w ∈ wsL_law_r3 ++ (wsL_law_r4 ++ (wsL_law_r5 ++ (wsL_law_r6 ++ (wsL_law_r7 ++ (wsL_law_r8 ++ (wsL_law_r9 ++ (wsL_law_r10 ++ (wsL_law_r11 ++ (wsL_law_r12 ++ (wsL_law_r13 ++ (wsL_law_r14 ++ (wsL_law_r15 ++ (wsL_law_r16 ++ (wsL_law_r17 ++ (wsL_law_r18 ++ (wsL_law_r19)))))))))))))))), w ∈ lw_tbl := fun w h => (List.mem_append.mp h).elim (wsL_r3_in w) (wsL_s4 w)
theorem wsL_s2 : ∀ w ∈ wsL_law_r2 ++ (wsL_law_r3 ++ (wsL_law_r4 ++ (wsL_law_r5 ++ (wsL_law_r6 ++ (wsL_law_r7 ++ (wsL_law_r8 ++ (wsL_law_r9 ++ (wsL_law_r10 ++ (wsL_law_r11 ++ (wsL_law_r12 ++ (wsL_law_r13 ++ (wsL_law_r14 ++ (wsL_law_r15 ++ (wsL_law_r16 ++ (wsL_law_r17 ++ (wsL_law_r18 ++ (wsL_law_r19))))))))))))))))), w ∈ lw_tbl := fun w h => (List.mem_append.mp h).elim (wsL_r2_in w) (wsL_s3 w)
theorem wsL_s1 : ∀ w ∈ wsL_law_r1 ++ (wsL_law_r2 ++ (wsL_law_r3 ++ (wsL_law_r4 ++ (wsL_law_r5 ++ (wsL_law_r6 ++ (wsL_law_r7 ++ (wsL_law_r8 ++ (wsL_law_r9 ++ (wsL_law_r10 ++ (wsL_law_r11 ++ (wsL_law_r12 ++ (wsL_law_r13 ++ (wsL_law_r14 ++ (wsL_law_r15 ++ (wsL_law_r16 ++ (wsL_law_r17 ++ (wsL_law_r18 ++ (wsL_law_r19)))))))))))))))))), w ∈ lw_tbl := fun w h => (List.mem_append.mp h).elim (wsL_r1_in w) (wsL_s2 w)
theorem wsL_law_in : ∀ w ∈ wsL_law, w ∈ lw_tbl := by
  intro w h
  unfold wsL_law at h
  rcases List.mem_append.mp h with h | h
  · rcases List.mem_append.mp h with h | h
    · rcases List.mem_append.mp h with h | h
      · rcases List.mem_append.mp h with h | h
        · rcases List.mem_append.mp h with h | h
          · rcases List.mem_append.mp h with h | h
            · rcases List.mem_append.mp h with h | h
              · exact wsL_s1 w h
              · exact inX5 w h
            · exact inX6 w h
          · exact inX2 w h
        · exact inX1 w h
      · exact inX3 w h
    · exact inX4 w h
  · exact absurd h List.not_mem_nil
theorem inX0 : ∀ w ∈ wsX00, w ∈ lw_tbl := by decide +kernel
theorem inlX1 : ∀ w ∈ wsX10, w ∈ wsL_law := fun _ h => List.mem_append_left _ (List.mem_append_left _ (List.mem_append_left _ (List.mem_append_right _ h)))
theorem inlX2 : ∀ w ∈ wsX20, w ∈ wsL_law := fun _ h => List.mem_append_left _ (List.mem_append_left _ (List.mem_append_left _ (List.mem_append_left _ (List.mem_append_right _ h))))
theorem inlX3 : ∀ w ∈ wsX30, w ∈ wsL_law := fun _ h => List.mem_append_left _ (List.mem_append_left _ (List.mem_append_right _ h))
theorem inlX4 : ∀ w ∈ wsX40, w ∈ wsL_law := fun _ h => List.mem_append_left _ (List.mem_append_right _ h)
theorem inlX5 : ∀ w ∈ wsX50, w ∈ wsL_law := fun _ h => List.mem_append_left _ (List.mem_append_left _ (List.mem_append_left _ (List.mem_append_left _ (List.mem_append_left _ (List.mem_append_left _ (List.mem_append_right _ h))))))
theorem inlX6 : ∀ w ∈ wsX60, w ∈ wsL_law := fun _ h => List.mem_append_left _ (List.mem_append_left _ (List.mem_append_left _ (List.mem_append_left _ (List.mem_append_left _ (List.mem_append_right _ h)))))
theorem inJ6 : ∀ w ∈ wsJ60, w ∈ lw_tbl := by decide +kernel
end
section
theorem dX0_remainder_0 : decode cX0_remainder 0 = .ok (.iload_n 0, 1) := by decide +kernel
theorem dX0_remainder_1 : decode cX0_remainder 1 = .ok (.istore_n 1, 1) := by decide +kernel
theorem dX0_remainder_2 : decode cX0_remainder 2 = .ok (.bipush 22, 2) := by decide +kernel
theorem dX0_remainder_4 : decode cX0_remainder 4 = .ok (.istore_n 2, 1) := by decide +kernel
theorem dX0_remainder_5 : decode cX0_remainder 5 = .ok (.iload_n 2, 1) := by decide +kernel
theorem dX0_remainder_6 : decode cX0_remainder 6 = .ok (.bipush 11, 2) := by decide +kernel
theorem dX0_remainder_8 : decode cX0_remainder 8 = .ok (.if_icmp .lt 29, 3) := by decide +kernel
theorem dX0_remainder_11 : decode cX0_remainder 11 = .ok (.iload_n 1, 1) := by decide +kernel
theorem dX0_remainder_12 : decode cX0_remainder 12 = .ok (.iload_n 2, 1) := by decide +kernel
theorem dX0_remainder_13 : decode cX0_remainder 13 = .ok (.iushr, 1) := by decide +kernel
theorem dX0_remainder_14 : decode cX0_remainder 14 = .ok (.iconst 1, 1) := by decide +kernel
theorem dX0_remainder_15 : decode cX0_remainder 15 = .ok (.iand, 1) := by decide +kernel
theorem dX0_remainder_16 : decode cX0_remainder 16 = .ok (.iconst 1, 1) := by decide +kernel
theorem dX0_remainder_17 : decode cX0_remainder 17 = .ok (.if_icmp .ne 14, 3) := by decide +kernel
theorem dX0_remainder_20 : decode cX0_remainder 20 = .ok (.iload_n 1, 1) := by decide +kernel
theorem dX0_remainder_21 : decode cX0_remainder 21 = .ok (.sipush 3189, 3) := by decide +kernel
theorem dX0_remainder_24 : decode cX0_remainder 24 = .ok (.iload_n 2, 1) := by decide +kernel
theorem dX0_remainder_25 : decode cX0_remainder 25 = .ok (.bipush 11, 2) := by decide +kernel
theorem dX0_remainder_27 : decode cX0_remainder 27 = .ok (.isub, 1) := by decide +kernel
theorem dX0_remainder_28 : decode cX0_remainder 28 = .ok (.ishl, 1) := by decide +kernel
theorem dX0_remainder_29 : decode cX0_remainder 29 = .ok (.ixor, 1) := by decide +kernel
theorem dX0_remainder_30 : decode cX0_remainder 30 = .ok (.istore_n 1, 1) := by decide +kernel
theorem dX0_remainder_31 : decode cX0_remainder 31 = .ok (.iinc 2 (-1), 3) := by decide +kernel
theorem dX0_remainder_34 : decode cX0_remainder 34 = .ok (.goto (-29), 3) := by decide +kernel
theorem dX0_remainder_37 : decode cX0_remainder 37 = .ok (.iload_n 1, 1) := by decide +kernel
theorem dX0_remainder_38 : decode cX0_remainder 38 = .ok (.ireturn, 1) := by decide +kernel
set_option maxRecDepth 20000 in
theorem ggX0_coded_X0_remainder : GoodIn wsX0_coded wsX0_remainder := goodIn_r _ [4] (by decide +kernel) (by decide +kernel)
set_option maxRecDepth 20000 in
theorem gX0_coded_X0_remainder : GoodIn wsX0_coded (va_wsS RX0 9 yX0_remainder wsX0_remainder) := goodIn_app (goodIn_of _ (by decide +kernel)) ggX0_coded_X0_remainder
theorem dX0_coded_0 : decode cX0_coded 0 = .ok (.iload_n 0, 1) := by decide +kernel
theorem dX0_coded_1 : decode cX0_coded 1 = .ok (.bipush 11, 2) := by decide +kernel
theorem dX0_coded_3 : decode cX0_coded 3 = .ok (.ishl, 1) := by decide +kernel
theorem dX0_coded_4 : decode cX0_coded 4 = .ok (.istore_n 1, 1) := by decide +kernel
theorem dX0_coded_5 : decode cX0_coded 5 = .ok (.iload_n 1, 1) := by decide +kernel
theorem dX0_coded_6 : decode cX0_coded 6 = .ok (.iload_n 1, 1) := by decide +kernel
theorem dX0_coded_7 : decode cX0_coded 7 = .ok (.invokestatic 9, 3) := by decide +kernel
theorem dX0_coded_10 : decode cX0_coded 10 = .ok (.ior, 1) := by decide +kernel
theorem dX0_coded_11 : decode cX0_coded 11 = .ok (.ireturn, 1) := by decide +kernel
theorem dX0_message_0 : decode cX0_message 0 = .ok (.iload_n 0, 1) := by decide +kernel
theorem dX0_message_1 : decode cX0_message 1 = .ok (.bipush 11, 2) := by decide +kernel
theorem dX0_message_3 : decode cX0_message 3 = .ok (.iushr, 1) := by decide +kernel
theorem dX0_message_4 : decode cX0_message 4 = .ok (.ireturn, 1) := by decide +kernel
set_option maxRecDepth 20000 in
theorem ggX0_widen_J6_bitCount_0f7a4 : GoodIn wsX0_widen wsJ6_bitCount_0f7a4 := goodIn_r _ [4, 5, 6, 7] (by decide +kernel) (by decide +kernel)
set_option maxRecDepth 20000 in
theorem gX0_widen_J6_bitCount_0f7a4 : GoodIn wsX0_widen (va_wsS RX0 15 yJ6_bitCount_0f7a4 wsJ6_bitCount_0f7a4) := goodIn_app (goodIn_of _ (by decide +kernel)) ggX0_widen_J6_bitCount_0f7a4
theorem dX0_widen_0 : decode cX0_widen 0 = .ok (.iload_n 0, 1) := by decide +kernel
theorem dX0_widen_1 : decode cX0_widen 1 = .ok (.iload_n 0, 1) := by decide +kernel
theorem dX0_widen_2 : decode cX0_widen 2 = .ok (.invokestatic 15, 3) := by decide +kernel
theorem dX0_widen_5 : decode cX0_widen 5 = .ok (.iconst 1, 1) := by decide +kernel
theorem dX0_widen_6 : decode cX0_widen 6 = .ok (.iand, 1) := by decide +kernel
theorem dX0_widen_7 : decode cX0_widen 7 = .ok (.bipush 23, 2) := by decide +kernel
theorem dX0_widen_9 : decode cX0_widen 9 = .ok (.ishl, 1) := by decide +kernel
theorem dX0_widen_10 : decode cX0_widen 10 = .ok (.ior, 1) := by decide +kernel
theorem dX0_widen_11 : decode cX0_widen 11 = .ok (.ireturn, 1) := by decide +kernel
theorem dX0_turn_0 : decode cX0_turn 0 = .ok (.iload_n 0, 1) := by decide +kernel
theorem dX0_turn_1 : decode cX0_turn 1 = .ok (.iload_n 1, 1) := by decide +kernel
theorem dX0_turn_2 : decode cX0_turn 2 = .ok (.ishl, 1) := by decide +kernel
theorem dX0_turn_3 : decode cX0_turn 3 = .ok (.iload_n 0, 1) := by decide +kernel
theorem dX0_turn_4 : decode cX0_turn 4 = .ok (.bipush 23, 2) := by decide +kernel
theorem dX0_turn_6 : decode cX0_turn 6 = .ok (.iload_n 1, 1) := by decide +kernel
theorem dX0_turn_7 : decode cX0_turn 7 = .ok (.isub, 1) := by decide +kernel
theorem dX0_turn_8 : decode cX0_turn 8 = .ok (.iushr, 1) := by decide +kernel
theorem dX0_turn_9 : decode cX0_turn 9 = .ok (.ior, 1) := by decide +kernel
theorem dX0_turn_10 : decode cX0_turn 10 = .ok (.ldc 20, 2) := by decide +kernel
theorem dX0_turn_12 : decode cX0_turn 12 = .ok (.iand, 1) := by decide +kernel
theorem dX0_turn_13 : decode cX0_turn 13 = .ok (.ireturn, 1) := by decide +kernel
set_option maxRecDepth 20000 in
theorem ggX0_turnBack_X0_turn : GoodIn wsX0_turnBack wsX0_turn := goodIn_r _ [4, 5] (by decide +kernel) (by decide +kernel)
set_option maxRecDepth 20000 in
theorem gX0_turnBack_X0_turn : GoodIn wsX0_turnBack (va_wsS RX0 21 yX0_turn wsX0_turn) := goodIn_app (goodIn_of _ (by decide +kernel)) ggX0_turnBack_X0_turn
theorem dX0_turnBack_0 : decode cX0_turnBack 0 = .ok (.iload_n 0, 1) := by decide +kernel
theorem dX0_turnBack_1 : decode cX0_turnBack 1 = .ok (.bipush 23, 2) := by decide +kernel
theorem dX0_turnBack_3 : decode cX0_turnBack 3 = .ok (.iload_n 1, 1) := by decide +kernel
theorem dX0_turnBack_4 : decode cX0_turnBack 4 = .ok (.isub, 1) := by decide +kernel
theorem dX0_turnBack_5 : decode cX0_turnBack 5 = .ok (.invokestatic 21, 3) := by decide +kernel
theorem dX0_turnBack_8 : decode cX0_turnBack 8 = .ok (.ireturn, 1) := by decide +kernel
set_option maxRecDepth 20000 in
theorem ggX0_trapErrors_X0_remainder : GoodIn wsX0_trapErrors wsX0_remainder := goodIn_r _ [6] (by decide +kernel) (by decide +kernel)
set_option maxRecDepth 20000 in
theorem gX0_trapErrors_X0_remainder : GoodIn wsX0_trapErrors (va_wsS RX0 9 yX0_remainder wsX0_remainder) := goodIn_app (goodIn_of _ (by decide +kernel)) ggX0_trapErrors_X0_remainder
set_option maxRecDepth 20000 in
theorem ggX0_trapErrors_J6_bitCount_0f7a4 : GoodIn wsX0_trapErrors wsJ6_bitCount_0f7a4 := goodIn_r _ [10, 11, 12, 13] (by decide +kernel) (by decide +kernel)
set_option maxRecDepth 20000 in
theorem gX0_trapErrors_J6_bitCount_0f7a4 : GoodIn wsX0_trapErrors (va_wsS RX0 15 yJ6_bitCount_0f7a4 wsJ6_bitCount_0f7a4) := goodIn_app (goodIn_of _ (by decide +kernel)) ggX0_trapErrors_J6_bitCount_0f7a4
theorem dX0_trapErrors_0 : decode cX0_trapErrors 0 = .ok (.iload_n 1, 1) := by decide +kernel
theorem dX0_trapErrors_1 : decode cX0_trapErrors 1 = .ok (.ifCond .ne 7, 3) := by decide +kernel
theorem dX0_trapErrors_4 : decode cX0_trapErrors 4 = .ok (.iconst 0, 1) := by decide +kernel
theorem dX0_trapErrors_5 : decode cX0_trapErrors 5 = .ok (.goto 15, 3) := by decide +kernel
theorem dX0_trapErrors_8 : decode cX0_trapErrors 8 = .ok (.iload_n 1, 1) := by decide +kernel
theorem dX0_trapErrors_9 : decode cX0_trapErrors 9 = .ok (.iconst 1, 1) := by decide +kernel
theorem dX0_trapErrors_10 : decode cX0_trapErrors 10 = .ok (.if_icmp .ne 8, 3) := by decide +kernel
theorem dX0_trapErrors_13 : decode cX0_trapErrors 13 = .ok (.ldc 25, 2) := by decide +kernel
theorem dX0_trapErrors_15 : decode cX0_trapErrors 15 = .ok (.goto 5, 3) := by decide +kernel
theorem dX0_trapErrors_18 : decode cX0_trapErrors 18 = .ok (.ldc 26, 2) := by decide +kernel
theorem dX0_trapErrors_20 : decode cX0_trapErrors 20 = .ok (.istore_n 2, 1) := by decide +kernel
theorem dX0_trapErrors_21 : decode cX0_trapErrors 21 = .ok (.iload_n 0, 1) := by decide +kernel
theorem dX0_trapErrors_22 : decode cX0_trapErrors 22 = .ok (.iload_n 2, 1) := by decide +kernel
theorem dX0_trapErrors_23 : decode cX0_trapErrors 23 = .ok (.ixor, 1) := by decide +kernel
theorem dX0_trapErrors_24 : decode cX0_trapErrors 24 = .ok (.invokestatic 9, 3) := by decide +kernel
theorem dX0_trapErrors_27 : decode cX0_trapErrors 27 = .ok (.iload_n 2, 1) := by decide +kernel
theorem dX0_trapErrors_28 : decode cX0_trapErrors 28 = .ok (.ior, 1) := by decide +kernel
theorem dX0_trapErrors_29 : decode cX0_trapErrors 29 = .ok (.istore_n 3, 1) := by decide +kernel
theorem dX0_trapErrors_30 : decode cX0_trapErrors 30 = .ok (.iload_n 3, 1) := by decide +kernel
theorem dX0_trapErrors_31 : decode cX0_trapErrors 31 = .ok (.invokestatic 15, 3) := by decide +kernel
theorem dX0_trapErrors_34 : decode cX0_trapErrors 34 = .ok (.iconst 3, 1) := by decide +kernel
theorem dX0_trapErrors_35 : decode cX0_trapErrors 35 = .ok (.if_icmp .gt 7, 3) := by decide +kernel
theorem dX0_trapErrors_38 : decode cX0_trapErrors 38 = .ok (.iload_n 3, 1) := by decide +kernel
theorem dX0_trapErrors_39 : decode cX0_trapErrors 39 = .ok (.goto 5, 3) := by decide +kernel
theorem dX0_trapErrors_42 : decode cX0_trapErrors 42 = .ok (.bipush (-6), 2) := by decide +kernel
theorem dX0_trapErrors_44 : decode cX0_trapErrors 44 = .ok (.ireturn, 1) := by decide +kernel
theorem dX0_target_0 : decode cX0_target 0 = .ok (.iload_n 1, 1) := by decide +kernel
theorem dX0_target_1 : decode cX0_target 1 = .ok (.iload_n 0, 1) := by decide +kernel
theorem dX0_target_2 : decode cX0_target 2 = .ok (.imul, 1) := by decide +kernel
theorem dX0_target_3 : decode cX0_target 3 = .ok (.iload_n 2, 1) := by decide +kernel
theorem dX0_target_4 : decode cX0_target 4 = .ok (.iadd, 1) := by decide +kernel
theorem dX0_target_5 : decode cX0_target 5 = .ok (.bipush 23, 2) := by decide +kernel
theorem dX0_target_7 : decode cX0_target 7 = .ok (.irem, 1) := by decide +kernel
theorem dX0_target_8 : decode cX0_target 8 = .ok (.ireturn, 1) := by decide +kernel
set_option maxRecDepth 20000 in
theorem ggX0_carry_X0_target : GoodIn wsX0_carry wsX0_target := goodIn_r _ [4] (by decide +kernel) (by decide +kernel)
set_option maxRecDepth 20000 in
theorem gX0_carry_X0_target : GoodIn wsX0_carry (va_wsS RX0 27 yX0_target wsX0_target) := goodIn_app (goodIn_of _ (by decide +kernel)) ggX0_carry_X0_target
theorem dX0_carry_0 : decode cX0_carry 0 = .ok (.iconst 0, 1) := by decide +kernel
theorem dX0_carry_1 : decode cX0_carry 1 = .ok (.istore_n 3, 1) := by decide +kernel
theorem dX0_carry_2 : decode cX0_carry 2 = .ok (.iconst 0, 1) := by decide +kernel
theorem dX0_carry_3 : decode cX0_carry 3 = .ok (.istore 4, 2) := by decide +kernel
theorem dX0_carry_5 : decode cX0_carry 5 = .ok (.iload 4, 2) := by decide +kernel
theorem dX0_carry_7 : decode cX0_carry 7 = .ok (.bipush 23, 2) := by decide +kernel
theorem dX0_carry_9 : decode cX0_carry 9 = .ok (.if_icmp .ge 26, 3) := by decide +kernel
theorem dX0_carry_12 : decode cX0_carry 12 = .ok (.iload_n 3, 1) := by decide +kernel
theorem dX0_carry_13 : decode cX0_carry 13 = .ok (.iload_n 0, 1) := by decide +kernel
theorem dX0_carry_14 : decode cX0_carry 14 = .ok (.iload 4, 2) := by decide +kernel
theorem dX0_carry_16 : decode cX0_carry 16 = .ok (.iushr, 1) := by decide +kernel
theorem dX0_carry_17 : decode cX0_carry 17 = .ok (.iconst 1, 1) := by decide +kernel
theorem dX0_carry_18 : decode cX0_carry 18 = .ok (.iand, 1) := by decide +kernel
theorem dX0_carry_19 : decode cX0_carry 19 = .ok (.iload 4, 2) := by decide +kernel
theorem dX0_carry_21 : decode cX0_carry 21 = .ok (.iload_n 1, 1) := by decide +kernel
theorem dX0_carry_22 : decode cX0_carry 22 = .ok (.iload_n 2, 1) := by decide +kernel
theorem dX0_carry_23 : decode cX0_carry 23 = .ok (.invokestatic 27, 3) := by decide +kernel
theorem dX0_carry_26 : decode cX0_carry 26 = .ok (.ishl, 1) := by decide +kernel
theorem dX0_carry_27 : decode cX0_carry 27 = .ok (.ior, 1) := by decide +kernel
theorem dX0_carry_28 : decode cX0_carry 28 = .ok (.istore_n 3, 1) := by decide +kernel
theorem dX0_carry_29 : decode cX0_carry 29 = .ok (.iinc 4 1, 3) := by decide +kernel
theorem dX0_carry_32 : decode cX0_carry 32 = .ok (.goto (-27), 3) := by decide +kernel
theorem dX0_carry_35 : decode cX0_carry 35 = .ok (.iload_n 3, 1) := by decide +kernel
theorem dX0_carry_36 : decode cX0_carry 36 = .ok (.ireturn, 1) := by decide +kernel
set_option maxRecDepth 20000 in
theorem ggX0_carryBack_X0_target : GoodIn wsX0_carryBack wsX0_target := goodIn_r _ [4] (by decide +kernel) (by decide +kernel)
set_option maxRecDepth 20000 in
theorem gX0_carryBack_X0_target : GoodIn wsX0_carryBack (va_wsS RX0 27 yX0_target wsX0_target) := goodIn_app (goodIn_of _ (by decide +kernel)) ggX0_carryBack_X0_target
theorem dX0_carryBack_0 : decode cX0_carryBack 0 = .ok (.iconst 0, 1) := by decide +kernel
theorem dX0_carryBack_1 : decode cX0_carryBack 1 = .ok (.istore_n 3, 1) := by decide +kernel
theorem dX0_carryBack_2 : decode cX0_carryBack 2 = .ok (.iconst 0, 1) := by decide +kernel
theorem dX0_carryBack_3 : decode cX0_carryBack 3 = .ok (.istore 4, 2) := by decide +kernel
theorem dX0_carryBack_5 : decode cX0_carryBack 5 = .ok (.iload 4, 2) := by decide +kernel
theorem dX0_carryBack_7 : decode cX0_carryBack 7 = .ok (.bipush 23, 2) := by decide +kernel
theorem dX0_carryBack_9 : decode cX0_carryBack 9 = .ok (.if_icmp .ge 26, 3) := by decide +kernel
theorem dX0_carryBack_12 : decode cX0_carryBack 12 = .ok (.iload_n 3, 1) := by decide +kernel
theorem dX0_carryBack_13 : decode cX0_carryBack 13 = .ok (.iload_n 0, 1) := by decide +kernel
theorem dX0_carryBack_14 : decode cX0_carryBack 14 = .ok (.iload 4, 2) := by decide +kernel
theorem dX0_carryBack_16 : decode cX0_carryBack 16 = .ok (.iload_n 1, 1) := by decide +kernel
theorem dX0_carryBack_17 : decode cX0_carryBack 17 = .ok (.iload_n 2, 1) := by decide +kernel
theorem dX0_carryBack_18 : decode cX0_carryBack 18 = .ok (.invokestatic 27, 3) := by decide +kernel
theorem dX0_carryBack_21 : decode cX0_carryBack 21 = .ok (.iushr, 1) := by decide +kernel
theorem dX0_carryBack_22 : decode cX0_carryBack 22 = .ok (.iconst 1, 1) := by decide +kernel
theorem dX0_carryBack_23 : decode cX0_carryBack 23 = .ok (.iand, 1) := by decide +kernel
theorem dX0_carryBack_24 : decode cX0_carryBack 24 = .ok (.iload 4, 2) := by decide +kernel
theorem dX0_carryBack_26 : decode cX0_carryBack 26 = .ok (.ishl, 1) := by decide +kernel
theorem dX0_carryBack_27 : decode cX0_carryBack 27 = .ok (.ior, 1) := by decide +kernel
theorem dX0_carryBack_28 : decode cX0_carryBack 28 = .ok (.istore_n 3, 1) := by decide +kernel
theorem dX0_carryBack_29 : decode cX0_carryBack 29 = .ok (.iinc 4 1, 3) := by decide +kernel
theorem dX0_carryBack_32 : decode cX0_carryBack 32 = .ok (.goto (-27), 3) := by decide +kernel
theorem dX0_carryBack_35 : decode cX0_carryBack 35 = .ok (.iload_n 3, 1) := by decide +kernel
theorem dX0_carryBack_36 : decode cX0_carryBack 36 = .ok (.ireturn, 1) := by decide +kernel
set_option maxRecDepth 20000 in
theorem ggX0_staysInCode_X0_carry : GoodIn wsX0_staysInCode wsX0_carry := goodIn_r _ [4, 5, 6, 3, 7] (by decide +kernel) (by decide +kernel)
set_option maxRecDepth 20000 in
theorem gX0_staysInCode_X0_carry : GoodIn wsX0_staysInCode (va_wsS RX0 31 yX0_carry wsX0_carry) := goodIn_app (goodIn_of _ (by decide +kernel)) ggX0_staysInCode_X0_carry
set_option maxRecDepth 20000 in
theorem ggX0_staysInCode_X0_remainder : GoodIn wsX0_staysInCode wsX0_remainder := goodIn_r _ [10] (by decide +kernel) (by decide +kernel)
set_option maxRecDepth 20000 in
theorem gX0_staysInCode_X0_remainder : GoodIn wsX0_staysInCode (va_wsS RX0 9 yX0_remainder wsX0_remainder) := goodIn_app (goodIn_of _ (by decide +kernel)) ggX0_staysInCode_X0_remainder
theorem dX0_staysInCode_0 : decode cX0_staysInCode 0 = .ok (.iconst 0, 1) := by decide +kernel
theorem dX0_staysInCode_1 : decode cX0_staysInCode 1 = .ok (.istore_n 2, 1) := by decide +kernel
theorem dX0_staysInCode_2 : decode cX0_staysInCode 2 = .ok (.iload_n 2, 1) := by decide +kernel
theorem dX0_staysInCode_3 : decode cX0_staysInCode 3 = .ok (.bipush 12, 2) := by decide +kernel
theorem dX0_staysInCode_5 : decode cX0_staysInCode 5 = .ok (.if_icmp .ge 27, 3) := by decide +kernel
theorem dX0_staysInCode_8 : decode cX0_staysInCode 8 = .ok (.sipush 3189, 3) := by decide +kernel
theorem dX0_staysInCode_11 : decode cX0_staysInCode 11 = .ok (.iload_n 2, 1) := by decide +kernel
theorem dX0_staysInCode_12 : decode cX0_staysInCode 12 = .ok (.ishl, 1) := by decide +kernel
theorem dX0_staysInCode_13 : decode cX0_staysInCode 13 = .ok (.iload_n 0, 1) := by decide +kernel
theorem dX0_staysInCode_14 : decode cX0_staysInCode 14 = .ok (.iload_n 1, 1) := by decide +kernel
theorem dX0_staysInCode_15 : decode cX0_staysInCode 15 = .ok (.invokestatic 31, 3) := by decide +kernel
theorem dX0_staysInCode_18 : decode cX0_staysInCode 18 = .ok (.invokestatic 9, 3) := by decide +kernel
theorem dX0_staysInCode_21 : decode cX0_staysInCode 21 = .ok (.ifCond .eq 5, 3) := by decide +kernel
theorem dX0_staysInCode_24 : decode cX0_staysInCode 24 = .ok (.iconst 0, 1) := by decide +kernel
theorem dX0_staysInCode_25 : decode cX0_staysInCode 25 = .ok (.ireturn, 1) := by decide +kernel
theorem dX0_staysInCode_26 : decode cX0_staysInCode 26 = .ok (.iinc 2 1, 3) := by decide +kernel
theorem dX0_staysInCode_29 : decode cX0_staysInCode 29 = .ok (.goto (-27), 3) := by decide +kernel
theorem dX0_staysInCode_32 : decode cX0_staysInCode 32 = .ok (.iconst 1, 1) := by decide +kernel
theorem dX0_staysInCode_33 : decode cX0_staysInCode 33 = .ok (.ireturn, 1) := by decide +kernel
set_option maxRecDepth 20000 in
theorem ggX1_init_X3_init : GoodIn wsX1_init wsX3_init := goodIn_r _ [13, 14, 2, 3, 15, 16, 17, 18, 19, 24, 25, 26, 27] (by decide +kernel) (by decide +kernel)
set_option maxRecDepth 20000 in
theorem gX1_init_X3_init_n9 : GoodIn wsX1_init (wsX3_init) := ggX1_init_X3_init
set_option maxRecDepth 20000 in
theorem ggX1_init_X4_init : GoodIn wsX1_init wsX4_init := goodIn_r _ [21, 22, 2, 3, 16, 23, 30] (by decide +kernel) (by decide +kernel)
set_option maxRecDepth 20000 in
theorem gX1_init_X4_init_n18 : GoodIn wsX1_init (wsX4_init) := ggX1_init_X4_init
theorem dX1_init_0 : decode cX1_init 0 = .ok (.aload_n 0, 1) := by decide +kernel
theorem dX1_init_1 : decode cX1_init 1 = .ok (.invokespecial 1, 3) := by decide +kernel
theorem dX1_init_4 : decode cX1_init 4 = .ok (.aload_n 0, 1) := by decide +kernel
theorem dX1_init_5 : decode cX1_init 5 = .ok (.new 7, 3) := by decide +kernel
theorem dX1_init_8 : decode cX1_init 8 = .ok (.dup, 1) := by decide +kernel
theorem dX1_init_9 : decode cX1_init 9 = .ok (.invokespecial 9, 3) := by decide +kernel
theorem dX1_init_12 : decode cX1_init 12 = .ok (.putfield 10, 3) := by decide +kernel
theorem dX1_init_15 : decode cX1_init 15 = .ok (.aload_n 0, 1) := by decide +kernel
theorem dX1_init_16 : decode cX1_init 16 = .ok (.new 16, 3) := by decide +kernel
theorem dX1_init_19 : decode cX1_init 19 = .ok (.dup, 1) := by decide +kernel
theorem dX1_init_20 : decode cX1_init 20 = .ok (.invokespecial 18, 3) := by decide +kernel
theorem dX1_init_23 : decode cX1_init 23 = .ok (.putfield 19, 3) := by decide +kernel
theorem dX1_init_26 : decode cX1_init 26 = .ok (.return_, 1) := by decide +kernel
set_option maxRecDepth 20000 in
theorem ggX1_copyFrom_X3_copyFrom : GoodIn wsX1_copyFrom wsX3_copyFrom := goodIn_r _ [6, 7, 8, 9, 10, 18, 19, 20, 21] (by decide +kernel) (by decide +kernel)
set_option maxRecDepth 20000 in
theorem gX1_copyFrom_X3_copyFrom_n23 : GoodIn wsX1_copyFrom (wsX3_copyFrom) := ggX1_copyFrom_X3_copyFrom
set_option maxRecDepth 20000 in
theorem ggX1_copyFrom_X4_copyFrom : GoodIn wsX1_copyFrom wsX4_copyFrom := goodIn_r _ [14, 15, 22] (by decide +kernel) (by decide +kernel)
set_option maxRecDepth 20000 in
theorem gX1_copyFrom_X4_copyFrom_n27 : GoodIn wsX1_copyFrom (wsX4_copyFrom) := ggX1_copyFrom_X4_copyFrom
theorem dX1_copyFrom_0 : decode cX1_copyFrom 0 = .ok (.aload_n 0, 1) := by decide +kernel
theorem dX1_copyFrom_1 : decode cX1_copyFrom 1 = .ok (.getfield 10, 3) := by decide +kernel
theorem dX1_copyFrom_4 : decode cX1_copyFrom 4 = .ok (.aload_n 1, 1) := by decide +kernel
theorem dX1_copyFrom_5 : decode cX1_copyFrom 5 = .ok (.getfield 10, 3) := by decide +kernel
theorem dX1_copyFrom_8 : decode cX1_copyFrom 8 = .ok (.invokevirtual 23, 3) := by decide +kernel
theorem dX1_copyFrom_11 : decode cX1_copyFrom 11 = .ok (.aload_n 0, 1) := by decide +kernel
theorem dX1_copyFrom_12 : decode cX1_copyFrom 12 = .ok (.getfield 19, 3) := by decide +kernel
theorem dX1_copyFrom_15 : decode cX1_copyFrom 15 = .ok (.aload_n 1, 1) := by decide +kernel
theorem dX1_copyFrom_16 : decode cX1_copyFrom 16 = .ok (.getfield 19, 3) := by decide +kernel
theorem dX1_copyFrom_19 : decode cX1_copyFrom 19 = .ok (.invokevirtual 27, 3) := by decide +kernel
theorem dX1_copyFrom_22 : decode cX1_copyFrom 22 = .ok (.return_, 1) := by decide +kernel
set_option maxRecDepth 20000 in
theorem ggX2_init_X0_remainder : GoodIn wsX2_init wsX0_remainder := goodIn_r _ [8] (by decide +kernel) (by decide +kernel)
set_option maxRecDepth 20000 in
theorem gX2_init_X0_remainder_n15 : GoodIn wsX2_init (wsX0_remainder) := ggX2_init_X0_remainder
set_option maxRecDepth 20000 in
theorem ggX2_init_X2_enter : GoodIn wsX2_init wsX2_enter := goodIn_r _ [13, 5, 14, 15, 16, 17] (by decide +kernel) (by decide +kernel)
set_option maxRecDepth 20000 in
theorem gX2_init_X2_enter : GoodIn wsX2_init (wsV RX2 21 RX2 yX2_enter wsX2_enter) := goodIn_app (goodIn_of _ (by decide +kernel)) ggX2_init_X2_enter
theorem dX2_init_0 : decode cX2_init 0 = .ok (.aload_n 0, 1) := by decide +kernel
theorem dX2_init_1 : decode cX2_init 1 = .ok (.invokespecial 3, 3) := by decide +kernel
theorem dX2_init_4 : decode cX2_init 4 = .ok (.aload_n 0, 1) := by decide +kernel
theorem dX2_init_5 : decode cX2_init 5 = .ok (.sipush 2048, 3) := by decide +kernel
theorem dX2_init_8 : decode cX2_init 8 = .ok (.newarray .int, 2) := by decide +kernel
theorem dX2_init_10 : decode cX2_init 10 = .ok (.putfield 9, 3) := by decide +kernel
theorem dX2_init_13 : decode cX2_init 13 = .ok (.bipush 23, 2) := by decide +kernel
theorem dX2_init_15 : decode cX2_init 15 = .ok (.newarray .int, 2) := by decide +kernel
theorem dX2_init_17 : decode cX2_init 17 = .ok (.astore_n 1, 1) := by decide +kernel
theorem dX2_init_18 : decode cX2_init 18 = .ok (.iconst 0, 1) := by decide +kernel
theorem dX2_init_19 : decode cX2_init 19 = .ok (.istore_n 2, 1) := by decide +kernel
theorem dX2_init_20 : decode cX2_init 20 = .ok (.iload_n 2, 1) := by decide +kernel
theorem dX2_init_21 : decode cX2_init 21 = .ok (.bipush 23, 2) := by decide +kernel
theorem dX2_init_23 : decode cX2_init 23 = .ok (.if_icmp .ge 18, 3) := by decide +kernel
theorem dX2_init_26 : decode cX2_init 26 = .ok (.aload_n 1, 1) := by decide +kernel
theorem dX2_init_27 : decode cX2_init 27 = .ok (.iload_n 2, 1) := by decide +kernel
theorem dX2_init_28 : decode cX2_init 28 = .ok (.iconst 1, 1) := by decide +kernel
theorem dX2_init_29 : decode cX2_init 29 = .ok (.iload_n 2, 1) := by decide +kernel
theorem dX2_init_30 : decode cX2_init 30 = .ok (.ishl, 1) := by decide +kernel
theorem dX2_init_31 : decode cX2_init 31 = .ok (.invokestatic 15, 3) := by decide +kernel
theorem dX2_init_34 : decode cX2_init 34 = .ok (.iastore, 1) := by decide +kernel
theorem dX2_init_35 : decode cX2_init 35 = .ok (.iinc 2 1, 3) := by decide +kernel
theorem dX2_init_38 : decode cX2_init 38 = .ok (.goto (-18), 3) := by decide +kernel
theorem dX2_init_41 : decode cX2_init 41 = .ok (.iconst 0, 1) := by decide +kernel
theorem dX2_init_42 : decode cX2_init 42 = .ok (.istore_n 2, 1) := by decide +kernel
theorem dX2_init_43 : decode cX2_init 43 = .ok (.iload_n 2, 1) := by decide +kernel
theorem dX2_init_44 : decode cX2_init 44 = .ok (.bipush 23, 2) := by decide +kernel
theorem dX2_init_46 : decode cX2_init 46 = .ok (.if_icmp .ge 91, 3) := by decide +kernel
theorem dX2_init_49 : decode cX2_init 49 = .ok (.aload_n 0, 1) := by decide +kernel
theorem dX2_init_50 : decode cX2_init 50 = .ok (.aload_n 1, 1) := by decide +kernel
theorem dX2_init_51 : decode cX2_init 51 = .ok (.iload_n 2, 1) := by decide +kernel
theorem dX2_init_52 : decode cX2_init 52 = .ok (.iaload, 1) := by decide +kernel
theorem dX2_init_53 : decode cX2_init 53 = .ok (.iconst 1, 1) := by decide +kernel
theorem dX2_init_54 : decode cX2_init 54 = .ok (.iload_n 2, 1) := by decide +kernel
theorem dX2_init_55 : decode cX2_init 55 = .ok (.ishl, 1) := by decide +kernel
theorem dX2_init_56 : decode cX2_init 56 = .ok (.invokevirtual 21, 3) := by decide +kernel
theorem dX2_init_59 : decode cX2_init 59 = .ok (.iconst 0, 1) := by decide +kernel
theorem dX2_init_60 : decode cX2_init 60 = .ok (.istore_n 3, 1) := by decide +kernel
theorem dX2_init_61 : decode cX2_init 61 = .ok (.iload_n 3, 1) := by decide +kernel
theorem dX2_init_62 : decode cX2_init 62 = .ok (.iload_n 2, 1) := by decide +kernel
theorem dX2_init_63 : decode cX2_init 63 = .ok (.if_icmp .ge 68, 3) := by decide +kernel
theorem dX2_init_66 : decode cX2_init 66 = .ok (.aload_n 1, 1) := by decide +kernel
theorem dX2_init_67 : decode cX2_init 67 = .ok (.iload_n 2, 1) := by decide +kernel
theorem dX2_init_68 : decode cX2_init 68 = .ok (.iaload, 1) := by decide +kernel
theorem dX2_init_69 : decode cX2_init 69 = .ok (.aload_n 1, 1) := by decide +kernel
theorem dX2_init_70 : decode cX2_init 70 = .ok (.iload_n 3, 1) := by decide +kernel
theorem dX2_init_71 : decode cX2_init 71 = .ok (.iaload, 1) := by decide +kernel
theorem dX2_init_72 : decode cX2_init 72 = .ok (.ixor, 1) := by decide +kernel
theorem dX2_init_73 : decode cX2_init 73 = .ok (.istore 4, 2) := by decide +kernel
theorem dX2_init_75 : decode cX2_init 75 = .ok (.iconst 1, 1) := by decide +kernel
theorem dX2_init_76 : decode cX2_init 76 = .ok (.iload_n 2, 1) := by decide +kernel
theorem dX2_init_77 : decode cX2_init 77 = .ok (.ishl, 1) := by decide +kernel
theorem dX2_init_78 : decode cX2_init 78 = .ok (.iconst 1, 1) := by decide +kernel
theorem dX2_init_79 : decode cX2_init 79 = .ok (.iload_n 3, 1) := by decide +kernel
theorem dX2_init_80 : decode cX2_init 80 = .ok (.ishl, 1) := by decide +kernel
theorem dX2_init_81 : decode cX2_init 81 = .ok (.ior, 1) := by decide +kernel
theorem dX2_init_82 : decode cX2_init 82 = .ok (.istore 5, 2) := by decide +kernel
theorem dX2_init_84 : decode cX2_init 84 = .ok (.aload_n 0, 1) := by decide +kernel
theorem dX2_init_85 : decode cX2_init 85 = .ok (.iload 4, 2) := by decide +kernel
theorem dX2_init_87 : decode cX2_init 87 = .ok (.iload 5, 2) := by decide +kernel
theorem dX2_init_89 : decode cX2_init 89 = .ok (.invokevirtual 21, 3) := by decide +kernel
theorem dX2_init_92 : decode cX2_init 92 = .ok (.iconst 0, 1) := by decide +kernel
theorem dX2_init_93 : decode cX2_init 93 = .ok (.istore 6, 2) := by decide +kernel
theorem dX2_init_95 : decode cX2_init 95 = .ok (.iload 6, 2) := by decide +kernel
theorem dX2_init_97 : decode cX2_init 97 = .ok (.iload_n 3, 1) := by decide +kernel
theorem dX2_init_98 : decode cX2_init 98 = .ok (.if_icmp .ge 27, 3) := by decide +kernel
theorem dX2_init_101 : decode cX2_init 101 = .ok (.aload_n 0, 1) := by decide +kernel
theorem dX2_init_102 : decode cX2_init 102 = .ok (.iload 4, 2) := by decide +kernel
theorem dX2_init_104 : decode cX2_init 104 = .ok (.aload_n 1, 1) := by decide +kernel
theorem dX2_init_105 : decode cX2_init 105 = .ok (.iload 6, 2) := by decide +kernel
theorem dX2_init_107 : decode cX2_init 107 = .ok (.iaload, 1) := by decide +kernel
theorem dX2_init_108 : decode cX2_init 108 = .ok (.ixor, 1) := by decide +kernel
theorem dX2_init_109 : decode cX2_init 109 = .ok (.iload 5, 2) := by decide +kernel
theorem dX2_init_111 : decode cX2_init 111 = .ok (.iconst 1, 1) := by decide +kernel
theorem dX2_init_112 : decode cX2_init 112 = .ok (.iload 6, 2) := by decide +kernel
theorem dX2_init_114 : decode cX2_init 114 = .ok (.ishl, 1) := by decide +kernel
theorem dX2_init_115 : decode cX2_init 115 = .ok (.ior, 1) := by decide +kernel
theorem dX2_init_116 : decode cX2_init 116 = .ok (.invokevirtual 21, 3) := by decide +kernel
theorem dX2_init_119 : decode cX2_init 119 = .ok (.iinc 6 1, 3) := by decide +kernel
theorem dX2_init_122 : decode cX2_init 122 = .ok (.goto (-27), 3) := by decide +kernel
theorem dX2_init_125 : decode cX2_init 125 = .ok (.iinc 3 1, 3) := by decide +kernel
theorem dX2_init_128 : decode cX2_init 128 = .ok (.goto (-67), 3) := by decide +kernel
theorem dX2_init_131 : decode cX2_init 131 = .ok (.iinc 2 1, 3) := by decide +kernel
theorem dX2_init_134 : decode cX2_init 134 = .ok (.goto (-91), 3) := by decide +kernel
theorem dX2_init_137 : decode cX2_init 137 = .ok (.return_, 1) := by decide +kernel
set_option maxRecDepth 20000 in
theorem ggX2_enter_X5_isBelow : GoodIn wsX2_enter wsX5_isBelow := goodIn_r _ [4] (by decide +kernel) (by decide +kernel)
set_option maxRecDepth 20000 in
theorem gX2_enter_X5_isBelow_n25 : GoodIn wsX2_enter (wsX5_isBelow) := ggX2_enter_X5_isBelow
theorem dX2_enter_0 : decode cX2_enter 0 = .ok (.iload_n 1, 1) := by decide +kernel
theorem dX2_enter_1 : decode cX2_enter 1 = .ok (.sipush 2048, 3) := by decide +kernel
theorem dX2_enter_4 : decode cX2_enter 4 = .ok (.invokestatic 25, 3) := by decide +kernel
theorem dX2_enter_7 : decode cX2_enter 7 = .ok (.ifCond .eq 10, 3) := by decide +kernel
theorem dX2_enter_10 : decode cX2_enter 10 = .ok (.aload_n 0, 1) := by decide +kernel
theorem dX2_enter_11 : decode cX2_enter 11 = .ok (.getfield 9, 3) := by decide +kernel
theorem dX2_enter_14 : decode cX2_enter 14 = .ok (.iload_n 1, 1) := by decide +kernel
theorem dX2_enter_15 : decode cX2_enter 15 = .ok (.iload_n 2, 1) := by decide +kernel
theorem dX2_enter_16 : decode cX2_enter 16 = .ok (.iastore, 1) := by decide +kernel
theorem dX2_enter_17 : decode cX2_enter 17 = .ok (.return_, 1) := by decide +kernel
set_option maxRecDepth 20000 in
theorem ggX2_errors_X0_remainder : GoodIn wsX2_errors wsX0_remainder := goodIn_r _ [4] (by decide +kernel) (by decide +kernel)
set_option maxRecDepth 20000 in
theorem gX2_errors_X0_remainder_n15 : GoodIn wsX2_errors (wsX0_remainder) := ggX2_errors_X0_remainder
set_option maxRecDepth 20000 in
theorem ggX2_errors_X5_isBelow : GoodIn wsX2_errors wsX5_isBelow := goodIn_r _ [7] (by decide +kernel) (by decide +kernel)
set_option maxRecDepth 20000 in
theorem gX2_errors_X5_isBelow_n25 : GoodIn wsX2_errors (wsX5_isBelow) := ggX2_errors_X5_isBelow
theorem dX2_errors_0 : decode cX2_errors 0 = .ok (.iload_n 1, 1) := by decide +kernel
theorem dX2_errors_1 : decode cX2_errors 1 = .ok (.invokestatic 15, 3) := by decide +kernel
theorem dX2_errors_4 : decode cX2_errors 4 = .ok (.istore_n 2, 1) := by decide +kernel
theorem dX2_errors_5 : decode cX2_errors 5 = .ok (.iload_n 2, 1) := by decide +kernel
theorem dX2_errors_6 : decode cX2_errors 6 = .ok (.sipush 2048, 3) := by decide +kernel
theorem dX2_errors_9 : decode cX2_errors 9 = .ok (.invokestatic 25, 3) := by decide +kernel
theorem dX2_errors_12 : decode cX2_errors 12 = .ok (.ifCond .eq 12, 3) := by decide +kernel
theorem dX2_errors_15 : decode cX2_errors 15 = .ok (.aload_n 0, 1) := by decide +kernel
theorem dX2_errors_16 : decode cX2_errors 16 = .ok (.getfield 9, 3) := by decide +kernel
theorem dX2_errors_19 : decode cX2_errors 19 = .ok (.iload_n 2, 1) := by decide +kernel
theorem dX2_errors_20 : decode cX2_errors 20 = .ok (.iaload, 1) := by decide +kernel
theorem dX2_errors_21 : decode cX2_errors 21 = .ok (.goto 4, 3) := by decide +kernel
theorem dX2_errors_24 : decode cX2_errors 24 = .ok (.iconst 0, 1) := by decide +kernel
theorem dX2_errors_25 : decode cX2_errors 25 = .ok (.ireturn, 1) := by decide +kernel
set_option maxRecDepth 20000 in
theorem ggX2_nearest_X2_errors : GoodIn wsX2_nearest wsX2_errors := goodIn_r _ [5, 6, 7, 8, 9, 10, 11, 12, 13] (by decide +kernel) (by decide +kernel)
set_option maxRecDepth 20000 in
theorem gX2_nearest_X2_errors : GoodIn wsX2_nearest (wsV RX2 29 RX2 yX2_errors wsX2_errors) := goodIn_app (goodIn_of _ (by decide +kernel)) ggX2_nearest_X2_errors
theorem dX2_nearest_0 : decode cX2_nearest 0 = .ok (.iload_n 1, 1) := by decide +kernel
theorem dX2_nearest_1 : decode cX2_nearest 1 = .ok (.aload_n 0, 1) := by decide +kernel
theorem dX2_nearest_2 : decode cX2_nearest 2 = .ok (.iload_n 1, 1) := by decide +kernel
theorem dX2_nearest_3 : decode cX2_nearest 3 = .ok (.invokevirtual 29, 3) := by decide +kernel
theorem dX2_nearest_6 : decode cX2_nearest 6 = .ok (.ixor, 1) := by decide +kernel
theorem dX2_nearest_7 : decode cX2_nearest 7 = .ok (.ireturn, 1) := by decide +kernel
set_option maxRecDepth 20000 in
theorem ggX2_distance_X2_errors : GoodIn wsX2_distance wsX2_errors := goodIn_r _ [5, 6, 7, 8, 9, 10, 11, 12, 20] (by decide +kernel) (by decide +kernel)
set_option maxRecDepth 20000 in
theorem gX2_distance_X2_errors : GoodIn wsX2_distance (wsV RX2 29 RX2 yX2_errors wsX2_errors) := goodIn_app (goodIn_of _ (by decide +kernel)) ggX2_distance_X2_errors
set_option maxRecDepth 20000 in
theorem ggX2_distance_J6_bitCount_0f7a4 : GoodIn wsX2_distance wsJ6_bitCount_0f7a4 := goodIn_r _ [16, 17, 18, 19] (by decide +kernel) (by decide +kernel)
set_option maxRecDepth 20000 in
theorem gX2_distance_J6_bitCount_0f7a4 : GoodIn wsX2_distance (va_wsS RX2 32 yJ6_bitCount_0f7a4 wsJ6_bitCount_0f7a4) := goodIn_app (goodIn_of _ (by decide +kernel)) ggX2_distance_J6_bitCount_0f7a4
theorem dX2_distance_0 : decode cX2_distance 0 = .ok (.aload_n 0, 1) := by decide +kernel
theorem dX2_distance_1 : decode cX2_distance 1 = .ok (.iload_n 1, 1) := by decide +kernel
theorem dX2_distance_2 : decode cX2_distance 2 = .ok (.invokevirtual 29, 3) := by decide +kernel
theorem dX2_distance_5 : decode cX2_distance 5 = .ok (.invokestatic 32, 3) := by decide +kernel
theorem dX2_distance_8 : decode cX2_distance 8 = .ok (.ireturn, 1) := by decide +kernel
theorem dX3_init_0 : decode cX3_init 0 = .ok (.aload_n 0, 1) := by decide +kernel
theorem dX3_init_1 : decode cX3_init 1 = .ok (.invokespecial 3, 3) := by decide +kernel
theorem dX3_init_4 : decode cX3_init 4 = .ok (.aload_n 0, 1) := by decide +kernel
theorem dX3_init_5 : decode cX3_init 5 = .ok (.iconst 0, 1) := by decide +kernel
theorem dX3_init_6 : decode cX3_init 6 = .ok (.putfield 9, 3) := by decide +kernel
theorem dX3_init_9 : decode cX3_init 9 = .ok (.aload_n 0, 1) := by decide +kernel
theorem dX3_init_10 : decode cX3_init 10 = .ok (.bipush 8, 2) := by decide +kernel
theorem dX3_init_12 : decode cX3_init 12 = .ok (.newarray .int, 2) := by decide +kernel
theorem dX3_init_14 : decode cX3_init 14 = .ok (.putfield 15, 3) := by decide +kernel
theorem dX3_init_17 : decode cX3_init 17 = .ok (.aload_n 0, 1) := by decide +kernel
theorem dX3_init_18 : decode cX3_init 18 = .ok (.bipush 8, 2) := by decide +kernel
theorem dX3_init_20 : decode cX3_init 20 = .ok (.newarray .int, 2) := by decide +kernel
theorem dX3_init_22 : decode cX3_init 22 = .ok (.putfield 19, 3) := by decide +kernel
theorem dX3_init_25 : decode cX3_init 25 = .ok (.aload_n 0, 1) := by decide +kernel
theorem dX3_init_26 : decode cX3_init 26 = .ok (.bipush 8, 2) := by decide +kernel
theorem dX3_init_28 : decode cX3_init 28 = .ok (.newarray .int, 2) := by decide +kernel
theorem dX3_init_30 : decode cX3_init 30 = .ok (.putfield 22, 3) := by decide +kernel
theorem dX3_init_33 : decode cX3_init 33 = .ok (.return_, 1) := by decide +kernel
theorem dX3_copyFrom_0 : decode cX3_copyFrom 0 = .ok (.aload_n 0, 1) := by decide +kernel
theorem dX3_copyFrom_1 : decode cX3_copyFrom 1 = .ok (.aload_n 1, 1) := by decide +kernel
theorem dX3_copyFrom_2 : decode cX3_copyFrom 2 = .ok (.getfield 9, 3) := by decide +kernel
theorem dX3_copyFrom_5 : decode cX3_copyFrom 5 = .ok (.putfield 9, 3) := by decide +kernel
theorem dX3_copyFrom_8 : decode cX3_copyFrom 8 = .ok (.iconst 0, 1) := by decide +kernel
theorem dX3_copyFrom_9 : decode cX3_copyFrom 9 = .ok (.istore_n 2, 1) := by decide +kernel
theorem dX3_copyFrom_10 : decode cX3_copyFrom 10 = .ok (.iload_n 2, 1) := by decide +kernel
theorem dX3_copyFrom_11 : decode cX3_copyFrom 11 = .ok (.bipush 8, 2) := by decide +kernel
theorem dX3_copyFrom_13 : decode cX3_copyFrom 13 = .ok (.if_icmp .ge 45, 3) := by decide +kernel
theorem dX3_copyFrom_16 : decode cX3_copyFrom 16 = .ok (.aload_n 0, 1) := by decide +kernel
theorem dX3_copyFrom_17 : decode cX3_copyFrom 17 = .ok (.getfield 15, 3) := by decide +kernel
theorem dX3_copyFrom_20 : decode cX3_copyFrom 20 = .ok (.iload_n 2, 1) := by decide +kernel
theorem dX3_copyFrom_21 : decode cX3_copyFrom 21 = .ok (.aload_n 1, 1) := by decide +kernel
theorem dX3_copyFrom_22 : decode cX3_copyFrom 22 = .ok (.getfield 15, 3) := by decide +kernel
theorem dX3_copyFrom_25 : decode cX3_copyFrom 25 = .ok (.iload_n 2, 1) := by decide +kernel
theorem dX3_copyFrom_26 : decode cX3_copyFrom 26 = .ok (.iaload, 1) := by decide +kernel
theorem dX3_copyFrom_27 : decode cX3_copyFrom 27 = .ok (.iastore, 1) := by decide +kernel
end
section
theorem dX3_copyFrom_28 : decode cX3_copyFrom 28 = .ok (.aload_n 0, 1) := by decide +kernel
theorem dX3_copyFrom_29 : decode cX3_copyFrom 29 = .ok (.getfield 19, 3) := by decide +kernel
theorem dX3_copyFrom_32 : decode cX3_copyFrom 32 = .ok (.iload_n 2, 1) := by decide +kernel
theorem dX3_copyFrom_33 : decode cX3_copyFrom 33 = .ok (.aload_n 1, 1) := by decide +kernel
theorem dX3_copyFrom_34 : decode cX3_copyFrom 34 = .ok (.getfield 19, 3) := by decide +kernel
theorem dX3_copyFrom_37 : decode cX3_copyFrom 37 = .ok (.iload_n 2, 1) := by decide +kernel
theorem dX3_copyFrom_38 : decode cX3_copyFrom 38 = .ok (.iaload, 1) := by decide +kernel
theorem dX3_copyFrom_39 : decode cX3_copyFrom 39 = .ok (.iastore, 1) := by decide +kernel
theorem dX3_copyFrom_40 : decode cX3_copyFrom 40 = .ok (.aload_n 0, 1) := by decide +kernel
theorem dX3_copyFrom_41 : decode cX3_copyFrom 41 = .ok (.getfield 22, 3) := by decide +kernel
theorem dX3_copyFrom_44 : decode cX3_copyFrom 44 = .ok (.iload_n 2, 1) := by decide +kernel
theorem dX3_copyFrom_45 : decode cX3_copyFrom 45 = .ok (.aload_n 1, 1) := by decide +kernel
theorem dX3_copyFrom_46 : decode cX3_copyFrom 46 = .ok (.getfield 22, 3) := by decide +kernel
theorem dX3_copyFrom_49 : decode cX3_copyFrom 49 = .ok (.iload_n 2, 1) := by decide +kernel
theorem dX3_copyFrom_50 : decode cX3_copyFrom 50 = .ok (.iaload, 1) := by decide +kernel
theorem dX3_copyFrom_51 : decode cX3_copyFrom 51 = .ok (.iastore, 1) := by decide +kernel
theorem dX3_copyFrom_52 : decode cX3_copyFrom 52 = .ok (.iinc 2 1, 3) := by decide +kernel
theorem dX3_copyFrom_55 : decode cX3_copyFrom 55 = .ok (.goto (-45), 3) := by decide +kernel
theorem dX3_copyFrom_58 : decode cX3_copyFrom 58 = .ok (.return_, 1) := by decide +kernel
set_option maxRecDepth 20000 in
theorem ggX3_append_X0_carryBack : GoodIn wsX3_append wsX0_carryBack := goodIn_r _ [7, 8, 9, 6, 10] (by decide +kernel) (by decide +kernel)
set_option maxRecDepth 20000 in
theorem gX3_append_X0_carryBack_n25 : GoodIn wsX3_append (wsX0_carryBack) := ggX3_append_X0_carryBack
theorem dX3_append_0 : decode cX3_append 0 = .ok (.aload_n 0, 1) := by decide +kernel
theorem dX3_append_1 : decode cX3_append 1 = .ok (.getfield 9, 3) := by decide +kernel
theorem dX3_append_4 : decode cX3_append 4 = .ok (.bipush 8, 2) := by decide +kernel
theorem dX3_append_6 : decode cX3_append 6 = .ok (.if_icmp .lt 4, 3) := by decide +kernel
theorem dX3_append_9 : decode cX3_append 9 = .ok (.return_, 1) := by decide +kernel
theorem dX3_append_10 : decode cX3_append 10 = .ok (.aload_n 0, 1) := by decide +kernel
theorem dX3_append_11 : decode cX3_append 11 = .ok (.getfield 15, 3) := by decide +kernel
theorem dX3_append_14 : decode cX3_append 14 = .ok (.aload_n 0, 1) := by decide +kernel
theorem dX3_append_15 : decode cX3_append 15 = .ok (.getfield 9, 3) := by decide +kernel
theorem dX3_append_18 : decode cX3_append 18 = .ok (.iload_n 1, 1) := by decide +kernel
theorem dX3_append_19 : decode cX3_append 19 = .ok (.iastore, 1) := by decide +kernel
theorem dX3_append_20 : decode cX3_append 20 = .ok (.aload_n 0, 1) := by decide +kernel
theorem dX3_append_21 : decode cX3_append 21 = .ok (.getfield 19, 3) := by decide +kernel
theorem dX3_append_24 : decode cX3_append 24 = .ok (.aload_n 0, 1) := by decide +kernel
theorem dX3_append_25 : decode cX3_append 25 = .ok (.getfield 9, 3) := by decide +kernel
theorem dX3_append_28 : decode cX3_append 28 = .ok (.iload_n 2, 1) := by decide +kernel
theorem dX3_append_29 : decode cX3_append 29 = .ok (.iastore, 1) := by decide +kernel
theorem dX3_append_30 : decode cX3_append 30 = .ok (.aload_n 0, 1) := by decide +kernel
theorem dX3_append_31 : decode cX3_append 31 = .ok (.getfield 22, 3) := by decide +kernel
theorem dX3_append_34 : decode cX3_append 34 = .ok (.aload_n 0, 1) := by decide +kernel
theorem dX3_append_35 : decode cX3_append 35 = .ok (.getfield 9, 3) := by decide +kernel
theorem dX3_append_38 : decode cX3_append 38 = .ok (.sipush 2047, 3) := by decide +kernel
theorem dX3_append_41 : decode cX3_append 41 = .ok (.iload_n 1, 1) := by decide +kernel
theorem dX3_append_42 : decode cX3_append 42 = .ok (.iload_n 2, 1) := by decide +kernel
theorem dX3_append_43 : decode cX3_append 43 = .ok (.invokestatic 25, 3) := by decide +kernel
theorem dX3_append_46 : decode cX3_append 46 = .ok (.iastore, 1) := by decide +kernel
theorem dX3_append_47 : decode cX3_append 47 = .ok (.aload_n 0, 1) := by decide +kernel
theorem dX3_append_48 : decode cX3_append 48 = .ok (.dup, 1) := by decide +kernel
theorem dX3_append_49 : decode cX3_append 49 = .ok (.getfield 9, 3) := by decide +kernel
theorem dX3_append_52 : decode cX3_append 52 = .ok (.iconst 1, 1) := by decide +kernel
theorem dX3_append_53 : decode cX3_append 53 = .ok (.iadd, 1) := by decide +kernel
theorem dX3_append_54 : decode cX3_append 54 = .ok (.putfield 9, 3) := by decide +kernel
theorem dX3_append_57 : decode cX3_append 57 = .ok (.return_, 1) := by decide +kernel
set_option maxRecDepth 20000 in
theorem ggX3_removeAt_X5_isBelow : GoodIn wsX3_removeAt wsX5_isBelow := goodIn_r _ [7] (by decide +kernel) (by decide +kernel)
set_option maxRecDepth 20000 in
theorem gX3_removeAt_X5_isBelow_n31 : GoodIn wsX3_removeAt (wsX5_isBelow) := ggX3_removeAt_X5_isBelow
theorem dX3_removeAt_0 : decode cX3_removeAt 0 = .ok (.iload_n 1, 1) := by decide +kernel
theorem dX3_removeAt_1 : decode cX3_removeAt 1 = .ok (.aload_n 0, 1) := by decide +kernel
theorem dX3_removeAt_2 : decode cX3_removeAt 2 = .ok (.getfield 9, 3) := by decide +kernel
theorem dX3_removeAt_5 : decode cX3_removeAt 5 = .ok (.invokestatic 31, 3) := by decide +kernel
theorem dX3_removeAt_8 : decode cX3_removeAt 8 = .ok (.ifCond .ne 4, 3) := by decide +kernel
theorem dX3_removeAt_11 : decode cX3_removeAt 11 = .ok (.return_, 1) := by decide +kernel
theorem dX3_removeAt_12 : decode cX3_removeAt 12 = .ok (.iload_n 1, 1) := by decide +kernel
theorem dX3_removeAt_13 : decode cX3_removeAt 13 = .ok (.istore_n 2, 1) := by decide +kernel
theorem dX3_removeAt_14 : decode cX3_removeAt 14 = .ok (.iload_n 2, 1) := by decide +kernel
theorem dX3_removeAt_15 : decode cX3_removeAt 15 = .ok (.iconst 1, 1) := by decide +kernel
theorem dX3_removeAt_16 : decode cX3_removeAt 16 = .ok (.iadd, 1) := by decide +kernel
theorem dX3_removeAt_17 : decode cX3_removeAt 17 = .ok (.aload_n 0, 1) := by decide +kernel
theorem dX3_removeAt_18 : decode cX3_removeAt 18 = .ok (.getfield 9, 3) := by decide +kernel
theorem dX3_removeAt_21 : decode cX3_removeAt 21 = .ok (.if_icmp .ge 51, 3) := by decide +kernel
theorem dX3_removeAt_24 : decode cX3_removeAt 24 = .ok (.aload_n 0, 1) := by decide +kernel
theorem dX3_removeAt_25 : decode cX3_removeAt 25 = .ok (.getfield 15, 3) := by decide +kernel
theorem dX3_removeAt_28 : decode cX3_removeAt 28 = .ok (.iload_n 2, 1) := by decide +kernel
theorem dX3_removeAt_29 : decode cX3_removeAt 29 = .ok (.aload_n 0, 1) := by decide +kernel
theorem dX3_removeAt_30 : decode cX3_removeAt 30 = .ok (.getfield 15, 3) := by decide +kernel
theorem dX3_removeAt_33 : decode cX3_removeAt 33 = .ok (.iload_n 2, 1) := by decide +kernel
theorem dX3_removeAt_34 : decode cX3_removeAt 34 = .ok (.iconst 1, 1) := by decide +kernel
theorem dX3_removeAt_35 : decode cX3_removeAt 35 = .ok (.iadd, 1) := by decide +kernel
theorem dX3_removeAt_36 : decode cX3_removeAt 36 = .ok (.iaload, 1) := by decide +kernel
theorem dX3_removeAt_37 : decode cX3_removeAt 37 = .ok (.iastore, 1) := by decide +kernel
theorem dX3_removeAt_38 : decode cX3_removeAt 38 = .ok (.aload_n 0, 1) := by decide +kernel
theorem dX3_removeAt_39 : decode cX3_removeAt 39 = .ok (.getfield 19, 3) := by decide +kernel
theorem dX3_removeAt_42 : decode cX3_removeAt 42 = .ok (.iload_n 2, 1) := by decide +kernel
theorem dX3_removeAt_43 : decode cX3_removeAt 43 = .ok (.aload_n 0, 1) := by decide +kernel
theorem dX3_removeAt_44 : decode cX3_removeAt 44 = .ok (.getfield 19, 3) := by decide +kernel
theorem dX3_removeAt_47 : decode cX3_removeAt 47 = .ok (.iload_n 2, 1) := by decide +kernel
theorem dX3_removeAt_48 : decode cX3_removeAt 48 = .ok (.iconst 1, 1) := by decide +kernel
theorem dX3_removeAt_49 : decode cX3_removeAt 49 = .ok (.iadd, 1) := by decide +kernel
theorem dX3_removeAt_50 : decode cX3_removeAt 50 = .ok (.iaload, 1) := by decide +kernel
theorem dX3_removeAt_51 : decode cX3_removeAt 51 = .ok (.iastore, 1) := by decide +kernel
theorem dX3_removeAt_52 : decode cX3_removeAt 52 = .ok (.aload_n 0, 1) := by decide +kernel
theorem dX3_removeAt_53 : decode cX3_removeAt 53 = .ok (.getfield 22, 3) := by decide +kernel
theorem dX3_removeAt_56 : decode cX3_removeAt 56 = .ok (.iload_n 2, 1) := by decide +kernel
theorem dX3_removeAt_57 : decode cX3_removeAt 57 = .ok (.aload_n 0, 1) := by decide +kernel
theorem dX3_removeAt_58 : decode cX3_removeAt 58 = .ok (.getfield 22, 3) := by decide +kernel
theorem dX3_removeAt_61 : decode cX3_removeAt 61 = .ok (.iload_n 2, 1) := by decide +kernel
theorem dX3_removeAt_62 : decode cX3_removeAt 62 = .ok (.iconst 1, 1) := by decide +kernel
theorem dX3_removeAt_63 : decode cX3_removeAt 63 = .ok (.iadd, 1) := by decide +kernel
theorem dX3_removeAt_64 : decode cX3_removeAt 64 = .ok (.iaload, 1) := by decide +kernel
theorem dX3_removeAt_65 : decode cX3_removeAt 65 = .ok (.iastore, 1) := by decide +kernel
theorem dX3_removeAt_66 : decode cX3_removeAt 66 = .ok (.iinc 2 1, 3) := by decide +kernel
theorem dX3_removeAt_69 : decode cX3_removeAt 69 = .ok (.goto (-55), 3) := by decide +kernel
theorem dX3_removeAt_72 : decode cX3_removeAt 72 = .ok (.aload_n 0, 1) := by decide +kernel
theorem dX3_removeAt_73 : decode cX3_removeAt 73 = .ok (.dup, 1) := by decide +kernel
theorem dX3_removeAt_74 : decode cX3_removeAt 74 = .ok (.getfield 9, 3) := by decide +kernel
theorem dX3_removeAt_77 : decode cX3_removeAt 77 = .ok (.iconst 1, 1) := by decide +kernel
theorem dX3_removeAt_78 : decode cX3_removeAt 78 = .ok (.isub, 1) := by decide +kernel
theorem dX3_removeAt_79 : decode cX3_removeAt 79 = .ok (.putfield 9, 3) := by decide +kernel
theorem dX3_removeAt_82 : decode cX3_removeAt 82 = .ok (.return_, 1) := by decide +kernel
theorem dX3_joined_0 : decode cX3_joined 0 = .ok (.iconst 1, 1) := by decide +kernel
theorem dX3_joined_1 : decode cX3_joined 1 = .ok (.iload_n 1, 1) := by decide +kernel
theorem dX3_joined_2 : decode cX3_joined 2 = .ok (.ishl, 1) := by decide +kernel
theorem dX3_joined_3 : decode cX3_joined 3 = .ok (.iconst 1, 1) := by decide +kernel
theorem dX3_joined_4 : decode cX3_joined 4 = .ok (.iload_n 2, 1) := by decide +kernel
theorem dX3_joined_5 : decode cX3_joined 5 = .ok (.ishl, 1) := by decide +kernel
theorem dX3_joined_6 : decode cX3_joined 6 = .ok (.ior, 1) := by decide +kernel
theorem dX3_joined_7 : decode cX3_joined 7 = .ok (.istore 4, 2) := by decide +kernel
theorem dX3_joined_9 : decode cX3_joined 9 = .ok (.iconst 0, 1) := by decide +kernel
theorem dX3_joined_10 : decode cX3_joined 10 = .ok (.istore 5, 2) := by decide +kernel
theorem dX3_joined_12 : decode cX3_joined 12 = .ok (.iconst 0, 1) := by decide +kernel
theorem dX3_joined_13 : decode cX3_joined 13 = .ok (.istore 6, 2) := by decide +kernel
theorem dX3_joined_15 : decode cX3_joined 15 = .ok (.iload 6, 2) := by decide +kernel
theorem dX3_joined_17 : decode cX3_joined 17 = .ok (.iload_n 3, 1) := by decide +kernel
theorem dX3_joined_18 : decode cX3_joined 18 = .ok (.if_icmp .ge 45, 3) := by decide +kernel
theorem dX3_joined_21 : decode cX3_joined 21 = .ok (.iload 6, 2) := by decide +kernel
theorem dX3_joined_23 : decode cX3_joined 23 = .ok (.aload_n 0, 1) := by decide +kernel
theorem dX3_joined_24 : decode cX3_joined 24 = .ok (.getfield 9, 3) := by decide +kernel
theorem dX3_joined_27 : decode cX3_joined 27 = .ok (.if_icmp .ge 36, 3) := by decide +kernel
theorem dX3_joined_30 : decode cX3_joined 30 = .ok (.aload_n 0, 1) := by decide +kernel
theorem dX3_joined_31 : decode cX3_joined 31 = .ok (.getfield 22, 3) := by decide +kernel
theorem dX3_joined_34 : decode cX3_joined 34 = .ok (.iload 6, 2) := by decide +kernel
theorem dX3_joined_36 : decode cX3_joined 36 = .ok (.iaload, 1) := by decide +kernel
theorem dX3_joined_37 : decode cX3_joined 37 = .ok (.iload 4, 2) := by decide +kernel
theorem dX3_joined_39 : decode cX3_joined 39 = .ok (.iand, 1) := by decide +kernel
theorem dX3_joined_40 : decode cX3_joined 40 = .ok (.iload 4, 2) := by decide +kernel
theorem dX3_joined_42 : decode cX3_joined 42 = .ok (.if_icmp .ne 15, 3) := by decide +kernel
theorem dX3_joined_45 : decode cX3_joined 45 = .ok (.iload 5, 2) := by decide +kernel
theorem dX3_joined_47 : decode cX3_joined 47 = .ok (.aload_n 0, 1) := by decide +kernel
theorem dX3_joined_48 : decode cX3_joined 48 = .ok (.getfield 22, 3) := by decide +kernel
theorem dX3_joined_51 : decode cX3_joined 51 = .ok (.iload 6, 2) := by decide +kernel
theorem dX3_joined_53 : decode cX3_joined 53 = .ok (.iaload, 1) := by decide +kernel
theorem dX3_joined_54 : decode cX3_joined 54 = .ok (.ior, 1) := by decide +kernel
theorem dX3_joined_55 : decode cX3_joined 55 = .ok (.istore 5, 2) := by decide +kernel
theorem dX3_joined_57 : decode cX3_joined 57 = .ok (.iinc 6 1, 3) := by decide +kernel
theorem dX3_joined_60 : decode cX3_joined 60 = .ok (.goto (-45), 3) := by decide +kernel
theorem dX3_joined_63 : decode cX3_joined 63 = .ok (.iload 5, 2) := by decide +kernel
theorem dX3_joined_65 : decode cX3_joined 65 = .ok (.ireturn, 1) := by decide +kernel
set_option maxRecDepth 20000 in
theorem ggX3_coveredByFirst_X3_joined : GoodIn wsX3_coveredByFirst wsX3_joined := goodIn_r _ [5, 6, 7, 15, 16, 17, 18] (by decide +kernel) (by decide +kernel)
set_option maxRecDepth 20000 in
theorem gX3_coveredByFirst_X3_joined : GoodIn wsX3_coveredByFirst (wsV RX3 35 RX3 yX3_joined wsX3_joined) := goodIn_app (goodIn_of _ (by decide +kernel)) ggX3_coveredByFirst_X3_joined
set_option maxRecDepth 20000 in
theorem ggX3_coveredByFirst_J6_bitCount_0f7a4 : GoodIn wsX3_coveredByFirst wsJ6_bitCount_0f7a4 := goodIn_r _ [11, 12, 13, 14] (by decide +kernel) (by decide +kernel)
set_option maxRecDepth 20000 in
theorem gX3_coveredByFirst_J6_bitCount_0f7a4 : GoodIn wsX3_coveredByFirst (va_wsS RX3 38 yJ6_bitCount_0f7a4 wsJ6_bitCount_0f7a4) := goodIn_app (goodIn_of _ (by decide +kernel)) ggX3_coveredByFirst_J6_bitCount_0f7a4
theorem dX3_coveredByFirst_0 : decode cX3_coveredByFirst 0 = .ok (.iconst 0, 1) := by decide +kernel
theorem dX3_coveredByFirst_1 : decode cX3_coveredByFirst 1 = .ok (.istore_n 2, 1) := by decide +kernel
theorem dX3_coveredByFirst_2 : decode cX3_coveredByFirst 2 = .ok (.iconst 0, 1) := by decide +kernel
theorem dX3_coveredByFirst_3 : decode cX3_coveredByFirst 3 = .ok (.istore_n 3, 1) := by decide +kernel
theorem dX3_coveredByFirst_4 : decode cX3_coveredByFirst 4 = .ok (.iload_n 3, 1) := by decide +kernel
theorem dX3_coveredByFirst_5 : decode cX3_coveredByFirst 5 = .ok (.bipush 23, 2) := by decide +kernel
theorem dX3_coveredByFirst_7 : decode cX3_coveredByFirst 7 = .ok (.if_icmp .ge 46, 3) := by decide +kernel
theorem dX3_coveredByFirst_10 : decode cX3_coveredByFirst 10 = .ok (.iload_n 3, 1) := by decide +kernel
theorem dX3_coveredByFirst_11 : decode cX3_coveredByFirst 11 = .ok (.iconst 1, 1) := by decide +kernel
theorem dX3_coveredByFirst_12 : decode cX3_coveredByFirst 12 = .ok (.iadd, 1) := by decide +kernel
theorem dX3_coveredByFirst_13 : decode cX3_coveredByFirst 13 = .ok (.istore 4, 2) := by decide +kernel
theorem dX3_coveredByFirst_15 : decode cX3_coveredByFirst 15 = .ok (.iload 4, 2) := by decide +kernel
theorem dX3_coveredByFirst_17 : decode cX3_coveredByFirst 17 = .ok (.bipush 23, 2) := by decide +kernel
theorem dX3_coveredByFirst_19 : decode cX3_coveredByFirst 19 = .ok (.if_icmp .ge 28, 3) := by decide +kernel
theorem dX3_coveredByFirst_22 : decode cX3_coveredByFirst 22 = .ok (.iload_n 2, 1) := by decide +kernel
theorem dX3_coveredByFirst_23 : decode cX3_coveredByFirst 23 = .ok (.aload_n 0, 1) := by decide +kernel
theorem dX3_coveredByFirst_24 : decode cX3_coveredByFirst 24 = .ok (.iload_n 3, 1) := by decide +kernel
theorem dX3_coveredByFirst_25 : decode cX3_coveredByFirst 25 = .ok (.iload 4, 2) := by decide +kernel
theorem dX3_coveredByFirst_27 : decode cX3_coveredByFirst 27 = .ok (.iload_n 1, 1) := by decide +kernel
theorem dX3_coveredByFirst_28 : decode cX3_coveredByFirst 28 = .ok (.invokevirtual 35, 3) := by decide +kernel
theorem dX3_coveredByFirst_31 : decode cX3_coveredByFirst 31 = .ok (.iload 4, 2) := by decide +kernel
theorem dX3_coveredByFirst_33 : decode cX3_coveredByFirst 33 = .ok (.iconst 1, 1) := by decide +kernel
theorem dX3_coveredByFirst_34 : decode cX3_coveredByFirst 34 = .ok (.iadd, 1) := by decide +kernel
theorem dX3_coveredByFirst_35 : decode cX3_coveredByFirst 35 = .ok (.iushr, 1) := by decide +kernel
theorem dX3_coveredByFirst_36 : decode cX3_coveredByFirst 36 = .ok (.invokestatic 38, 3) := by decide +kernel
theorem dX3_coveredByFirst_39 : decode cX3_coveredByFirst 39 = .ok (.iadd, 1) := by decide +kernel
theorem dX3_coveredByFirst_40 : decode cX3_coveredByFirst 40 = .ok (.istore_n 2, 1) := by decide +kernel
theorem dX3_coveredByFirst_41 : decode cX3_coveredByFirst 41 = .ok (.iinc 4 1, 3) := by decide +kernel
theorem dX3_coveredByFirst_44 : decode cX3_coveredByFirst 44 = .ok (.goto (-29), 3) := by decide +kernel
theorem dX3_coveredByFirst_47 : decode cX3_coveredByFirst 47 = .ok (.iinc 3 1, 3) := by decide +kernel
theorem dX3_coveredByFirst_50 : decode cX3_coveredByFirst 50 = .ok (.goto (-46), 3) := by decide +kernel
theorem dX3_coveredByFirst_53 : decode cX3_coveredByFirst 53 = .ok (.iload_n 2, 1) := by decide +kernel
theorem dX3_coveredByFirst_54 : decode cX3_coveredByFirst 54 = .ok (.ireturn, 1) := by decide +kernel
set_option maxRecDepth 20000 in
theorem ggX3_firstNotCovered_X3_joined : GoodIn wsX3_firstNotCovered wsX3_joined := goodIn_r _ [6, 1, 7, 8, 9, 10, 11] (by decide +kernel) (by decide +kernel)
set_option maxRecDepth 20000 in
theorem gX3_firstNotCovered_X3_joined : GoodIn wsX3_firstNotCovered (wsV RX3 35 RX3 yX3_joined wsX3_joined) := goodIn_app (goodIn_of _ (by decide +kernel)) ggX3_firstNotCovered_X3_joined
theorem dX3_firstNotCovered_0 : decode cX3_firstNotCovered 0 = .ok (.iconst 0, 1) := by decide +kernel
theorem dX3_firstNotCovered_1 : decode cX3_firstNotCovered 1 = .ok (.istore_n 1, 1) := by decide +kernel
theorem dX3_firstNotCovered_2 : decode cX3_firstNotCovered 2 = .ok (.iload_n 1, 1) := by decide +kernel
theorem dX3_firstNotCovered_3 : decode cX3_firstNotCovered 3 = .ok (.bipush 23, 2) := by decide +kernel
theorem dX3_firstNotCovered_5 : decode cX3_firstNotCovered 5 = .ok (.if_icmp .ge 76, 3) := by decide +kernel
theorem dX3_firstNotCovered_8 : decode cX3_firstNotCovered 8 = .ok (.iload_n 1, 1) := by decide +kernel
theorem dX3_firstNotCovered_9 : decode cX3_firstNotCovered 9 = .ok (.iconst 1, 1) := by decide +kernel
theorem dX3_firstNotCovered_10 : decode cX3_firstNotCovered 10 = .ok (.iadd, 1) := by decide +kernel
theorem dX3_firstNotCovered_11 : decode cX3_firstNotCovered 11 = .ok (.istore_n 2, 1) := by decide +kernel
theorem dX3_firstNotCovered_12 : decode cX3_firstNotCovered 12 = .ok (.iload_n 2, 1) := by decide +kernel
theorem dX3_firstNotCovered_13 : decode cX3_firstNotCovered 13 = .ok (.bipush 23, 2) := by decide +kernel
theorem dX3_firstNotCovered_15 : decode cX3_firstNotCovered 15 = .ok (.if_icmp .ge 60, 3) := by decide +kernel
theorem dX3_firstNotCovered_18 : decode cX3_firstNotCovered 18 = .ok (.aload_n 0, 1) := by decide +kernel
theorem dX3_firstNotCovered_19 : decode cX3_firstNotCovered 19 = .ok (.iload_n 1, 1) := by decide +kernel
theorem dX3_firstNotCovered_20 : decode cX3_firstNotCovered 20 = .ok (.iload_n 2, 1) := by decide +kernel
theorem dX3_firstNotCovered_21 : decode cX3_firstNotCovered 21 = .ok (.aload_n 0, 1) := by decide +kernel
theorem dX3_firstNotCovered_22 : decode cX3_firstNotCovered 22 = .ok (.getfield 9, 3) := by decide +kernel
theorem dX3_firstNotCovered_25 : decode cX3_firstNotCovered 25 = .ok (.invokevirtual 35, 3) := by decide +kernel
theorem dX3_firstNotCovered_28 : decode cX3_firstNotCovered 28 = .ok (.istore_n 3, 1) := by decide +kernel
theorem dX3_firstNotCovered_29 : decode cX3_firstNotCovered 29 = .ok (.iload_n 2, 1) := by decide +kernel
theorem dX3_firstNotCovered_30 : decode cX3_firstNotCovered 30 = .ok (.iconst 1, 1) := by decide +kernel
theorem dX3_firstNotCovered_31 : decode cX3_firstNotCovered 31 = .ok (.iadd, 1) := by decide +kernel
theorem dX3_firstNotCovered_32 : decode cX3_firstNotCovered 32 = .ok (.istore 4, 2) := by decide +kernel
theorem dX3_firstNotCovered_34 : decode cX3_firstNotCovered 34 = .ok (.iload 4, 2) := by decide +kernel
theorem dX3_firstNotCovered_36 : decode cX3_firstNotCovered 36 = .ok (.bipush 23, 2) := by decide +kernel
theorem dX3_firstNotCovered_38 : decode cX3_firstNotCovered 38 = .ok (.if_icmp .ge 31, 3) := by decide +kernel
theorem dX3_firstNotCovered_41 : decode cX3_firstNotCovered 41 = .ok (.iload_n 3, 1) := by decide +kernel
theorem dX3_firstNotCovered_42 : decode cX3_firstNotCovered 42 = .ok (.iload 4, 2) := by decide +kernel
theorem dX3_firstNotCovered_44 : decode cX3_firstNotCovered 44 = .ok (.iushr, 1) := by decide +kernel
theorem dX3_firstNotCovered_45 : decode cX3_firstNotCovered 45 = .ok (.iconst 1, 1) := by decide +kernel
theorem dX3_firstNotCovered_46 : decode cX3_firstNotCovered 46 = .ok (.iand, 1) := by decide +kernel
theorem dX3_firstNotCovered_47 : decode cX3_firstNotCovered 47 = .ok (.ifCond .ne 16, 3) := by decide +kernel
theorem dX3_firstNotCovered_50 : decode cX3_firstNotCovered 50 = .ok (.iload_n 1, 1) := by decide +kernel
theorem dX3_firstNotCovered_51 : decode cX3_firstNotCovered 51 = .ok (.bipush 23, 2) := by decide +kernel
theorem dX3_firstNotCovered_53 : decode cX3_firstNotCovered 53 = .ok (.imul, 1) := by decide +kernel
theorem dX3_firstNotCovered_54 : decode cX3_firstNotCovered 54 = .ok (.iload_n 2, 1) := by decide +kernel
theorem dX3_firstNotCovered_55 : decode cX3_firstNotCovered 55 = .ok (.iadd, 1) := by decide +kernel
theorem dX3_firstNotCovered_56 : decode cX3_firstNotCovered 56 = .ok (.bipush 23, 2) := by decide +kernel
theorem dX3_firstNotCovered_58 : decode cX3_firstNotCovered 58 = .ok (.imul, 1) := by decide +kernel
theorem dX3_firstNotCovered_59 : decode cX3_firstNotCovered 59 = .ok (.iload 4, 2) := by decide +kernel
theorem dX3_firstNotCovered_61 : decode cX3_firstNotCovered 61 = .ok (.iadd, 1) := by decide +kernel
theorem dX3_firstNotCovered_62 : decode cX3_firstNotCovered 62 = .ok (.ireturn, 1) := by decide +kernel
theorem dX3_firstNotCovered_63 : decode cX3_firstNotCovered 63 = .ok (.iinc 4 1, 3) := by decide +kernel
theorem dX3_firstNotCovered_66 : decode cX3_firstNotCovered 66 = .ok (.goto (-32), 3) := by decide +kernel
theorem dX3_firstNotCovered_69 : decode cX3_firstNotCovered 69 = .ok (.iinc 2 1, 3) := by decide +kernel
theorem dX3_firstNotCovered_72 : decode cX3_firstNotCovered 72 = .ok (.goto (-60), 3) := by decide +kernel
theorem dX3_firstNotCovered_75 : decode cX3_firstNotCovered 75 = .ok (.iinc 1 1, 3) := by decide +kernel
theorem dX3_firstNotCovered_78 : decode cX3_firstNotCovered 78 = .ok (.goto (-76), 3) := by decide +kernel
theorem dX3_firstNotCovered_81 : decode cX3_firstNotCovered 81 = .ok (.bipush (-6), 2) := by decide +kernel
theorem dX3_firstNotCovered_83 : decode cX3_firstNotCovered 83 = .ok (.ireturn, 1) := by decide +kernel
theorem dX4_init_0 : decode cX4_init 0 = .ok (.aload_n 0, 1) := by decide +kernel
theorem dX4_init_1 : decode cX4_init 1 = .ok (.invokespecial 3, 3) := by decide +kernel
theorem dX4_init_4 : decode cX4_init 4 = .ok (.aload_n 0, 1) := by decide +kernel
theorem dX4_init_5 : decode cX4_init 5 = .ok (.bipush 23, 2) := by decide +kernel
theorem dX4_init_7 : decode cX4_init 7 = .ok (.newarray .int, 2) := by decide +kernel
theorem dX4_init_9 : decode cX4_init 9 = .ok (.putfield 9, 3) := by decide +kernel
theorem dX4_init_12 : decode cX4_init 12 = .ok (.iconst 0, 1) := by decide +kernel
theorem dX4_init_13 : decode cX4_init 13 = .ok (.istore_n 1, 1) := by decide +kernel
theorem dX4_init_14 : decode cX4_init 14 = .ok (.iload_n 1, 1) := by decide +kernel
theorem dX4_init_15 : decode cX4_init 15 = .ok (.bipush 23, 2) := by decide +kernel
theorem dX4_init_17 : decode cX4_init 17 = .ok (.if_icmp .ge 17, 3) := by decide +kernel
theorem dX4_init_20 : decode cX4_init 20 = .ok (.aload_n 0, 1) := by decide +kernel
theorem dX4_init_21 : decode cX4_init 21 = .ok (.getfield 9, 3) := by decide +kernel
theorem dX4_init_24 : decode cX4_init 24 = .ok (.iload_n 1, 1) := by decide +kernel
theorem dX4_init_25 : decode cX4_init 25 = .ok (.bipush 9, 2) := by decide +kernel
theorem dX4_init_27 : decode cX4_init 27 = .ok (.iastore, 1) := by decide +kernel
theorem dX4_init_28 : decode cX4_init 28 = .ok (.iinc 1 1, 3) := by decide +kernel
theorem dX4_init_31 : decode cX4_init 31 = .ok (.goto (-17), 3) := by decide +kernel
theorem dX4_init_34 : decode cX4_init 34 = .ok (.return_, 1) := by decide +kernel
theorem dX4_copyFrom_0 : decode cX4_copyFrom 0 = .ok (.iconst 0, 1) := by decide +kernel
theorem dX4_copyFrom_1 : decode cX4_copyFrom 1 = .ok (.istore_n 2, 1) := by decide +kernel
theorem dX4_copyFrom_2 : decode cX4_copyFrom 2 = .ok (.iload_n 2, 1) := by decide +kernel
theorem dX4_copyFrom_3 : decode cX4_copyFrom 3 = .ok (.bipush 23, 2) := by decide +kernel
theorem dX4_copyFrom_5 : decode cX4_copyFrom 5 = .ok (.if_icmp .ge 21, 3) := by decide +kernel
theorem dX4_copyFrom_8 : decode cX4_copyFrom 8 = .ok (.aload_n 0, 1) := by decide +kernel
theorem dX4_copyFrom_9 : decode cX4_copyFrom 9 = .ok (.getfield 9, 3) := by decide +kernel
theorem dX4_copyFrom_12 : decode cX4_copyFrom 12 = .ok (.iload_n 2, 1) := by decide +kernel
theorem dX4_copyFrom_13 : decode cX4_copyFrom 13 = .ok (.aload_n 1, 1) := by decide +kernel
theorem dX4_copyFrom_14 : decode cX4_copyFrom 14 = .ok (.getfield 9, 3) := by decide +kernel
theorem dX4_copyFrom_17 : decode cX4_copyFrom 17 = .ok (.iload_n 2, 1) := by decide +kernel
theorem dX4_copyFrom_18 : decode cX4_copyFrom 18 = .ok (.iaload, 1) := by decide +kernel
theorem dX4_copyFrom_19 : decode cX4_copyFrom 19 = .ok (.iastore, 1) := by decide +kernel
theorem dX4_copyFrom_20 : decode cX4_copyFrom 20 = .ok (.iinc 2 1, 3) := by decide +kernel
theorem dX4_copyFrom_23 : decode cX4_copyFrom 23 = .ok (.goto (-21), 3) := by decide +kernel
theorem dX4_copyFrom_26 : decode cX4_copyFrom 26 = .ok (.return_, 1) := by decide +kernel
theorem dX4_sum_0 : decode cX4_sum 0 = .ok (.iconst 0, 1) := by decide +kernel
theorem dX4_sum_1 : decode cX4_sum 1 = .ok (.istore_n 2, 1) := by decide +kernel
theorem dX4_sum_2 : decode cX4_sum 2 = .ok (.iconst 0, 1) := by decide +kernel
theorem dX4_sum_3 : decode cX4_sum 3 = .ok (.istore_n 3, 1) := by decide +kernel
theorem dX4_sum_4 : decode cX4_sum 4 = .ok (.iload_n 3, 1) := by decide +kernel
theorem dX4_sum_5 : decode cX4_sum 5 = .ok (.bipush 23, 2) := by decide +kernel
theorem dX4_sum_7 : decode cX4_sum 7 = .ok (.if_icmp .ge 27, 3) := by decide +kernel
theorem dX4_sum_10 : decode cX4_sum 10 = .ok (.iload_n 1, 1) := by decide +kernel
theorem dX4_sum_11 : decode cX4_sum 11 = .ok (.iload_n 3, 1) := by decide +kernel
theorem dX4_sum_12 : decode cX4_sum 12 = .ok (.iushr, 1) := by decide +kernel
theorem dX4_sum_13 : decode cX4_sum 13 = .ok (.iconst 1, 1) := by decide +kernel
theorem dX4_sum_14 : decode cX4_sum 14 = .ok (.iand, 1) := by decide +kernel
theorem dX4_sum_15 : decode cX4_sum 15 = .ok (.iconst 1, 1) := by decide +kernel
theorem dX4_sum_16 : decode cX4_sum 16 = .ok (.if_icmp .ne 12, 3) := by decide +kernel
theorem dX4_sum_19 : decode cX4_sum 19 = .ok (.iload_n 2, 1) := by decide +kernel
theorem dX4_sum_20 : decode cX4_sum 20 = .ok (.aload_n 0, 1) := by decide +kernel
theorem dX4_sum_21 : decode cX4_sum 21 = .ok (.getfield 9, 3) := by decide +kernel
theorem dX4_sum_24 : decode cX4_sum 24 = .ok (.iload_n 3, 1) := by decide +kernel
theorem dX4_sum_25 : decode cX4_sum 25 = .ok (.iaload, 1) := by decide +kernel
theorem dX4_sum_26 : decode cX4_sum 26 = .ok (.iadd, 1) := by decide +kernel
theorem dX4_sum_27 : decode cX4_sum 27 = .ok (.istore_n 2, 1) := by decide +kernel
theorem dX4_sum_28 : decode cX4_sum 28 = .ok (.iinc 3 1, 3) := by decide +kernel
theorem dX4_sum_31 : decode cX4_sum 31 = .ok (.goto (-27), 3) := by decide +kernel
theorem dX4_sum_34 : decode cX4_sum 34 = .ok (.iload_n 2, 1) := by decide +kernel
theorem dX4_sum_35 : decode cX4_sum 35 = .ok (.ireturn, 1) := by decide +kernel
theorem dX4_weakestBut_0 : decode cX4_weakestBut 0 = .ok (.iconst 0, 1) := by decide +kernel
theorem dX4_weakestBut_1 : decode cX4_weakestBut 1 = .ok (.istore_n 2, 1) := by decide +kernel
theorem dX4_weakestBut_2 : decode cX4_weakestBut 2 = .ok (.bipush 10, 2) := by decide +kernel
theorem dX4_weakestBut_4 : decode cX4_weakestBut 4 = .ok (.istore_n 3, 1) := by decide +kernel
theorem dX4_weakestBut_5 : decode cX4_weakestBut 5 = .ok (.iconst 0, 1) := by decide +kernel
theorem dX4_weakestBut_6 : decode cX4_weakestBut 6 = .ok (.istore 4, 2) := by decide +kernel
theorem dX4_weakestBut_8 : decode cX4_weakestBut 8 = .ok (.iload 4, 2) := by decide +kernel
theorem dX4_weakestBut_10 : decode cX4_weakestBut 10 = .ok (.bipush 23, 2) := by decide +kernel
theorem dX4_weakestBut_12 : decode cX4_weakestBut 12 = .ok (.if_icmp .ge 40, 3) := by decide +kernel
theorem dX4_weakestBut_15 : decode cX4_weakestBut 15 = .ok (.iload_n 1, 1) := by decide +kernel
theorem dX4_weakestBut_16 : decode cX4_weakestBut 16 = .ok (.iload 4, 2) := by decide +kernel
theorem dX4_weakestBut_18 : decode cX4_weakestBut 18 = .ok (.iushr, 1) := by decide +kernel
theorem dX4_weakestBut_19 : decode cX4_weakestBut 19 = .ok (.iconst 1, 1) := by decide +kernel
theorem dX4_weakestBut_20 : decode cX4_weakestBut 20 = .ok (.iand, 1) := by decide +kernel
theorem dX4_weakestBut_21 : decode cX4_weakestBut 21 = .ok (.ifCond .ne 25, 3) := by decide +kernel
theorem dX4_weakestBut_24 : decode cX4_weakestBut 24 = .ok (.aload_n 0, 1) := by decide +kernel
theorem dX4_weakestBut_25 : decode cX4_weakestBut 25 = .ok (.getfield 9, 3) := by decide +kernel
theorem dX4_weakestBut_28 : decode cX4_weakestBut 28 = .ok (.iload 4, 2) := by decide +kernel
theorem dX4_weakestBut_30 : decode cX4_weakestBut 30 = .ok (.iaload, 1) := by decide +kernel
theorem dX4_weakestBut_31 : decode cX4_weakestBut 31 = .ok (.iload_n 3, 1) := by decide +kernel
theorem dX4_weakestBut_32 : decode cX4_weakestBut 32 = .ok (.if_icmp .ge 14, 3) := by decide +kernel
theorem dX4_weakestBut_35 : decode cX4_weakestBut 35 = .ok (.aload_n 0, 1) := by decide +kernel
theorem dX4_weakestBut_36 : decode cX4_weakestBut 36 = .ok (.getfield 9, 3) := by decide +kernel
theorem dX4_weakestBut_39 : decode cX4_weakestBut 39 = .ok (.iload 4, 2) := by decide +kernel
theorem dX4_weakestBut_41 : decode cX4_weakestBut 41 = .ok (.iaload, 1) := by decide +kernel
theorem dX4_weakestBut_42 : decode cX4_weakestBut 42 = .ok (.istore_n 3, 1) := by decide +kernel
theorem dX4_weakestBut_43 : decode cX4_weakestBut 43 = .ok (.iload 4, 2) := by decide +kernel
theorem dX4_weakestBut_45 : decode cX4_weakestBut 45 = .ok (.istore_n 2, 1) := by decide +kernel
theorem dX4_weakestBut_46 : decode cX4_weakestBut 46 = .ok (.iinc 4 1, 3) := by decide +kernel
theorem dX4_weakestBut_49 : decode cX4_weakestBut 49 = .ok (.goto (-41), 3) := by decide +kernel
theorem dX4_weakestBut_52 : decode cX4_weakestBut 52 = .ok (.iload_n 2, 1) := by decide +kernel
theorem dX4_weakestBut_53 : decode cX4_weakestBut 53 = .ok (.ireturn, 1) := by decide +kernel
set_option maxRecDepth 20000 in
theorem ggX5_init_X2_init : GoodIn wsX5_init wsX2_init := goodIn_r _ [17, 18, 2, 3, 14, 19, 20, 21, 22, 23, 24, 25, 6, 26, 27, 28, 29, 52] (by decide +kernel) (by decide +kernel)
set_option maxRecDepth 20000 in
theorem gX5_init_X2_init_n11 : GoodIn wsX5_init (wsX2_init) := ggX5_init_X2_init
set_option maxRecDepth 20000 in
theorem ggX5_init_X1_init : GoodIn wsX5_init wsX1_init := goodIn_r _ [31, 32, 2, 3, 33, 34, 35, 36, 37, 38, 39, 40, 41, 42, 43, 44, 14, 45, 46, 47, 48, 49, 50, 51, 60, 61, 62, 63, 58, 59, 64] (by decide +kernel) (by decide +kernel)
set_option maxRecDepth 20000 in
theorem gX5_init_X1_init_n18 : GoodIn wsX5_init (wsX1_init) := ggX5_init_X1_init
theorem dX5_init_0 : decode cX5_init 0 = .ok (.aload_n 0, 1) := by decide +kernel
theorem dX5_init_1 : decode cX5_init 1 = .ok (.invokespecial 3, 3) := by decide +kernel
theorem dX5_init_4 : decode cX5_init 4 = .ok (.aload_n 0, 1) := by decide +kernel
theorem dX5_init_5 : decode cX5_init 5 = .ok (.new 9, 3) := by decide +kernel
theorem dX5_init_8 : decode cX5_init 8 = .ok (.dup, 1) := by decide +kernel
theorem dX5_init_9 : decode cX5_init 9 = .ok (.invokespecial 11, 3) := by decide +kernel
theorem dX5_init_12 : decode cX5_init 12 = .ok (.putfield 12, 3) := by decide +kernel
theorem dX5_init_15 : decode cX5_init 15 = .ok (.aload_n 0, 1) := by decide +kernel
theorem dX5_init_16 : decode cX5_init 16 = .ok (.new 16, 3) := by decide +kernel
theorem dX5_init_19 : decode cX5_init 19 = .ok (.dup, 1) := by decide +kernel
theorem dX5_init_20 : decode cX5_init 20 = .ok (.invokespecial 18, 3) := by decide +kernel
theorem dX5_init_23 : decode cX5_init 23 = .ok (.putfield 19, 3) := by decide +kernel
theorem dX5_init_26 : decode cX5_init 26 = .ok (.aload_n 0, 1) := by decide +kernel
theorem dX5_init_27 : decode cX5_init 27 = .ok (.iconst 2, 1) := by decide +kernel
theorem dX5_init_28 : decode cX5_init 28 = .ok (.anewarray 16, 3) := by decide +kernel
theorem dX5_init_31 : decode cX5_init 31 = .ok (.putfield 23, 3) := by decide +kernel
theorem dX5_init_34 : decode cX5_init 34 = .ok (.iconst 0, 1) := by decide +kernel
theorem dX5_init_35 : decode cX5_init 35 = .ok (.istore_n 1, 1) := by decide +kernel
theorem dX5_init_36 : decode cX5_init 36 = .ok (.iload_n 1, 1) := by decide +kernel
theorem dX5_init_37 : decode cX5_init 37 = .ok (.iconst 2, 1) := by decide +kernel
theorem dX5_init_38 : decode cX5_init 38 = .ok (.if_icmp .ge 22, 3) := by decide +kernel
theorem dX5_init_41 : decode cX5_init 41 = .ok (.aload_n 0, 1) := by decide +kernel
theorem dX5_init_42 : decode cX5_init 42 = .ok (.getfield 23, 3) := by decide +kernel
theorem dX5_init_45 : decode cX5_init 45 = .ok (.iload_n 1, 1) := by decide +kernel
theorem dX5_init_46 : decode cX5_init 46 = .ok (.new 16, 3) := by decide +kernel
theorem dX5_init_49 : decode cX5_init 49 = .ok (.dup, 1) := by decide +kernel
theorem dX5_init_50 : decode cX5_init 50 = .ok (.invokespecial 18, 3) := by decide +kernel
theorem dX5_init_53 : decode cX5_init 53 = .ok (.aastore, 1) := by decide +kernel
theorem dX5_init_54 : decode cX5_init 54 = .ok (.iinc 1 1, 3) := by decide +kernel
theorem dX5_init_57 : decode cX5_init 57 = .ok (.goto (-21), 3) := by decide +kernel
theorem dX5_init_60 : decode cX5_init 60 = .ok (.aload_n 0, 1) := by decide +kernel
theorem dX5_init_61 : decode cX5_init 61 = .ok (.iconst 0, 1) := by decide +kernel
theorem dX5_init_62 : decode cX5_init 62 = .ok (.putfield 27, 3) := by decide +kernel
theorem dX5_init_65 : decode cX5_init 65 = .ok (.aload_n 0, 1) := by decide +kernel
theorem dX5_init_66 : decode cX5_init 66 = .ok (.bipush 16, 2) := by decide +kernel
theorem dX5_init_68 : decode cX5_init 68 = .ok (.newarray .int, 2) := by decide +kernel
theorem dX5_init_70 : decode cX5_init 70 = .ok (.putfield 31, 3) := by decide +kernel
theorem dX5_init_73 : decode cX5_init 73 = .ok (.return_, 1) := by decide +kernel
set_option maxRecDepth 20000 in
theorem ggX5_made_X5_isBelow : GoodIn wsX5_made wsX5_isBelow := goodIn_r _ [4] (by decide +kernel) (by decide +kernel)
set_option maxRecDepth 20000 in
theorem gX5_made_X5_isBelow : GoodIn wsX5_made (va_wsS RX5 35 yX5_isBelow wsX5_isBelow) := goodIn_app (goodIn_of _ (by decide +kernel)) ggX5_made_X5_isBelow
set_option maxRecDepth 20000 in
theorem ggX5_made_X0_coded : GoodIn wsX5_made wsX0_coded := goodIn_r _ [7, 8, 9, 6, 10] (by decide +kernel) (by decide +kernel)
set_option maxRecDepth 20000 in
theorem gX5_made_X0_coded_n39 : GoodIn wsX5_made (wsX0_coded) := ggX5_made_X0_coded
theorem dX5_made_0 : decode cX5_made 0 = .ok (.iload_n 1, 1) := by decide +kernel
theorem dX5_made_1 : decode cX5_made 1 = .ok (.sipush 4096, 3) := by decide +kernel
theorem dX5_made_4 : decode cX5_made 4 = .ok (.invokestatic 35, 3) := by decide +kernel
theorem dX5_made_7 : decode cX5_made 7 = .ok (.ifCond .eq 10, 3) := by decide +kernel
theorem dX5_made_10 : decode cX5_made 10 = .ok (.iload_n 1, 1) := by decide +kernel
theorem dX5_made_11 : decode cX5_made 11 = .ok (.invokestatic 39, 3) := by decide +kernel
theorem dX5_made_14 : decode cX5_made 14 = .ok (.goto 5, 3) := by decide +kernel
theorem dX5_made_17 : decode cX5_made 17 = .ok (.bipush (-2), 2) := by decide +kernel
theorem dX5_made_19 : decode cX5_made 19 = .ok (.ireturn, 1) := by decide +kernel
set_option maxRecDepth 20000 in
theorem ggX5_rest_X5_isBelow : GoodIn wsX5_rest wsX5_isBelow := goodIn_r _ [5] (by decide +kernel) (by decide +kernel)
set_option maxRecDepth 20000 in
theorem gX5_rest_X5_isBelow : GoodIn wsX5_rest (va_wsS RX5 35 yX5_isBelow wsX5_isBelow) := goodIn_app (goodIn_of _ (by decide +kernel)) ggX5_rest_X5_isBelow
set_option maxRecDepth 20000 in
theorem ggX5_rest_X0_remainder : GoodIn wsX5_rest wsX0_remainder := goodIn_r _ [8] (by decide +kernel) (by decide +kernel)
set_option maxRecDepth 20000 in
theorem gX5_rest_X0_remainder_n46 : GoodIn wsX5_rest (wsX0_remainder) := ggX5_rest_X0_remainder
theorem dX5_rest_0 : decode cX5_rest 0 = .ok (.iload_n 1, 1) := by decide +kernel
theorem dX5_rest_1 : decode cX5_rest 1 = .ok (.ldc 45, 2) := by decide +kernel
theorem dX5_rest_3 : decode cX5_rest 3 = .ok (.invokestatic 35, 3) := by decide +kernel
theorem dX5_rest_6 : decode cX5_rest 6 = .ok (.ifCond .eq 10, 3) := by decide +kernel
theorem dX5_rest_9 : decode cX5_rest 9 = .ok (.iload_n 1, 1) := by decide +kernel
theorem dX5_rest_10 : decode cX5_rest 10 = .ok (.invokestatic 46, 3) := by decide +kernel
theorem dX5_rest_13 : decode cX5_rest 13 = .ok (.goto 5, 3) := by decide +kernel
theorem dX5_rest_16 : decode cX5_rest 16 = .ok (.bipush (-2), 2) := by decide +kernel
theorem dX5_rest_18 : decode cX5_rest 18 = .ok (.ireturn, 1) := by decide +kernel
set_option maxRecDepth 20000 in
theorem ggX5_of_X5_isBelow : GoodIn wsX5_of wsX5_isBelow := goodIn_r _ [6] (by decide +kernel) (by decide +kernel)
set_option maxRecDepth 20000 in
theorem gX5_of_X5_isBelow : GoodIn wsX5_of (va_wsS RX5 35 yX5_isBelow wsX5_isBelow) := goodIn_app (goodIn_of _ (by decide +kernel)) ggX5_of_X5_isBelow
set_option maxRecDepth 20000 in
theorem ggX5_of_J6_bitCount_0f7a4 : GoodIn wsX5_of wsJ6_bitCount_0f7a4 := goodIn_r _ [10, 11, 12, 13] (by decide +kernel) (by decide +kernel)
set_option maxRecDepth 20000 in
theorem gX5_of_J6_bitCount_0f7a4 : GoodIn wsX5_of (va_wsS RX5 49 yJ6_bitCount_0f7a4 wsJ6_bitCount_0f7a4) := goodIn_app (goodIn_of _ (by decide +kernel)) ggX5_of_J6_bitCount_0f7a4
set_option maxRecDepth 20000 in
theorem ggX5_of_X2_nearest : GoodIn wsX5_of wsX2_nearest := goodIn_r _ [17, 18, 19, 20, 15, 21, 22, 23, 24, 25, 4, 5, 6, 37] (by decide +kernel) (by decide +kernel)
set_option maxRecDepth 20000 in
theorem gX5_of_X2_nearest_n54 : GoodIn wsX5_of (wsX2_nearest) := ggX5_of_X2_nearest
set_option maxRecDepth 20000 in
theorem ggX5_of_X2_distance : GoodIn wsX5_of wsX2_distance := goodIn_r _ [28, 18, 19, 20, 15, 21, 22, 23, 24, 25, 4, 5, 6, 29, 8, 9, 10, 11, 12, 13, 37] (by decide +kernel) (by decide +kernel)
set_option maxRecDepth 20000 in
theorem gX5_of_X2_distance_n57 : GoodIn wsX5_of (wsX2_distance) := ggX5_of_X2_distance
set_option maxRecDepth 20000 in
theorem ggX5_of_X0_message : GoodIn wsX5_of wsX0_message := goodIn_r _ [31] (by decide +kernel) (by decide +kernel)
set_option maxRecDepth 20000 in
theorem gX5_of_X0_message_n60 : GoodIn wsX5_of (wsX0_message) := ggX5_of_X0_message
end
section
theorem dX5_of_0 : decode cX5_of 0 = .ok (.iload_n 1, 1) := by decide +kernel
theorem dX5_of_1 : decode cX5_of 1 = .ok (.ldc 45, 2) := by decide +kernel
theorem dX5_of_3 : decode cX5_of 3 = .ok (.invokestatic 35, 3) := by decide +kernel
theorem dX5_of_6 : decode cX5_of 6 = .ok (.ifCond .eq 11, 3) := by decide +kernel
theorem dX5_of_9 : decode cX5_of 9 = .ok (.iload_n 2, 1) := by decide +kernel
theorem dX5_of_10 : decode cX5_of 10 = .ok (.iconst 4, 1) := by decide +kernel
theorem dX5_of_11 : decode cX5_of 11 = .ok (.invokestatic 35, 3) := by decide +kernel
theorem dX5_of_14 : decode cX5_of 14 = .ok (.ifCond .ne 6, 3) := by decide +kernel
theorem dX5_of_17 : decode cX5_of 17 = .ok (.bipush (-2), 2) := by decide +kernel
theorem dX5_of_19 : decode cX5_of 19 = .ok (.ireturn, 1) := by decide +kernel
theorem dX5_of_20 : decode cX5_of 20 = .ok (.iload_n 2, 1) := by decide +kernel
theorem dX5_of_21 : decode cX5_of 21 = .ok (.tableswitch 50 0 2 #[27, 32, 41], 27) := by decide +kernel
theorem dX5_of_48 : decode cX5_of 48 = .ok (.iload_n 1, 1) := by decide +kernel
theorem dX5_of_49 : decode cX5_of 49 = .ok (.invokestatic 49, 3) := by decide +kernel
theorem dX5_of_52 : decode cX5_of 52 = .ok (.ireturn, 1) := by decide +kernel
theorem dX5_of_53 : decode cX5_of 53 = .ok (.aload_n 0, 1) := by decide +kernel
theorem dX5_of_54 : decode cX5_of 54 = .ok (.getfield 12, 3) := by decide +kernel
theorem dX5_of_57 : decode cX5_of 57 = .ok (.iload_n 1, 1) := by decide +kernel
theorem dX5_of_58 : decode cX5_of 58 = .ok (.invokevirtual 54, 3) := by decide +kernel
theorem dX5_of_61 : decode cX5_of 61 = .ok (.ireturn, 1) := by decide +kernel
theorem dX5_of_62 : decode cX5_of 62 = .ok (.aload_n 0, 1) := by decide +kernel
theorem dX5_of_63 : decode cX5_of 63 = .ok (.getfield 12, 3) := by decide +kernel
theorem dX5_of_66 : decode cX5_of 66 = .ok (.iload_n 1, 1) := by decide +kernel
theorem dX5_of_67 : decode cX5_of 67 = .ok (.invokevirtual 57, 3) := by decide +kernel
theorem dX5_of_70 : decode cX5_of 70 = .ok (.ireturn, 1) := by decide +kernel
theorem dX5_of_71 : decode cX5_of 71 = .ok (.aload_n 0, 1) := by decide +kernel
theorem dX5_of_72 : decode cX5_of 72 = .ok (.getfield 12, 3) := by decide +kernel
theorem dX5_of_75 : decode cX5_of 75 = .ok (.iload_n 1, 1) := by decide +kernel
theorem dX5_of_76 : decode cX5_of 76 = .ok (.invokevirtual 54, 3) := by decide +kernel
theorem dX5_of_79 : decode cX5_of 79 = .ok (.invokestatic 60, 3) := by decide +kernel
theorem dX5_of_82 : decode cX5_of 82 = .ok (.ireturn, 1) := by decide +kernel
set_option maxRecDepth 20000 in
theorem ggX5_around_X5_isBelow : GoodIn wsX5_around wsX5_isBelow := goodIn_r _ [6] (by decide +kernel) (by decide +kernel)
set_option maxRecDepth 20000 in
theorem gX5_around_X5_isBelow : GoodIn wsX5_around (va_wsS RX5 35 yX5_isBelow wsX5_isBelow) := goodIn_app (goodIn_of _ (by decide +kernel)) ggX5_around_X5_isBelow
set_option maxRecDepth 20000 in
theorem ggX5_around_X2_distance : GoodIn wsX5_around wsX2_distance := goodIn_r _ [10, 11, 12, 13, 8, 14, 15, 16, 17, 18, 4, 5, 6, 19, 20, 21, 22, 23, 24, 25, 35] (by decide +kernel) (by decide +kernel)
set_option maxRecDepth 20000 in
theorem gX5_around_X2_distance_n57 : GoodIn wsX5_around (wsX2_distance) := ggX5_around_X2_distance
set_option maxRecDepth 20000 in
theorem ggX5_around_X5_codeWordsAt : GoodIn wsX5_around wsX5_codeWordsAt := goodIn_r _ [28, 29, 3, 4, 5, 6] (by decide +kernel) (by decide +kernel)
set_option maxRecDepth 20000 in
theorem gX5_around_X5_codeWordsAt : GoodIn wsX5_around (va_wsS RX5 63 yX5_codeWordsAt wsX5_codeWordsAt) := goodIn_app (goodIn_of _ (by decide +kernel)) ggX5_around_X5_codeWordsAt
theorem dX5_around_0 : decode cX5_around 0 = .ok (.iload_n 1, 1) := by decide +kernel
theorem dX5_around_1 : decode cX5_around 1 = .ok (.ldc 45, 2) := by decide +kernel
theorem dX5_around_3 : decode cX5_around 3 = .ok (.invokestatic 35, 3) := by decide +kernel
theorem dX5_around_6 : decode cX5_around 6 = .ok (.ifCond .eq 12, 3) := by decide +kernel
theorem dX5_around_9 : decode cX5_around 9 = .ok (.iload_n 2, 1) := by decide +kernel
theorem dX5_around_10 : decode cX5_around 10 = .ok (.bipush 24, 2) := by decide +kernel
theorem dX5_around_12 : decode cX5_around 12 = .ok (.invokestatic 35, 3) := by decide +kernel
theorem dX5_around_15 : decode cX5_around 15 = .ok (.ifCond .ne 6, 3) := by decide +kernel
theorem dX5_around_18 : decode cX5_around 18 = .ok (.bipush (-2), 2) := by decide +kernel
theorem dX5_around_20 : decode cX5_around 20 = .ok (.ireturn, 1) := by decide +kernel
theorem dX5_around_21 : decode cX5_around 21 = .ok (.aload_n 0, 1) := by decide +kernel
theorem dX5_around_22 : decode cX5_around 22 = .ok (.getfield 12, 3) := by decide +kernel
theorem dX5_around_25 : decode cX5_around 25 = .ok (.iload_n 1, 1) := by decide +kernel
theorem dX5_around_26 : decode cX5_around 26 = .ok (.invokevirtual 57, 3) := by decide +kernel
theorem dX5_around_29 : decode cX5_around 29 = .ok (.iload_n 2, 1) := by decide +kernel
theorem dX5_around_30 : decode cX5_around 30 = .ok (.invokestatic 63, 3) := by decide +kernel
theorem dX5_around_33 : decode cX5_around 33 = .ok (.ireturn, 1) := by decide +kernel
set_option maxRecDepth 20000 in
theorem ggX5_turned_X5_isBelow : GoodIn wsX5_turned wsX5_isBelow := goodIn_r _ [5] (by decide +kernel) (by decide +kernel)
set_option maxRecDepth 20000 in
theorem gX5_turned_X5_isBelow : GoodIn wsX5_turned (va_wsS RX5 35 yX5_isBelow wsX5_isBelow) := goodIn_app (goodIn_of _ (by decide +kernel)) ggX5_turned_X5_isBelow
set_option maxRecDepth 20000 in
theorem ggX5_turned_X0_turn : GoodIn wsX5_turned wsX0_turn := goodIn_r _ [8, 9] (by decide +kernel) (by decide +kernel)
set_option maxRecDepth 20000 in
theorem gX5_turned_X0_turn_n67 : GoodIn wsX5_turned (wsX0_turn) := ggX5_turned_X0_turn
theorem dX5_turned_0 : decode cX5_turned 0 = .ok (.iload_n 1, 1) := by decide +kernel
theorem dX5_turned_1 : decode cX5_turned 1 = .ok (.ldc 45, 2) := by decide +kernel
theorem dX5_turned_3 : decode cX5_turned 3 = .ok (.invokestatic 35, 3) := by decide +kernel
theorem dX5_turned_6 : decode cX5_turned 6 = .ok (.ifCond .eq 20, 3) := by decide +kernel
theorem dX5_turned_9 : decode cX5_turned 9 = .ok (.iload_n 2, 1) := by decide +kernel
theorem dX5_turned_10 : decode cX5_turned 10 = .ok (.bipush 23, 2) := by decide +kernel
theorem dX5_turned_12 : decode cX5_turned 12 = .ok (.invokestatic 35, 3) := by decide +kernel
theorem dX5_turned_15 : decode cX5_turned 15 = .ok (.ifCond .eq 11, 3) := by decide +kernel
theorem dX5_turned_18 : decode cX5_turned 18 = .ok (.iload_n 1, 1) := by decide +kernel
theorem dX5_turned_19 : decode cX5_turned 19 = .ok (.iload_n 2, 1) := by decide +kernel
theorem dX5_turned_20 : decode cX5_turned 20 = .ok (.invokestatic 67, 3) := by decide +kernel
theorem dX5_turned_23 : decode cX5_turned 23 = .ok (.goto 5, 3) := by decide +kernel
theorem dX5_turned_26 : decode cX5_turned 26 = .ok (.bipush (-2), 2) := by decide +kernel
theorem dX5_turned_28 : decode cX5_turned 28 = .ok (.ireturn, 1) := by decide +kernel
set_option maxRecDepth 20000 in
theorem ggX5_trapped_X5_isBelow : GoodIn wsX5_trapped wsX5_isBelow := goodIn_r _ [5] (by decide +kernel) (by decide +kernel)
set_option maxRecDepth 20000 in
theorem gX5_trapped_X5_isBelow : GoodIn wsX5_trapped (va_wsS RX5 35 yX5_isBelow wsX5_isBelow) := goodIn_app (goodIn_of _ (by decide +kernel)) ggX5_trapped_X5_isBelow
set_option maxRecDepth 20000 in
theorem ggX5_trapped_X0_turn : GoodIn wsX5_trapped wsX0_turn := goodIn_r _ [8, 9] (by decide +kernel) (by decide +kernel)
set_option maxRecDepth 20000 in
theorem gX5_trapped_X0_turn_n67 : GoodIn wsX5_trapped (wsX0_turn) := ggX5_trapped_X0_turn
set_option maxRecDepth 20000 in
theorem ggX5_trapped_X0_trapErrors : GoodIn wsX5_trapped wsX0_trapErrors := goodIn_r _ [11, 12, 13, 14, 15, 7, 16, 17, 18, 19, 20, 21, 22, 23] (by decide +kernel) (by decide +kernel)
set_option maxRecDepth 20000 in
theorem gX5_trapped_X0_trapErrors_n70 : GoodIn wsX5_trapped (wsX0_trapErrors) := ggX5_trapped_X0_trapErrors
set_option maxRecDepth 20000 in
theorem ggX5_trapped_X0_turnBack : GoodIn wsX5_trapped wsX0_turnBack := goodIn_r _ [25, 26, 6, 7, 8, 9] (by decide +kernel) (by decide +kernel)
set_option maxRecDepth 20000 in
theorem gX5_trapped_X0_turnBack_n73 : GoodIn wsX5_trapped (wsX0_turnBack) := ggX5_trapped_X0_turnBack
theorem dX5_trapped_0 : decode cX5_trapped 0 = .ok (.iload_n 1, 1) := by decide +kernel
theorem dX5_trapped_1 : decode cX5_trapped 1 = .ok (.ldc 45, 2) := by decide +kernel
theorem dX5_trapped_3 : decode cX5_trapped 3 = .ok (.invokestatic 35, 3) := by decide +kernel
theorem dX5_trapped_6 : decode cX5_trapped 6 = .ok (.ifCond .eq 11, 3) := by decide +kernel
theorem dX5_trapped_9 : decode cX5_trapped 9 = .ok (.iload_n 2, 1) := by decide +kernel
theorem dX5_trapped_10 : decode cX5_trapped 10 = .ok (.iconst 3, 1) := by decide +kernel
theorem dX5_trapped_11 : decode cX5_trapped 11 = .ok (.invokestatic 35, 3) := by decide +kernel
theorem dX5_trapped_14 : decode cX5_trapped 14 = .ok (.ifCond .ne 6, 3) := by decide +kernel
theorem dX5_trapped_17 : decode cX5_trapped 17 = .ok (.bipush (-2), 2) := by decide +kernel
theorem dX5_trapped_19 : decode cX5_trapped 19 = .ok (.ireturn, 1) := by decide +kernel
theorem dX5_trapped_20 : decode cX5_trapped 20 = .ok (.iconst 0, 1) := by decide +kernel
theorem dX5_trapped_21 : decode cX5_trapped 21 = .ok (.istore_n 3, 1) := by decide +kernel
theorem dX5_trapped_22 : decode cX5_trapped 22 = .ok (.iload_n 3, 1) := by decide +kernel
theorem dX5_trapped_23 : decode cX5_trapped 23 = .ok (.bipush 23, 2) := by decide +kernel
theorem dX5_trapped_25 : decode cX5_trapped 25 = .ok (.if_icmp .ge 72, 3) := by decide +kernel
theorem dX5_trapped_28 : decode cX5_trapped 28 = .ok (.iload_n 1, 1) := by decide +kernel
theorem dX5_trapped_29 : decode cX5_trapped 29 = .ok (.iload_n 3, 1) := by decide +kernel
theorem dX5_trapped_30 : decode cX5_trapped 30 = .ok (.invokestatic 67, 3) := by decide +kernel
theorem dX5_trapped_33 : decode cX5_trapped 33 = .ok (.istore 4, 2) := by decide +kernel
theorem dX5_trapped_35 : decode cX5_trapped 35 = .ok (.iconst 0, 1) := by decide +kernel
theorem dX5_trapped_36 : decode cX5_trapped 36 = .ok (.istore 5, 2) := by decide +kernel
theorem dX5_trapped_38 : decode cX5_trapped 38 = .ok (.iload 5, 2) := by decide +kernel
theorem dX5_trapped_40 : decode cX5_trapped 40 = .ok (.iconst 3, 1) := by decide +kernel
theorem dX5_trapped_41 : decode cX5_trapped 41 = .ok (.if_icmp .ge 50, 3) := by decide +kernel
theorem dX5_trapped_44 : decode cX5_trapped 44 = .ok (.iload 4, 2) := by decide +kernel
theorem dX5_trapped_46 : decode cX5_trapped 46 = .ok (.iload 5, 2) := by decide +kernel
theorem dX5_trapped_48 : decode cX5_trapped 48 = .ok (.invokestatic 70, 3) := by decide +kernel
theorem dX5_trapped_51 : decode cX5_trapped 51 = .ok (.istore 6, 2) := by decide +kernel
theorem dX5_trapped_53 : decode cX5_trapped 53 = .ok (.iload 6, 2) := by decide +kernel
theorem dX5_trapped_55 : decode cX5_trapped 55 = .ok (.bipush (-6), 2) := by decide +kernel
theorem dX5_trapped_57 : decode cX5_trapped 57 = .ok (.if_icmp .eq 28, 3) := by decide +kernel
theorem dX5_trapped_60 : decode cX5_trapped 60 = .ok (.iload_n 2, 1) := by decide +kernel
theorem dX5_trapped_61 : decode cX5_trapped 61 = .ok (.ifCond .ne 7, 3) := by decide +kernel
theorem dX5_trapped_64 : decode cX5_trapped 64 = .ok (.iload_n 3, 1) := by decide +kernel
theorem dX5_trapped_65 : decode cX5_trapped 65 = .ok (.goto 19, 3) := by decide +kernel
theorem dX5_trapped_68 : decode cX5_trapped 68 = .ok (.iload_n 2, 1) := by decide +kernel
theorem dX5_trapped_69 : decode cX5_trapped 69 = .ok (.iconst 1, 1) := by decide +kernel
theorem dX5_trapped_70 : decode cX5_trapped 70 = .ok (.if_icmp .ne 8, 3) := by decide +kernel
theorem dX5_trapped_73 : decode cX5_trapped 73 = .ok (.iload 5, 2) := by decide +kernel
theorem dX5_trapped_75 : decode cX5_trapped 75 = .ok (.goto 9, 3) := by decide +kernel
theorem dX5_trapped_78 : decode cX5_trapped 78 = .ok (.iload 6, 2) := by decide +kernel
theorem dX5_trapped_80 : decode cX5_trapped 80 = .ok (.iload_n 3, 1) := by decide +kernel
theorem dX5_trapped_81 : decode cX5_trapped 81 = .ok (.invokestatic 73, 3) := by decide +kernel
theorem dX5_trapped_84 : decode cX5_trapped 84 = .ok (.ireturn, 1) := by decide +kernel
theorem dX5_trapped_85 : decode cX5_trapped 85 = .ok (.iinc 5 1, 3) := by decide +kernel
theorem dX5_trapped_88 : decode cX5_trapped 88 = .ok (.goto (-50), 3) := by decide +kernel
theorem dX5_trapped_91 : decode cX5_trapped 91 = .ok (.iinc 3 1, 3) := by decide +kernel
theorem dX5_trapped_94 : decode cX5_trapped 94 = .ok (.goto (-72), 3) := by decide +kernel
theorem dX5_trapped_97 : decode cX5_trapped 97 = .ok (.bipush (-6), 2) := by decide +kernel
theorem dX5_trapped_99 : decode cX5_trapped 99 = .ok (.ireturn, 1) := by decide +kernel
set_option maxRecDepth 20000 in
theorem ggX5_wide_X5_isBelow : GoodIn wsX5_wide wsX5_isBelow := goodIn_r _ [4] (by decide +kernel) (by decide +kernel)
set_option maxRecDepth 20000 in
theorem gX5_wide_X5_isBelow : GoodIn wsX5_wide (va_wsS RX5 35 yX5_isBelow wsX5_isBelow) := goodIn_app (goodIn_of _ (by decide +kernel)) ggX5_wide_X5_isBelow
set_option maxRecDepth 20000 in
theorem ggX5_wide_X0_coded : GoodIn wsX5_wide wsX0_coded := goodIn_r _ [7, 8, 9, 6, 10] (by decide +kernel) (by decide +kernel)
set_option maxRecDepth 20000 in
theorem gX5_wide_X0_coded_n39 : GoodIn wsX5_wide (wsX0_coded) := ggX5_wide_X0_coded
set_option maxRecDepth 20000 in
theorem ggX5_wide_X0_widen : GoodIn wsX5_wide wsX0_widen := goodIn_r _ [12, 13, 14, 15, 16, 17, 18, 19] (by decide +kernel) (by decide +kernel)
set_option maxRecDepth 20000 in
theorem gX5_wide_X0_widen_n76 : GoodIn wsX5_wide (wsX0_widen) := ggX5_wide_X0_widen
theorem dX5_wide_0 : decode cX5_wide 0 = .ok (.iload_n 1, 1) := by decide +kernel
theorem dX5_wide_1 : decode cX5_wide 1 = .ok (.sipush 4096, 3) := by decide +kernel
theorem dX5_wide_4 : decode cX5_wide 4 = .ok (.invokestatic 35, 3) := by decide +kernel
theorem dX5_wide_7 : decode cX5_wide 7 = .ok (.ifCond .eq 13, 3) := by decide +kernel
theorem dX5_wide_10 : decode cX5_wide 10 = .ok (.iload_n 1, 1) := by decide +kernel
theorem dX5_wide_11 : decode cX5_wide 11 = .ok (.invokestatic 39, 3) := by decide +kernel
theorem dX5_wide_14 : decode cX5_wide 14 = .ok (.invokestatic 76, 3) := by decide +kernel
theorem dX5_wide_17 : decode cX5_wide 17 = .ok (.goto 5, 3) := by decide +kernel
theorem dX5_wide_20 : decode cX5_wide 20 = .ok (.bipush (-2), 2) := by decide +kernel
theorem dX5_wide_22 : decode cX5_wide 22 = .ok (.ireturn, 1) := by decide +kernel
set_option maxRecDepth 20000 in
theorem ggX5_read_X5_isBelow : GoodIn wsX5_read wsX5_isBelow := goodIn_r _ [7] (by decide +kernel) (by decide +kernel)
set_option maxRecDepth 20000 in
theorem gX5_read_X5_isBelow : GoodIn wsX5_read (va_wsS RX5 35 yX5_isBelow wsX5_isBelow) := goodIn_app (goodIn_of _ (by decide +kernel)) ggX5_read_X5_isBelow
set_option maxRecDepth 20000 in
theorem ggX5_read_X2_nearest : GoodIn wsX5_read wsX2_nearest := goodIn_r _ [11, 12, 13, 14, 9, 15, 16, 17, 18, 19, 5, 6, 7, 37] (by decide +kernel) (by decide +kernel)
set_option maxRecDepth 20000 in
theorem gX5_read_X2_nearest_n54 : GoodIn wsX5_read (wsX2_nearest) := ggX5_read_X2_nearest
set_option maxRecDepth 20000 in
theorem ggX5_read_X0_widen : GoodIn wsX5_read wsX0_widen := goodIn_r _ [21, 22, 23, 24, 25, 26, 27, 28] (by decide +kernel) (by decide +kernel)
set_option maxRecDepth 20000 in
theorem gX5_read_X0_widen_n76 : GoodIn wsX5_read (wsX0_widen) := ggX5_read_X0_widen
set_option maxRecDepth 20000 in
theorem ggX5_read_J6_bitCount_0f7a4 : GoodIn wsX5_read wsJ6_bitCount_0f7a4 := goodIn_r _ [25, 26, 27, 28] (by decide +kernel) (by decide +kernel)
set_option maxRecDepth 20000 in
theorem gX5_read_J6_bitCount_0f7a4 : GoodIn wsX5_read (va_wsS RX5 49 yJ6_bitCount_0f7a4 wsJ6_bitCount_0f7a4) := goodIn_app (goodIn_of _ (by decide +kernel)) ggX5_read_J6_bitCount_0f7a4
set_option maxRecDepth 20000 in
theorem ggX5_read_X0_message : GoodIn wsX5_read wsX0_message := goodIn_r _ [31] (by decide +kernel) (by decide +kernel)
set_option maxRecDepth 20000 in
theorem gX5_read_X0_message_n60 : GoodIn wsX5_read (wsX0_message) := ggX5_read_X0_message
theorem dX5_read_0 : decode cX5_read 0 = .ok (.iload_n 1, 1) := by decide +kernel
theorem dX5_read_1 : decode cX5_read 1 = .ok (.ldc 79, 2) := by decide +kernel
theorem dX5_read_3 : decode cX5_read 3 = .ok (.invokestatic 35, 3) := by decide +kernel
theorem dX5_read_6 : decode cX5_read 6 = .ok (.ifCond .eq 11, 3) := by decide +kernel
theorem dX5_read_9 : decode cX5_read 9 = .ok (.iload_n 2, 1) := by decide +kernel
theorem dX5_read_10 : decode cX5_read 10 = .ok (.iconst 2, 1) := by decide +kernel
theorem dX5_read_11 : decode cX5_read 11 = .ok (.invokestatic 35, 3) := by decide +kernel
theorem dX5_read_14 : decode cX5_read 14 = .ok (.ifCond .ne 6, 3) := by decide +kernel
theorem dX5_read_17 : decode cX5_read 17 = .ok (.bipush (-2), 2) := by decide +kernel
theorem dX5_read_19 : decode cX5_read 19 = .ok (.ireturn, 1) := by decide +kernel
theorem dX5_read_20 : decode cX5_read 20 = .ok (.aload_n 0, 1) := by decide +kernel
theorem dX5_read_21 : decode cX5_read 21 = .ok (.getfield 12, 3) := by decide +kernel
theorem dX5_read_24 : decode cX5_read 24 = .ok (.iload_n 1, 1) := by decide +kernel
theorem dX5_read_25 : decode cX5_read 25 = .ok (.ldc 80, 2) := by decide +kernel
theorem dX5_read_27 : decode cX5_read 27 = .ok (.iand, 1) := by decide +kernel
theorem dX5_read_28 : decode cX5_read 28 = .ok (.invokevirtual 54, 3) := by decide +kernel
theorem dX5_read_31 : decode cX5_read 31 = .ok (.istore_n 3, 1) := by decide +kernel
theorem dX5_read_32 : decode cX5_read 32 = .ok (.iload_n 3, 1) := by decide +kernel
theorem dX5_read_33 : decode cX5_read 33 = .ok (.invokestatic 76, 3) := by decide +kernel
theorem dX5_read_36 : decode cX5_read 36 = .ok (.iload_n 1, 1) := by decide +kernel
theorem dX5_read_37 : decode cX5_read 37 = .ok (.ixor, 1) := by decide +kernel
theorem dX5_read_38 : decode cX5_read 38 = .ok (.invokestatic 49, 3) := by decide +kernel
theorem dX5_read_41 : decode cX5_read 41 = .ok (.istore 4, 2) := by decide +kernel
theorem dX5_read_43 : decode cX5_read 43 = .ok (.iload 4, 2) := by decide +kernel
theorem dX5_read_45 : decode cX5_read 45 = .ok (.iconst 3, 1) := by decide +kernel
theorem dX5_read_46 : decode cX5_read 46 = .ok (.if_icmp .le 6, 3) := by decide +kernel
theorem dX5_read_49 : decode cX5_read 49 = .ok (.bipush (-6), 2) := by decide +kernel
theorem dX5_read_51 : decode cX5_read 51 = .ok (.ireturn, 1) := by decide +kernel
theorem dX5_read_52 : decode cX5_read 52 = .ok (.iload_n 2, 1) := by decide +kernel
theorem dX5_read_53 : decode cX5_read 53 = .ok (.ifCond .ne 10, 3) := by decide +kernel
theorem dX5_read_56 : decode cX5_read 56 = .ok (.iload_n 3, 1) := by decide +kernel
theorem dX5_read_57 : decode cX5_read 57 = .ok (.invokestatic 60, 3) := by decide +kernel
theorem dX5_read_60 : decode cX5_read 60 = .ok (.goto 5, 3) := by decide +kernel
theorem dX5_read_63 : decode cX5_read 63 = .ok (.iload 4, 2) := by decide +kernel
theorem dX5_read_65 : decode cX5_read 65 = .ok (.ireturn, 1) := by decide +kernel
set_option maxRecDepth 20000 in
theorem ggX5_keeps_X5_isMove : GoodIn wsX5_keeps wsX5_isMove := goodIn_r _ [4, 5, 6, 3, 7] (by decide +kernel) (by decide +kernel)
set_option maxRecDepth 20000 in
theorem gX5_keeps_X5_isMove : GoodIn wsX5_keeps (va_wsS RX5 81 yX5_isMove wsX5_isMove) := goodIn_app (goodIn_of _ (by decide +kernel)) ggX5_keeps_X5_isMove
set_option maxRecDepth 20000 in
theorem ggX5_keeps_X0_staysInCode : GoodIn wsX5_keeps wsX0_staysInCode := goodIn_r _ [10, 11, 12, 9, 13, 14, 15, 16, 17, 18, 19] (by decide +kernel) (by decide +kernel)
set_option maxRecDepth 20000 in
theorem gX5_keeps_X0_staysInCode_n84 : GoodIn wsX5_keeps (wsX0_staysInCode) := ggX5_keeps_X0_staysInCode
theorem dX5_keeps_0 : decode cX5_keeps 0 = .ok (.iload_n 1, 1) := by decide +kernel
theorem dX5_keeps_1 : decode cX5_keeps 1 = .ok (.iload_n 2, 1) := by decide +kernel
theorem dX5_keeps_2 : decode cX5_keeps 2 = .ok (.invokestatic 81, 3) := by decide +kernel
theorem dX5_keeps_5 : decode cX5_keeps 5 = .ok (.ifCond .ne 6, 3) := by decide +kernel
theorem dX5_keeps_8 : decode cX5_keeps 8 = .ok (.bipush (-2), 2) := by decide +kernel
theorem dX5_keeps_10 : decode cX5_keeps 10 = .ok (.ireturn, 1) := by decide +kernel
theorem dX5_keeps_11 : decode cX5_keeps 11 = .ok (.iload_n 1, 1) := by decide +kernel
theorem dX5_keeps_12 : decode cX5_keeps 12 = .ok (.iload_n 2, 1) := by decide +kernel
theorem dX5_keeps_13 : decode cX5_keeps 13 = .ok (.invokestatic 84, 3) := by decide +kernel
theorem dX5_keeps_16 : decode cX5_keeps 16 = .ok (.ifCond .eq 7, 3) := by decide +kernel
theorem dX5_keeps_19 : decode cX5_keeps 19 = .ok (.iconst 1, 1) := by decide +kernel
theorem dX5_keeps_20 : decode cX5_keeps 20 = .ok (.goto 4, 3) := by decide +kernel
theorem dX5_keeps_23 : decode cX5_keeps 23 = .ok (.iconst 0, 1) := by decide +kernel
theorem dX5_keeps_24 : decode cX5_keeps 24 = .ok (.ireturn, 1) := by decide +kernel
set_option maxRecDepth 20000 in
theorem ggX5_moved_X5_isBelow : GoodIn wsX5_moved wsX5_isBelow := goodIn_r _ [5] (by decide +kernel) (by decide +kernel)
set_option maxRecDepth 20000 in
theorem gX5_moved_X5_isBelow : GoodIn wsX5_moved (va_wsS RX5 35 yX5_isBelow wsX5_isBelow) := goodIn_app (goodIn_of _ (by decide +kernel)) ggX5_moved_X5_isBelow
set_option maxRecDepth 20000 in
theorem ggX5_moved_X5_isMove : GoodIn wsX5_moved wsX5_isMove := goodIn_r _ [8, 2, 3, 4, 5] (by decide +kernel) (by decide +kernel)
set_option maxRecDepth 20000 in
theorem gX5_moved_X5_isMove : GoodIn wsX5_moved (va_wsS RX5 81 yX5_isMove wsX5_isMove) := goodIn_app (goodIn_of _ (by decide +kernel)) ggX5_moved_X5_isMove
set_option maxRecDepth 20000 in
theorem ggX5_moved_X0_carry : GoodIn wsX5_moved wsX0_carry := goodIn_r _ [11, 12, 13, 10, 14] (by decide +kernel) (by decide +kernel)
set_option maxRecDepth 20000 in
theorem gX5_moved_X0_carry_n87 : GoodIn wsX5_moved (wsX0_carry) := ggX5_moved_X0_carry
theorem dX5_moved_0 : decode cX5_moved 0 = .ok (.iload_n 1, 1) := by decide +kernel
theorem dX5_moved_1 : decode cX5_moved 1 = .ok (.ldc 45, 2) := by decide +kernel
theorem dX5_moved_3 : decode cX5_moved 3 = .ok (.invokestatic 35, 3) := by decide +kernel
theorem dX5_moved_6 : decode cX5_moved 6 = .ok (.ifCond .eq 20, 3) := by decide +kernel
theorem dX5_moved_9 : decode cX5_moved 9 = .ok (.iload_n 2, 1) := by decide +kernel
theorem dX5_moved_10 : decode cX5_moved 10 = .ok (.iload_n 3, 1) := by decide +kernel
theorem dX5_moved_11 : decode cX5_moved 11 = .ok (.invokestatic 81, 3) := by decide +kernel
theorem dX5_moved_14 : decode cX5_moved 14 = .ok (.ifCond .eq 12, 3) := by decide +kernel
theorem dX5_moved_17 : decode cX5_moved 17 = .ok (.iload_n 1, 1) := by decide +kernel
theorem dX5_moved_18 : decode cX5_moved 18 = .ok (.iload_n 2, 1) := by decide +kernel
theorem dX5_moved_19 : decode cX5_moved 19 = .ok (.iload_n 3, 1) := by decide +kernel
theorem dX5_moved_20 : decode cX5_moved 20 = .ok (.invokestatic 87, 3) := by decide +kernel
theorem dX5_moved_23 : decode cX5_moved 23 = .ok (.goto 5, 3) := by decide +kernel
theorem dX5_moved_26 : decode cX5_moved 26 = .ok (.bipush (-2), 2) := by decide +kernel
theorem dX5_moved_28 : decode cX5_moved 28 = .ok (.ireturn, 1) := by decide +kernel
set_option maxRecDepth 20000 in
theorem ggX5_move_X5_isMove : GoodIn wsX5_move wsX5_isMove := goodIn_r _ [5, 6, 7, 4, 8] (by decide +kernel) (by decide +kernel)
set_option maxRecDepth 20000 in
theorem gX5_move_X5_isMove : GoodIn wsX5_move (va_wsS RX5 81 yX5_isMove wsX5_isMove) := goodIn_app (goodIn_of _ (by decide +kernel)) ggX5_move_X5_isMove
set_option maxRecDepth 20000 in
theorem ggX5_move_X0_staysInCode : GoodIn wsX5_move wsX0_staysInCode := goodIn_r _ [11, 12, 13, 10, 14, 15, 16, 17, 18, 19, 20] (by decide +kernel) (by decide +kernel)
set_option maxRecDepth 20000 in
theorem gX5_move_X0_staysInCode_n84 : GoodIn wsX5_move (wsX0_staysInCode) := ggX5_move_X0_staysInCode
set_option maxRecDepth 20000 in
theorem ggX5_move_X3_append : GoodIn wsX5_move wsX3_append := goodIn_r _ [24, 25, 26, 27, 28, 29, 10, 30, 15, 16, 17, 38, 39, 40, 41] (by decide +kernel) (by decide +kernel)
set_option maxRecDepth 20000 in
theorem gX5_move_X3_append_n100 : GoodIn wsX5_move (wsX3_append) := ggX5_move_X3_append
theorem dX5_move_0 : decode cX5_move 0 = .ok (.iload_n 1, 1) := by decide +kernel
theorem dX5_move_1 : decode cX5_move 1 = .ok (.iload_n 2, 1) := by decide +kernel
theorem dX5_move_2 : decode cX5_move 2 = .ok (.invokestatic 81, 3) := by decide +kernel
theorem dX5_move_5 : decode cX5_move 5 = .ok (.ifCond .ne 6, 3) := by decide +kernel
theorem dX5_move_8 : decode cX5_move 8 = .ok (.bipush (-2), 2) := by decide +kernel
theorem dX5_move_10 : decode cX5_move 10 = .ok (.ireturn, 1) := by decide +kernel
theorem dX5_move_11 : decode cX5_move 11 = .ok (.iload_n 1, 1) := by decide +kernel
theorem dX5_move_12 : decode cX5_move 12 = .ok (.iload_n 2, 1) := by decide +kernel
theorem dX5_move_13 : decode cX5_move 13 = .ok (.invokestatic 84, 3) := by decide +kernel
theorem dX5_move_16 : decode cX5_move 16 = .ok (.ifCond .ne 6, 3) := by decide +kernel
theorem dX5_move_19 : decode cX5_move 19 = .ok (.bipush (-5), 2) := by decide +kernel
theorem dX5_move_21 : decode cX5_move 21 = .ok (.ireturn, 1) := by decide +kernel
theorem dX5_move_22 : decode cX5_move 22 = .ok (.aload_n 0, 1) := by decide +kernel
theorem dX5_move_23 : decode cX5_move 23 = .ok (.getfield 19, 3) := by decide +kernel
theorem dX5_move_26 : decode cX5_move 26 = .ok (.getfield 91, 3) := by decide +kernel
theorem dX5_move_29 : decode cX5_move 29 = .ok (.getfield 95, 3) := by decide +kernel
theorem dX5_move_32 : decode cX5_move 32 = .ok (.bipush 8, 2) := by decide +kernel
theorem dX5_move_34 : decode cX5_move 34 = .ok (.if_icmp .ne 6, 3) := by decide +kernel
theorem dX5_move_37 : decode cX5_move 37 = .ok (.bipush (-4), 2) := by decide +kernel
theorem dX5_move_39 : decode cX5_move 39 = .ok (.ireturn, 1) := by decide +kernel
theorem dX5_move_40 : decode cX5_move 40 = .ok (.aload_n 0, 1) := by decide +kernel
theorem dX5_move_41 : decode cX5_move 41 = .ok (.getfield 19, 3) := by decide +kernel
theorem dX5_move_44 : decode cX5_move 44 = .ok (.getfield 91, 3) := by decide +kernel
theorem dX5_move_47 : decode cX5_move 47 = .ok (.iload_n 1, 1) := by decide +kernel
theorem dX5_move_48 : decode cX5_move 48 = .ok (.iload_n 2, 1) := by decide +kernel
theorem dX5_move_49 : decode cX5_move 49 = .ok (.invokevirtual 100, 3) := by decide +kernel
theorem dX5_move_52 : decode cX5_move 52 = .ok (.aload_n 0, 1) := by decide +kernel
theorem dX5_move_53 : decode cX5_move 53 = .ok (.getfield 19, 3) := by decide +kernel
theorem dX5_move_56 : decode cX5_move 56 = .ok (.getfield 91, 3) := by decide +kernel
theorem dX5_move_59 : decode cX5_move 59 = .ok (.getfield 95, 3) := by decide +kernel
theorem dX5_move_62 : decode cX5_move 62 = .ok (.iconst 1, 1) := by decide +kernel
theorem dX5_move_63 : decode cX5_move 63 = .ok (.isub, 1) := by decide +kernel
theorem dX5_move_64 : decode cX5_move 64 = .ok (.ireturn, 1) := by decide +kernel
set_option maxRecDepth 20000 in
theorem ggX5_drop_X5_isBelow : GoodIn wsX5_drop wsX5_isBelow := goodIn_r _ [5] (by decide +kernel) (by decide +kernel)
set_option maxRecDepth 20000 in
theorem gX5_drop_X5_isBelow : GoodIn wsX5_drop (va_wsS RX5 35 yX5_isBelow wsX5_isBelow) := goodIn_app (goodIn_of _ (by decide +kernel)) ggX5_drop_X5_isBelow
set_option maxRecDepth 20000 in
theorem ggX5_drop_X3_removeAt : GoodIn wsX5_drop wsX3_removeAt := goodIn_r _ [9, 10, 11, 12, 13, 3, 4, 5, 21, 22, 23, 24] (by decide +kernel) (by decide +kernel)
set_option maxRecDepth 20000 in
theorem gX5_drop_X3_removeAt_n104 : GoodIn wsX5_drop (wsX3_removeAt) := ggX5_drop_X3_removeAt
theorem dX5_drop_0 : decode cX5_drop 0 = .ok (.iload_n 1, 1) := by decide +kernel
theorem dX5_drop_1 : decode cX5_drop 1 = .ok (.aload_n 0, 1) := by decide +kernel
theorem dX5_drop_2 : decode cX5_drop 2 = .ok (.getfield 19, 3) := by decide +kernel
theorem dX5_drop_5 : decode cX5_drop 5 = .ok (.getfield 91, 3) := by decide +kernel
theorem dX5_drop_8 : decode cX5_drop 8 = .ok (.getfield 95, 3) := by decide +kernel
theorem dX5_drop_11 : decode cX5_drop 11 = .ok (.invokestatic 35, 3) := by decide +kernel
theorem dX5_drop_14 : decode cX5_drop 14 = .ok (.ifCond .ne 5, 3) := by decide +kernel
theorem dX5_drop_17 : decode cX5_drop 17 = .ok (.iconst (-1), 1) := by decide +kernel
theorem dX5_drop_18 : decode cX5_drop 18 = .ok (.ireturn, 1) := by decide +kernel
theorem dX5_drop_19 : decode cX5_drop 19 = .ok (.aload_n 0, 1) := by decide +kernel
theorem dX5_drop_20 : decode cX5_drop 20 = .ok (.getfield 19, 3) := by decide +kernel
theorem dX5_drop_23 : decode cX5_drop 23 = .ok (.getfield 91, 3) := by decide +kernel
theorem dX5_drop_26 : decode cX5_drop 26 = .ok (.iload_n 1, 1) := by decide +kernel
theorem dX5_drop_27 : decode cX5_drop 27 = .ok (.invokevirtual 104, 3) := by decide +kernel
theorem dX5_drop_30 : decode cX5_drop 30 = .ok (.aload_n 0, 1) := by decide +kernel
theorem dX5_drop_31 : decode cX5_drop 31 = .ok (.getfield 19, 3) := by decide +kernel
theorem dX5_drop_34 : decode cX5_drop 34 = .ok (.getfield 91, 3) := by decide +kernel
theorem dX5_drop_37 : decode cX5_drop 37 = .ok (.getfield 95, 3) := by decide +kernel
theorem dX5_drop_40 : decode cX5_drop 40 = .ok (.ireturn, 1) := by decide +kernel
set_option maxRecDepth 20000 in
theorem ggX5_told_X5_isBelow : GoodIn wsX5_told wsX5_isBelow := goodIn_r _ [5] (by decide +kernel) (by decide +kernel)
set_option maxRecDepth 20000 in
theorem gX5_told_X5_isBelow : GoodIn wsX5_told (va_wsS RX5 35 yX5_isBelow wsX5_isBelow) := goodIn_app (goodIn_of _ (by decide +kernel)) ggX5_told_X5_isBelow
set_option maxRecDepth 20000 in
theorem ggX5_told_X3_coveredByFirst : GoodIn wsX5_told wsX3_coveredByFirst := goodIn_r _ [9, 10, 11, 12, 7, 13, 14, 15, 16, 17, 18, 19, 20, 21, 22, 30, 31, 32, 33] (by decide +kernel) (by decide +kernel)
set_option maxRecDepth 20000 in
theorem gX5_told_X3_coveredByFirst_n114 : GoodIn wsX5_told (wsX3_coveredByFirst) := ggX5_told_X3_coveredByFirst
theorem dX5_told_0 : decode cX5_told 0 = .ok (.iload_n 1, 1) := by decide +kernel
theorem dX5_told_1 : decode cX5_told 1 = .ok (.aload_n 0, 1) := by decide +kernel
theorem dX5_told_2 : decode cX5_told 2 = .ok (.getfield 19, 3) := by decide +kernel
theorem dX5_told_5 : decode cX5_told 5 = .ok (.getfield 91, 3) := by decide +kernel
theorem dX5_told_8 : decode cX5_told 8 = .ok (.getfield 95, 3) := by decide +kernel
theorem dX5_told_11 : decode cX5_told 11 = .ok (.invokestatic 35, 3) := by decide +kernel
theorem dX5_told_14 : decode cX5_told 14 = .ok (.ifCond .ne 5, 3) := by decide +kernel
theorem dX5_told_17 : decode cX5_told 17 = .ok (.iconst (-1), 1) := by decide +kernel
theorem dX5_told_18 : decode cX5_told 18 = .ok (.ireturn, 1) := by decide +kernel
theorem dX5_told_19 : decode cX5_told 19 = .ok (.iload_n 2, 1) := by decide +kernel
theorem dX5_told_20 : decode cX5_told 20 = .ok (.tableswitch 80 0 2 #[28, 41, 54], 28) := by decide +kernel
theorem dX5_told_48 : decode cX5_told 48 = .ok (.aload_n 0, 1) := by decide +kernel
theorem dX5_told_49 : decode cX5_told 49 = .ok (.getfield 19, 3) := by decide +kernel
theorem dX5_told_52 : decode cX5_told 52 = .ok (.getfield 91, 3) := by decide +kernel
theorem dX5_told_55 : decode cX5_told 55 = .ok (.getfield 108, 3) := by decide +kernel
theorem dX5_told_58 : decode cX5_told 58 = .ok (.iload_n 1, 1) := by decide +kernel
theorem dX5_told_59 : decode cX5_told 59 = .ok (.iaload, 1) := by decide +kernel
theorem dX5_told_60 : decode cX5_told 60 = .ok (.ireturn, 1) := by decide +kernel
theorem dX5_told_61 : decode cX5_told 61 = .ok (.aload_n 0, 1) := by decide +kernel
theorem dX5_told_62 : decode cX5_told 62 = .ok (.getfield 19, 3) := by decide +kernel
theorem dX5_told_65 : decode cX5_told 65 = .ok (.getfield 91, 3) := by decide +kernel
theorem dX5_told_68 : decode cX5_told 68 = .ok (.getfield 111, 3) := by decide +kernel
theorem dX5_told_71 : decode cX5_told 71 = .ok (.iload_n 1, 1) := by decide +kernel
theorem dX5_told_72 : decode cX5_told 72 = .ok (.iaload, 1) := by decide +kernel
theorem dX5_told_73 : decode cX5_told 73 = .ok (.ireturn, 1) := by decide +kernel
theorem dX5_told_74 : decode cX5_told 74 = .ok (.aload_n 0, 1) := by decide +kernel
theorem dX5_told_75 : decode cX5_told 75 = .ok (.getfield 19, 3) := by decide +kernel
theorem dX5_told_78 : decode cX5_told 78 = .ok (.getfield 91, 3) := by decide +kernel
theorem dX5_told_81 : decode cX5_told 81 = .ok (.iload_n 1, 1) := by decide +kernel
theorem dX5_told_82 : decode cX5_told 82 = .ok (.iconst 1, 1) := by decide +kernel
theorem dX5_told_83 : decode cX5_told 83 = .ok (.iadd, 1) := by decide +kernel
theorem dX5_told_84 : decode cX5_told 84 = .ok (.invokevirtual 114, 3) := by decide +kernel
theorem dX5_told_87 : decode cX5_told 87 = .ok (.aload_n 0, 1) := by decide +kernel
theorem dX5_told_88 : decode cX5_told 88 = .ok (.getfield 19, 3) := by decide +kernel
theorem dX5_told_91 : decode cX5_told 91 = .ok (.getfield 91, 3) := by decide +kernel
theorem dX5_told_94 : decode cX5_told 94 = .ok (.iload_n 1, 1) := by decide +kernel
theorem dX5_told_95 : decode cX5_told 95 = .ok (.invokevirtual 114, 3) := by decide +kernel
theorem dX5_told_98 : decode cX5_told 98 = .ok (.isub, 1) := by decide +kernel
theorem dX5_told_99 : decode cX5_told 99 = .ok (.ireturn, 1) := by decide +kernel
theorem dX5_told_100 : decode cX5_told 100 = .ok (.bipush (-2), 2) := by decide +kernel
theorem dX5_told_102 : decode cX5_told 102 = .ok (.ireturn, 1) := by decide +kernel
set_option maxRecDepth 20000 in
theorem ggX5_freed_X5_isBelow : GoodIn wsX5_freed wsX5_isBelow := goodIn_r _ [6] (by decide +kernel) (by decide +kernel)
set_option maxRecDepth 20000 in
theorem gX5_freed_X5_isBelow : GoodIn wsX5_freed (va_wsS RX5 35 yX5_isBelow wsX5_isBelow) := goodIn_app (goodIn_of _ (by decide +kernel)) ggX5_freed_X5_isBelow
set_option maxRecDepth 20000 in
theorem ggX5_freed_X0_carry : GoodIn wsX5_freed wsX0_carry := goodIn_r _ [9, 10, 11, 8, 12] (by decide +kernel) (by decide +kernel)
set_option maxRecDepth 20000 in
theorem gX5_freed_X0_carry_n87 : GoodIn wsX5_freed (wsX0_carry) := ggX5_freed_X0_carry
set_option maxRecDepth 20000 in
theorem ggX5_freed_X0_remainder : GoodIn wsX5_freed wsX0_remainder := goodIn_r _ [14] (by decide +kernel) (by decide +kernel)
set_option maxRecDepth 20000 in
theorem gX5_freed_X0_remainder_n46 : GoodIn wsX5_freed (wsX0_remainder) := ggX5_freed_X0_remainder
set_option maxRecDepth 20000 in
theorem ggX5_freed_J6_bitCount_0f7a4 : GoodIn wsX5_freed wsJ6_bitCount_0f7a4 := goodIn_r _ [18, 19, 20, 21] (by decide +kernel) (by decide +kernel)
set_option maxRecDepth 20000 in
theorem gX5_freed_J6_bitCount_0f7a4 : GoodIn wsX5_freed (va_wsS RX5 49 yJ6_bitCount_0f7a4 wsJ6_bitCount_0f7a4) := goodIn_app (goodIn_of _ (by decide +kernel)) ggX5_freed_J6_bitCount_0f7a4
set_option maxRecDepth 20000 in
theorem ggX5_freed_X0_carryBack : GoodIn wsX5_freed wsX0_carryBack := goodIn_r _ [23, 10, 11, 8, 12] (by decide +kernel) (by decide +kernel)
set_option maxRecDepth 20000 in
theorem gX5_freed_X0_carryBack_n117 : GoodIn wsX5_freed (wsX0_carryBack) := ggX5_freed_X0_carryBack
theorem dX5_freed_0 : decode cX5_freed 0 = .ok (.iload_n 1, 1) := by decide +kernel
theorem dX5_freed_1 : decode cX5_freed 1 = .ok (.ldc 45, 2) := by decide +kernel
theorem dX5_freed_3 : decode cX5_freed 3 = .ok (.invokestatic 35, 3) := by decide +kernel
theorem dX5_freed_6 : decode cX5_freed 6 = .ok (.ifCond .eq 11, 3) := by decide +kernel
theorem dX5_freed_9 : decode cX5_freed 9 = .ok (.iload_n 2, 1) := by decide +kernel
theorem dX5_freed_10 : decode cX5_freed 10 = .ok (.iconst 2, 1) := by decide +kernel
theorem dX5_freed_11 : decode cX5_freed 11 = .ok (.invokestatic 35, 3) := by decide +kernel
theorem dX5_freed_14 : decode cX5_freed 14 = .ok (.ifCond .ne 6, 3) := by decide +kernel
theorem dX5_freed_17 : decode cX5_freed 17 = .ok (.bipush (-2), 2) := by decide +kernel
theorem dX5_freed_19 : decode cX5_freed 19 = .ok (.ireturn, 1) := by decide +kernel
theorem dX5_freed_20 : decode cX5_freed 20 = .ok (.iconst 0, 1) := by decide +kernel
theorem dX5_freed_21 : decode cX5_freed 21 = .ok (.istore_n 3, 1) := by decide +kernel
theorem dX5_freed_22 : decode cX5_freed 22 = .ok (.iload_n 3, 1) := by decide +kernel
theorem dX5_freed_23 : decode cX5_freed 23 = .ok (.aload_n 0, 1) := by decide +kernel
theorem dX5_freed_24 : decode cX5_freed 24 = .ok (.getfield 19, 3) := by decide +kernel
end
section
theorem dX5_freed_27 : decode cX5_freed 27 = .ok (.getfield 91, 3) := by decide +kernel
theorem dX5_freed_30 : decode cX5_freed 30 = .ok (.getfield 95, 3) := by decide +kernel
theorem dX5_freed_33 : decode cX5_freed 33 = .ok (.if_icmp .ge 77, 3) := by decide +kernel
theorem dX5_freed_36 : decode cX5_freed 36 = .ok (.aload_n 0, 1) := by decide +kernel
theorem dX5_freed_37 : decode cX5_freed 37 = .ok (.getfield 19, 3) := by decide +kernel
theorem dX5_freed_40 : decode cX5_freed 40 = .ok (.getfield 91, 3) := by decide +kernel
theorem dX5_freed_43 : decode cX5_freed 43 = .ok (.getfield 108, 3) := by decide +kernel
theorem dX5_freed_46 : decode cX5_freed 46 = .ok (.iload_n 3, 1) := by decide +kernel
theorem dX5_freed_47 : decode cX5_freed 47 = .ok (.iaload, 1) := by decide +kernel
theorem dX5_freed_48 : decode cX5_freed 48 = .ok (.istore 4, 2) := by decide +kernel
theorem dX5_freed_50 : decode cX5_freed 50 = .ok (.aload_n 0, 1) := by decide +kernel
theorem dX5_freed_51 : decode cX5_freed 51 = .ok (.getfield 19, 3) := by decide +kernel
theorem dX5_freed_54 : decode cX5_freed 54 = .ok (.getfield 91, 3) := by decide +kernel
theorem dX5_freed_57 : decode cX5_freed 57 = .ok (.getfield 111, 3) := by decide +kernel
theorem dX5_freed_60 : decode cX5_freed 60 = .ok (.iload_n 3, 1) := by decide +kernel
theorem dX5_freed_61 : decode cX5_freed 61 = .ok (.iaload, 1) := by decide +kernel
theorem dX5_freed_62 : decode cX5_freed 62 = .ok (.istore 5, 2) := by decide +kernel
theorem dX5_freed_64 : decode cX5_freed 64 = .ok (.iload_n 1, 1) := by decide +kernel
theorem dX5_freed_65 : decode cX5_freed 65 = .ok (.iload 4, 2) := by decide +kernel
theorem dX5_freed_67 : decode cX5_freed 67 = .ok (.iload 5, 2) := by decide +kernel
theorem dX5_freed_69 : decode cX5_freed 69 = .ok (.invokestatic 87, 3) := by decide +kernel
theorem dX5_freed_72 : decode cX5_freed 72 = .ok (.invokestatic 46, 3) := by decide +kernel
theorem dX5_freed_75 : decode cX5_freed 75 = .ok (.istore 6, 2) := by decide +kernel
theorem dX5_freed_77 : decode cX5_freed 77 = .ok (.iload 6, 2) := by decide +kernel
theorem dX5_freed_79 : decode cX5_freed 79 = .ok (.invokestatic 49, 3) := by decide +kernel
theorem dX5_freed_82 : decode cX5_freed 82 = .ok (.iconst 3, 1) := by decide +kernel
theorem dX5_freed_83 : decode cX5_freed 83 = .ok (.if_icmp .gt 21, 3) := by decide +kernel
theorem dX5_freed_86 : decode cX5_freed 86 = .ok (.iload_n 2, 1) := by decide +kernel
theorem dX5_freed_87 : decode cX5_freed 87 = .ok (.ifCond .ne 7, 3) := by decide +kernel
theorem dX5_freed_90 : decode cX5_freed 90 = .ok (.iload_n 3, 1) := by decide +kernel
theorem dX5_freed_91 : decode cX5_freed 91 = .ok (.goto 12, 3) := by decide +kernel
theorem dX5_freed_94 : decode cX5_freed 94 = .ok (.iload 6, 2) := by decide +kernel
theorem dX5_freed_96 : decode cX5_freed 96 = .ok (.iload 4, 2) := by decide +kernel
theorem dX5_freed_98 : decode cX5_freed 98 = .ok (.iload 5, 2) := by decide +kernel
theorem dX5_freed_100 : decode cX5_freed 100 = .ok (.invokestatic 117, 3) := by decide +kernel
theorem dX5_freed_103 : decode cX5_freed 103 = .ok (.ireturn, 1) := by decide +kernel
theorem dX5_freed_104 : decode cX5_freed 104 = .ok (.iinc 3 1, 3) := by decide +kernel
theorem dX5_freed_107 : decode cX5_freed 107 = .ok (.goto (-85), 3) := by decide +kernel
theorem dX5_freed_110 : decode cX5_freed 110 = .ok (.bipush (-6), 2) := by decide +kernel
theorem dX5_freed_112 : decode cX5_freed 112 = .ok (.ireturn, 1) := by decide +kernel
set_option maxRecDepth 20000 in
theorem ggX5_open_X3_coveredByFirst : GoodIn wsX5_open wsX3_coveredByFirst := goodIn_r _ [5, 6, 7, 8, 3, 9, 10, 11, 12, 13, 14, 15, 16, 17, 18, 29, 30, 31, 32] (by decide +kernel) (by decide +kernel)
set_option maxRecDepth 20000 in
theorem gX5_open_X3_coveredByFirst_n114 : GoodIn wsX5_open (wsX3_coveredByFirst) := ggX5_open_X3_coveredByFirst
set_option maxRecDepth 20000 in
theorem ggX5_open_X3_firstNotCovered : GoodIn wsX5_open wsX3_firstNotCovered := goodIn_r _ [21, 10, 6, 7, 8, 3, 9, 11, 29, 30, 31, 32] (by decide +kernel) (by decide +kernel)
set_option maxRecDepth 20000 in
theorem gX5_open_X3_firstNotCovered_n120 : GoodIn wsX5_open (wsX3_firstNotCovered) := ggX5_open_X3_firstNotCovered
theorem dX5_open_0 : decode cX5_open 0 = .ok (.iload_n 1, 1) := by decide +kernel
theorem dX5_open_1 : decode cX5_open 1 = .ok (.lookupswitch 63 #[(0, 27), (1, 52)], 27) := by decide +kernel
theorem dX5_open_28 : decode cX5_open 28 = .ok (.sipush 1771, 3) := by decide +kernel
theorem dX5_open_31 : decode cX5_open 31 = .ok (.aload_n 0, 1) := by decide +kernel
theorem dX5_open_32 : decode cX5_open 32 = .ok (.getfield 19, 3) := by decide +kernel
theorem dX5_open_35 : decode cX5_open 35 = .ok (.getfield 91, 3) := by decide +kernel
theorem dX5_open_38 : decode cX5_open 38 = .ok (.aload_n 0, 1) := by decide +kernel
theorem dX5_open_39 : decode cX5_open 39 = .ok (.getfield 19, 3) := by decide +kernel
theorem dX5_open_42 : decode cX5_open 42 = .ok (.getfield 91, 3) := by decide +kernel
theorem dX5_open_45 : decode cX5_open 45 = .ok (.getfield 95, 3) := by decide +kernel
theorem dX5_open_48 : decode cX5_open 48 = .ok (.invokevirtual 114, 3) := by decide +kernel
theorem dX5_open_51 : decode cX5_open 51 = .ok (.isub, 1) := by decide +kernel
theorem dX5_open_52 : decode cX5_open 52 = .ok (.ireturn, 1) := by decide +kernel
theorem dX5_open_53 : decode cX5_open 53 = .ok (.aload_n 0, 1) := by decide +kernel
theorem dX5_open_54 : decode cX5_open 54 = .ok (.getfield 19, 3) := by decide +kernel
theorem dX5_open_57 : decode cX5_open 57 = .ok (.getfield 91, 3) := by decide +kernel
theorem dX5_open_60 : decode cX5_open 60 = .ok (.invokevirtual 120, 3) := by decide +kernel
theorem dX5_open_63 : decode cX5_open 63 = .ok (.ireturn, 1) := by decide +kernel
theorem dX5_open_64 : decode cX5_open 64 = .ok (.bipush (-2), 2) := by decide +kernel
theorem dX5_open_66 : decode cX5_open 66 = .ok (.ireturn, 1) := by decide +kernel
set_option maxRecDepth 20000 in
theorem ggX5_sure_X5_isBelow : GoodIn wsX5_sure wsX5_isBelow := goodIn_r _ [5] (by decide +kernel) (by decide +kernel)
set_option maxRecDepth 20000 in
theorem gX5_sure_X5_isBelow : GoodIn wsX5_sure (va_wsS RX5 35 yX5_isBelow wsX5_isBelow) := goodIn_app (goodIn_of _ (by decide +kernel)) ggX5_sure_X5_isBelow
theorem dX5_sure_0 : decode cX5_sure 0 = .ok (.iload_n 1, 1) := by decide +kernel
theorem dX5_sure_1 : decode cX5_sure 1 = .ok (.bipush 23, 2) := by decide +kernel
theorem dX5_sure_3 : decode cX5_sure 3 = .ok (.invokestatic 35, 3) := by decide +kernel
theorem dX5_sure_6 : decode cX5_sure 6 = .ok (.ifCond .eq 12, 3) := by decide +kernel
theorem dX5_sure_9 : decode cX5_sure 9 = .ok (.iload_n 2, 1) := by decide +kernel
theorem dX5_sure_10 : decode cX5_sure 10 = .ok (.bipush 10, 2) := by decide +kernel
theorem dX5_sure_12 : decode cX5_sure 12 = .ok (.invokestatic 35, 3) := by decide +kernel
theorem dX5_sure_15 : decode cX5_sure 15 = .ok (.ifCond .ne 6, 3) := by decide +kernel
theorem dX5_sure_18 : decode cX5_sure 18 = .ok (.bipush (-2), 2) := by decide +kernel
theorem dX5_sure_20 : decode cX5_sure 20 = .ok (.ireturn, 1) := by decide +kernel
theorem dX5_sure_21 : decode cX5_sure 21 = .ok (.aload_n 0, 1) := by decide +kernel
theorem dX5_sure_22 : decode cX5_sure 22 = .ok (.getfield 19, 3) := by decide +kernel
theorem dX5_sure_25 : decode cX5_sure 25 = .ok (.getfield 124, 3) := by decide +kernel
theorem dX5_sure_28 : decode cX5_sure 28 = .ok (.getfield 128, 3) := by decide +kernel
theorem dX5_sure_31 : decode cX5_sure 31 = .ok (.iload_n 1, 1) := by decide +kernel
theorem dX5_sure_32 : decode cX5_sure 32 = .ok (.iaload, 1) := by decide +kernel
theorem dX5_sure_33 : decode cX5_sure 33 = .ok (.istore_n 3, 1) := by decide +kernel
theorem dX5_sure_34 : decode cX5_sure 34 = .ok (.aload_n 0, 1) := by decide +kernel
theorem dX5_sure_35 : decode cX5_sure 35 = .ok (.getfield 19, 3) := by decide +kernel
theorem dX5_sure_38 : decode cX5_sure 38 = .ok (.getfield 124, 3) := by decide +kernel
theorem dX5_sure_41 : decode cX5_sure 41 = .ok (.getfield 128, 3) := by decide +kernel
theorem dX5_sure_44 : decode cX5_sure 44 = .ok (.iload_n 1, 1) := by decide +kernel
theorem dX5_sure_45 : decode cX5_sure 45 = .ok (.iload_n 2, 1) := by decide +kernel
theorem dX5_sure_46 : decode cX5_sure 46 = .ok (.iastore, 1) := by decide +kernel
theorem dX5_sure_47 : decode cX5_sure 47 = .ok (.iload_n 3, 1) := by decide +kernel
theorem dX5_sure_48 : decode cX5_sure 48 = .ok (.ireturn, 1) := by decide +kernel
set_option maxRecDepth 20000 in
theorem ggX5_weak_X5_isBelow : GoodIn wsX5_weak wsX5_isBelow := goodIn_r _ [5] (by decide +kernel) (by decide +kernel)
set_option maxRecDepth 20000 in
theorem gX5_weak_X5_isBelow : GoodIn wsX5_weak (va_wsS RX5 35 yX5_isBelow wsX5_isBelow) := goodIn_app (goodIn_of _ (by decide +kernel)) ggX5_weak_X5_isBelow
set_option maxRecDepth 20000 in
theorem ggX5_weak_X4_weakestBut : GoodIn wsX5_weak wsX4_weakestBut := goodIn_r _ [9, 10, 18] (by decide +kernel) (by decide +kernel)
set_option maxRecDepth 20000 in
theorem gX5_weak_X4_weakestBut_n133 : GoodIn wsX5_weak (wsX4_weakestBut) := ggX5_weak_X4_weakestBut
theorem dX5_weak_0 : decode cX5_weak 0 = .ok (.iload_n 1, 1) := by decide +kernel
theorem dX5_weak_1 : decode cX5_weak 1 = .ok (.iconst 4, 1) := by decide +kernel
theorem dX5_weak_2 : decode cX5_weak 2 = .ok (.invokestatic 35, 3) := by decide +kernel
theorem dX5_weak_5 : decode cX5_weak 5 = .ok (.ifCond .ne 6, 3) := by decide +kernel
theorem dX5_weak_8 : decode cX5_weak 8 = .ok (.bipush (-2), 2) := by decide +kernel
theorem dX5_weak_10 : decode cX5_weak 10 = .ok (.ireturn, 1) := by decide +kernel
theorem dX5_weak_11 : decode cX5_weak 11 = .ok (.iconst 0, 1) := by decide +kernel
theorem dX5_weak_12 : decode cX5_weak 12 = .ok (.istore_n 2, 1) := by decide +kernel
theorem dX5_weak_13 : decode cX5_weak 13 = .ok (.iconst 0, 1) := by decide +kernel
theorem dX5_weak_14 : decode cX5_weak 14 = .ok (.istore_n 3, 1) := by decide +kernel
theorem dX5_weak_15 : decode cX5_weak 15 = .ok (.iload_n 3, 1) := by decide +kernel
theorem dX5_weak_16 : decode cX5_weak 16 = .ok (.iload_n 1, 1) := by decide +kernel
theorem dX5_weak_17 : decode cX5_weak 17 = .ok (.if_icmp .ge 25, 3) := by decide +kernel
theorem dX5_weak_20 : decode cX5_weak 20 = .ok (.iload_n 2, 1) := by decide +kernel
theorem dX5_weak_21 : decode cX5_weak 21 = .ok (.iconst 1, 1) := by decide +kernel
theorem dX5_weak_22 : decode cX5_weak 22 = .ok (.aload_n 0, 1) := by decide +kernel
theorem dX5_weak_23 : decode cX5_weak 23 = .ok (.getfield 19, 3) := by decide +kernel
theorem dX5_weak_26 : decode cX5_weak 26 = .ok (.getfield 124, 3) := by decide +kernel
theorem dX5_weak_29 : decode cX5_weak 29 = .ok (.iload_n 2, 1) := by decide +kernel
theorem dX5_weak_30 : decode cX5_weak 30 = .ok (.invokevirtual 133, 3) := by decide +kernel
theorem dX5_weak_33 : decode cX5_weak 33 = .ok (.ishl, 1) := by decide +kernel
theorem dX5_weak_34 : decode cX5_weak 34 = .ok (.ior, 1) := by decide +kernel
theorem dX5_weak_35 : decode cX5_weak 35 = .ok (.istore_n 2, 1) := by decide +kernel
theorem dX5_weak_36 : decode cX5_weak 36 = .ok (.iinc 3 1, 3) := by decide +kernel
theorem dX5_weak_39 : decode cX5_weak 39 = .ok (.goto (-24), 3) := by decide +kernel
theorem dX5_weak_42 : decode cX5_weak 42 = .ok (.aload_n 0, 1) := by decide +kernel
theorem dX5_weak_43 : decode cX5_weak 43 = .ok (.getfield 19, 3) := by decide +kernel
theorem dX5_weak_46 : decode cX5_weak 46 = .ok (.getfield 124, 3) := by decide +kernel
theorem dX5_weak_49 : decode cX5_weak 49 = .ok (.iload_n 2, 1) := by decide +kernel
theorem dX5_weak_50 : decode cX5_weak 50 = .ok (.invokevirtual 133, 3) := by decide +kernel
theorem dX5_weak_53 : decode cX5_weak 53 = .ok (.ireturn, 1) := by decide +kernel
set_option maxRecDepth 20000 in
theorem ggX5_chosen_X5_isBelow : GoodIn wsX5_chosen wsX5_isBelow := goodIn_r _ [7] (by decide +kernel) (by decide +kernel)
set_option maxRecDepth 20000 in
theorem gX5_chosen_X5_isBelow : GoodIn wsX5_chosen (va_wsS RX5 35 yX5_isBelow wsX5_isBelow) := goodIn_app (goodIn_of _ (by decide +kernel)) ggX5_chosen_X5_isBelow
set_option maxRecDepth 20000 in
theorem ggX5_chosen_X5_fillTries : GoodIn wsX5_chosen wsX5_fillTries := goodIn_r _ [11, 2, 3, 12, 13, 14, 15, 16, 17, 18, 19, 20, 21, 22, 23, 24, 25, 26, 27, 28, 29, 5, 6, 7, 45, 46, 47, 48, 49, 50, 51, 52, 53] (by decide +kernel) (by decide +kernel)
set_option maxRecDepth 20000 in
theorem gX5_chosen_X5_fillTries : GoodIn wsX5_chosen (wsV RX5 136 RX5 yX5_fillTries wsX5_fillTries) := goodIn_app (goodIn_of _ (by decide +kernel)) ggX5_chosen_X5_fillTries
set_option maxRecDepth 20000 in
theorem ggX5_chosen_X5_unlikeTries : GoodIn wsX5_chosen wsX5_unlikeTries := goodIn_r _ [33, 34, 35, 36, 6, 37, 2, 45, 46, 47, 48, 49] (by decide +kernel) (by decide +kernel)
set_option maxRecDepth 20000 in
theorem gX5_chosen_X5_unlikeTries : GoodIn wsX5_chosen (wsV RX5 139 RX5 yX5_unlikeTries wsX5_unlikeTries) := goodIn_app (goodIn_of _ (by decide +kernel)) ggX5_chosen_X5_unlikeTries
set_option maxRecDepth 20000 in
theorem ggX5_chosen_X5_bestTry : GoodIn wsX5_chosen wsX5_bestTry := goodIn_r _ [41, 3, 2, 42, 14, 43, 44, 17, 45, 46, 47, 48, 49, 50, 51, 52] (by decide +kernel) (by decide +kernel)
set_option maxRecDepth 20000 in
theorem gX5_chosen_X5_bestTry : GoodIn wsX5_chosen (wsV RX5 142 RX5 yX5_bestTry wsX5_bestTry) := goodIn_app (goodIn_of _ (by decide +kernel)) ggX5_chosen_X5_bestTry
set_option maxRecDepth 20000 in
theorem ggX5_chosen_X4_sum : GoodIn wsX5_chosen wsX4_sum := goodIn_r _ [44, 17, 52] (by decide +kernel) (by decide +kernel)
set_option maxRecDepth 20000 in
theorem gX5_chosen_X4_sum_n145 : GoodIn wsX5_chosen (wsX4_sum) := ggX5_chosen_X4_sum
theorem dX5_chosen_0 : decode cX5_chosen 0 = .ok (.iload_n 1, 1) := by decide +kernel
theorem dX5_chosen_1 : decode cX5_chosen 1 = .ok (.ldc 45, 2) := by decide +kernel
theorem dX5_chosen_3 : decode cX5_chosen 3 = .ok (.invokestatic 35, 3) := by decide +kernel
theorem dX5_chosen_6 : decode cX5_chosen 6 = .ok (.ifCond .eq 19, 3) := by decide +kernel
theorem dX5_chosen_9 : decode cX5_chosen 9 = .ok (.iload_n 2, 1) := by decide +kernel
theorem dX5_chosen_10 : decode cX5_chosen 10 = .ok (.iconst 5, 1) := by decide +kernel
theorem dX5_chosen_11 : decode cX5_chosen 11 = .ok (.invokestatic 35, 3) := by decide +kernel
theorem dX5_chosen_14 : decode cX5_chosen 14 = .ok (.ifCond .eq 11, 3) := by decide +kernel
theorem dX5_chosen_17 : decode cX5_chosen 17 = .ok (.iload_n 3, 1) := by decide +kernel
theorem dX5_chosen_18 : decode cX5_chosen 18 = .ok (.iconst 4, 1) := by decide +kernel
theorem dX5_chosen_19 : decode cX5_chosen 19 = .ok (.invokestatic 35, 3) := by decide +kernel
theorem dX5_chosen_22 : decode cX5_chosen 22 = .ok (.ifCond .ne 6, 3) := by decide +kernel
theorem dX5_chosen_25 : decode cX5_chosen 25 = .ok (.bipush (-2), 2) := by decide +kernel
theorem dX5_chosen_27 : decode cX5_chosen 27 = .ok (.ireturn, 1) := by decide +kernel
theorem dX5_chosen_28 : decode cX5_chosen 28 = .ok (.iconst 1, 1) := by decide +kernel
theorem dX5_chosen_29 : decode cX5_chosen 29 = .ok (.iload_n 2, 1) := by decide +kernel
theorem dX5_chosen_30 : decode cX5_chosen 30 = .ok (.ishl, 1) := by decide +kernel
theorem dX5_chosen_31 : decode cX5_chosen 31 = .ok (.istore 4, 2) := by decide +kernel
theorem dX5_chosen_33 : decode cX5_chosen 33 = .ok (.aload_n 0, 1) := by decide +kernel
theorem dX5_chosen_34 : decode cX5_chosen 34 = .ok (.iload_n 1, 1) := by decide +kernel
theorem dX5_chosen_35 : decode cX5_chosen 35 = .ok (.iload_n 2, 1) := by decide +kernel
theorem dX5_chosen_36 : decode cX5_chosen 36 = .ok (.invokevirtual 136, 3) := by decide +kernel
theorem dX5_chosen_39 : decode cX5_chosen 39 = .ok (.iload_n 3, 1) := by decide +kernel
theorem dX5_chosen_40 : decode cX5_chosen 40 = .ok (.iconst 3, 1) := by decide +kernel
theorem dX5_chosen_41 : decode cX5_chosen 41 = .ok (.if_icmp .ne 10, 3) := by decide +kernel
theorem dX5_chosen_44 : decode cX5_chosen 44 = .ok (.aload_n 0, 1) := by decide +kernel
theorem dX5_chosen_45 : decode cX5_chosen 45 = .ok (.iload 4, 2) := by decide +kernel
theorem dX5_chosen_47 : decode cX5_chosen 47 = .ok (.invokevirtual 139, 3) := by decide +kernel
theorem dX5_chosen_50 : decode cX5_chosen 50 = .ok (.ireturn, 1) := by decide +kernel
theorem dX5_chosen_51 : decode cX5_chosen 51 = .ok (.aload_n 0, 1) := by decide +kernel
theorem dX5_chosen_52 : decode cX5_chosen 52 = .ok (.iload_n 1, 1) := by decide +kernel
theorem dX5_chosen_53 : decode cX5_chosen 53 = .ok (.iload 4, 2) := by decide +kernel
theorem dX5_chosen_55 : decode cX5_chosen 55 = .ok (.invokevirtual 142, 3) := by decide +kernel
theorem dX5_chosen_58 : decode cX5_chosen 58 = .ok (.istore 5, 2) := by decide +kernel
theorem dX5_chosen_60 : decode cX5_chosen 60 = .ok (.iload_n 3, 1) := by decide +kernel
theorem dX5_chosen_61 : decode cX5_chosen 61 = .ok (.iconst 2, 1) := by decide +kernel
theorem dX5_chosen_62 : decode cX5_chosen 62 = .ok (.if_icmp .ne 6, 3) := by decide +kernel
theorem dX5_chosen_65 : decode cX5_chosen 65 = .ok (.iload 5, 2) := by decide +kernel
theorem dX5_chosen_67 : decode cX5_chosen 67 = .ok (.ireturn, 1) := by decide +kernel
theorem dX5_chosen_68 : decode cX5_chosen 68 = .ok (.iload_n 3, 1) := by decide +kernel
theorem dX5_chosen_69 : decode cX5_chosen 69 = .ok (.ifCond .ne 13, 3) := by decide +kernel
theorem dX5_chosen_72 : decode cX5_chosen 72 = .ok (.aload_n 0, 1) := by decide +kernel
theorem dX5_chosen_73 : decode cX5_chosen 73 = .ok (.getfield 31, 3) := by decide +kernel
theorem dX5_chosen_76 : decode cX5_chosen 76 = .ok (.iload 5, 2) := by decide +kernel
theorem dX5_chosen_78 : decode cX5_chosen 78 = .ok (.iaload, 1) := by decide +kernel
theorem dX5_chosen_79 : decode cX5_chosen 79 = .ok (.goto 22, 3) := by decide +kernel
theorem dX5_chosen_82 : decode cX5_chosen 82 = .ok (.aload_n 0, 1) := by decide +kernel
theorem dX5_chosen_83 : decode cX5_chosen 83 = .ok (.getfield 19, 3) := by decide +kernel
theorem dX5_chosen_86 : decode cX5_chosen 86 = .ok (.getfield 124, 3) := by decide +kernel
theorem dX5_chosen_89 : decode cX5_chosen 89 = .ok (.aload_n 0, 1) := by decide +kernel
theorem dX5_chosen_90 : decode cX5_chosen 90 = .ok (.getfield 31, 3) := by decide +kernel
theorem dX5_chosen_93 : decode cX5_chosen 93 = .ok (.iload 5, 2) := by decide +kernel
theorem dX5_chosen_95 : decode cX5_chosen 95 = .ok (.iaload, 1) := by decide +kernel
theorem dX5_chosen_96 : decode cX5_chosen 96 = .ok (.iload_n 1, 1) := by decide +kernel
theorem dX5_chosen_97 : decode cX5_chosen 97 = .ok (.ixor, 1) := by decide +kernel
theorem dX5_chosen_98 : decode cX5_chosen 98 = .ok (.invokevirtual 145, 3) := by decide +kernel
theorem dX5_chosen_101 : decode cX5_chosen 101 = .ok (.ireturn, 1) := by decide +kernel
set_option maxRecDepth 20000 in
theorem ggX5_image_X5_isBelow : GoodIn wsX5_image wsX5_isBelow := goodIn_r _ [7] (by decide +kernel) (by decide +kernel)
set_option maxRecDepth 20000 in
theorem gX5_image_X5_isBelow : GoodIn wsX5_image (va_wsS RX5 35 yX5_isBelow wsX5_isBelow) := goodIn_app (goodIn_of _ (by decide +kernel)) ggX5_image_X5_isBelow
set_option maxRecDepth 20000 in
theorem ggX5_image_X1_copyFrom : GoodIn wsX5_image wsX1_copyFrom := goodIn_r _ [11, 12, 13, 14, 15, 16, 17, 18, 19, 20, 21, 22, 23, 24, 25, 26, 32, 33, 34, 35, 36, 37, 38] (by decide +kernel) (by decide +kernel)
set_option maxRecDepth 20000 in
theorem gX5_image_X1_copyFrom_n148 : GoodIn wsX5_image (wsX1_copyFrom) := ggX5_image_X1_copyFrom
theorem dX5_image_0 : decode cX5_image 0 = .ok (.iload_n 1, 1) := by decide +kernel
theorem dX5_image_1 : decode cX5_image 1 = .ok (.iconst 2, 1) := by decide +kernel
theorem dX5_image_2 : decode cX5_image 2 = .ok (.invokestatic 35, 3) := by decide +kernel
theorem dX5_image_5 : decode cX5_image 5 = .ok (.ifCond .ne 6, 3) := by decide +kernel
theorem dX5_image_8 : decode cX5_image 8 = .ok (.bipush (-2), 2) := by decide +kernel
theorem dX5_image_10 : decode cX5_image 10 = .ok (.ireturn, 1) := by decide +kernel
theorem dX5_image_11 : decode cX5_image 11 = .ok (.aload_n 0, 1) := by decide +kernel
theorem dX5_image_12 : decode cX5_image 12 = .ok (.getfield 23, 3) := by decide +kernel
theorem dX5_image_15 : decode cX5_image 15 = .ok (.iload_n 1, 1) := by decide +kernel
theorem dX5_image_16 : decode cX5_image 16 = .ok (.aaload, 1) := by decide +kernel
theorem dX5_image_17 : decode cX5_image 17 = .ok (.aload_n 0, 1) := by decide +kernel
theorem dX5_image_18 : decode cX5_image 18 = .ok (.getfield 19, 3) := by decide +kernel
theorem dX5_image_21 : decode cX5_image 21 = .ok (.invokevirtual 148, 3) := by decide +kernel
theorem dX5_image_24 : decode cX5_image 24 = .ok (.aload_n 0, 1) := by decide +kernel
theorem dX5_image_25 : decode cX5_image 25 = .ok (.dup, 1) := by decide +kernel
theorem dX5_image_26 : decode cX5_image 26 = .ok (.getfield 27, 3) := by decide +kernel
theorem dX5_image_29 : decode cX5_image 29 = .ok (.iconst 1, 1) := by decide +kernel
theorem dX5_image_30 : decode cX5_image 30 = .ok (.iload_n 1, 1) := by decide +kernel
theorem dX5_image_31 : decode cX5_image 31 = .ok (.ishl, 1) := by decide +kernel
theorem dX5_image_32 : decode cX5_image 32 = .ok (.ior, 1) := by decide +kernel
theorem dX5_image_33 : decode cX5_image 33 = .ok (.putfield 27, 3) := by decide +kernel
theorem dX5_image_36 : decode cX5_image 36 = .ok (.iconst 1, 1) := by decide +kernel
theorem dX5_image_37 : decode cX5_image 37 = .ok (.ireturn, 1) := by decide +kernel
set_option maxRecDepth 20000 in
theorem ggX5_restore_X5_isBelow : GoodIn wsX5_restore wsX5_isBelow := goodIn_r _ [7] (by decide +kernel) (by decide +kernel)
set_option maxRecDepth 20000 in
theorem gX5_restore_X5_isBelow : GoodIn wsX5_restore (va_wsS RX5 35 yX5_isBelow wsX5_isBelow) := goodIn_app (goodIn_of _ (by decide +kernel)) ggX5_restore_X5_isBelow
set_option maxRecDepth 20000 in
theorem ggX5_restore_X1_copyFrom : GoodIn wsX5_restore wsX1_copyFrom := goodIn_r _ [11, 12, 13, 14, 15, 16, 17, 18, 19, 20, 21, 22, 23, 24, 25, 26, 32, 33, 34, 35, 36, 37, 38] (by decide +kernel) (by decide +kernel)
set_option maxRecDepth 20000 in
theorem gX5_restore_X1_copyFrom_n148 : GoodIn wsX5_restore (wsX1_copyFrom) := ggX5_restore_X1_copyFrom
theorem dX5_restore_0 : decode cX5_restore 0 = .ok (.iload_n 1, 1) := by decide +kernel
theorem dX5_restore_1 : decode cX5_restore 1 = .ok (.iconst 2, 1) := by decide +kernel
theorem dX5_restore_2 : decode cX5_restore 2 = .ok (.invokestatic 35, 3) := by decide +kernel
theorem dX5_restore_5 : decode cX5_restore 5 = .ok (.ifCond .ne 6, 3) := by decide +kernel
theorem dX5_restore_8 : decode cX5_restore 8 = .ok (.bipush (-2), 2) := by decide +kernel
theorem dX5_restore_10 : decode cX5_restore 10 = .ok (.ireturn, 1) := by decide +kernel
theorem dX5_restore_11 : decode cX5_restore 11 = .ok (.aload_n 0, 1) := by decide +kernel
theorem dX5_restore_12 : decode cX5_restore 12 = .ok (.getfield 27, 3) := by decide +kernel
theorem dX5_restore_15 : decode cX5_restore 15 = .ok (.iload_n 1, 1) := by decide +kernel
theorem dX5_restore_16 : decode cX5_restore 16 = .ok (.iushr, 1) := by decide +kernel
theorem dX5_restore_17 : decode cX5_restore 17 = .ok (.iconst 1, 1) := by decide +kernel
theorem dX5_restore_18 : decode cX5_restore 18 = .ok (.iand, 1) := by decide +kernel
theorem dX5_restore_19 : decode cX5_restore 19 = .ok (.ifCond .ne 6, 3) := by decide +kernel
theorem dX5_restore_22 : decode cX5_restore 22 = .ok (.bipush (-3), 2) := by decide +kernel
theorem dX5_restore_24 : decode cX5_restore 24 = .ok (.ireturn, 1) := by decide +kernel
theorem dX5_restore_25 : decode cX5_restore 25 = .ok (.aload_n 0, 1) := by decide +kernel
theorem dX5_restore_26 : decode cX5_restore 26 = .ok (.getfield 19, 3) := by decide +kernel
theorem dX5_restore_29 : decode cX5_restore 29 = .ok (.aload_n 0, 1) := by decide +kernel
theorem dX5_restore_30 : decode cX5_restore 30 = .ok (.getfield 23, 3) := by decide +kernel
theorem dX5_restore_33 : decode cX5_restore 33 = .ok (.iload_n 1, 1) := by decide +kernel
theorem dX5_restore_34 : decode cX5_restore 34 = .ok (.aaload, 1) := by decide +kernel
theorem dX5_restore_35 : decode cX5_restore 35 = .ok (.invokevirtual 148, 3) := by decide +kernel
theorem dX5_restore_38 : decode cX5_restore 38 = .ok (.iconst 1, 1) := by decide +kernel
theorem dX5_restore_39 : decode cX5_restore 39 = .ok (.ireturn, 1) := by decide +kernel
set_option maxRecDepth 20000 in
theorem ggX5_count_X4_sum : GoodIn wsX5_count wsX4_sum := goodIn_r _ [7, 8, 28] (by decide +kernel) (by decide +kernel)
set_option maxRecDepth 20000 in
theorem gX5_count_X4_sum_n145 : GoodIn wsX5_count (wsX4_sum) := ggX5_count_X4_sum
set_option maxRecDepth 20000 in
theorem ggX5_count_X5_codeWordsAt : GoodIn wsX5_count wsX5_codeWordsAt := goodIn_r _ [12, 13, 14, 15, 11, 16] (by decide +kernel) (by decide +kernel)
set_option maxRecDepth 20000 in
theorem gX5_count_X5_codeWordsAt : GoodIn wsX5_count (va_wsS RX5 63 yX5_codeWordsAt wsX5_codeWordsAt) := goodIn_app (goodIn_of _ (by decide +kernel)) ggX5_count_X5_codeWordsAt
theorem dX5_count_0 : decode cX5_count 0 = .ok (.iload_n 1, 1) := by decide +kernel
theorem dX5_count_1 : decode cX5_count 1 = .ok (.ifCond .ne 14, 3) := by decide +kernel
theorem dX5_count_4 : decode cX5_count 4 = .ok (.aload_n 0, 1) := by decide +kernel
theorem dX5_count_5 : decode cX5_count 5 = .ok (.getfield 19, 3) := by decide +kernel
theorem dX5_count_8 : decode cX5_count 8 = .ok (.getfield 91, 3) := by decide +kernel
theorem dX5_count_11 : decode cX5_count 11 = .ok (.getfield 95, 3) := by decide +kernel
theorem dX5_count_14 : decode cX5_count 14 = .ok (.ireturn, 1) := by decide +kernel
theorem dX5_count_15 : decode cX5_count 15 = .ok (.iload_n 1, 1) := by decide +kernel
theorem dX5_count_16 : decode cX5_count 16 = .ok (.iconst 1, 1) := by decide +kernel
theorem dX5_count_17 : decode cX5_count 17 = .ok (.if_icmp .ne 16, 3) := by decide +kernel
theorem dX5_count_20 : decode cX5_count 20 = .ok (.aload_n 0, 1) := by decide +kernel
theorem dX5_count_21 : decode cX5_count 21 = .ok (.getfield 19, 3) := by decide +kernel
theorem dX5_count_24 : decode cX5_count 24 = .ok (.getfield 124, 3) := by decide +kernel
theorem dX5_count_27 : decode cX5_count 27 = .ok (.ldc 80, 2) := by decide +kernel
theorem dX5_count_29 : decode cX5_count 29 = .ok (.invokevirtual 145, 3) := by decide +kernel
theorem dX5_count_32 : decode cX5_count 32 = .ok (.ireturn, 1) := by decide +kernel
theorem dX5_count_33 : decode cX5_count 33 = .ok (.iload_n 1, 1) := by decide +kernel
theorem dX5_count_34 : decode cX5_count 34 = .ok (.iconst 2, 1) := by decide +kernel
theorem dX5_count_35 : decode cX5_count 35 = .ok (.if_icmp .ne 8, 3) := by decide +kernel
theorem dX5_count_38 : decode cX5_count 38 = .ok (.aload_n 0, 1) := by decide +kernel
theorem dX5_count_39 : decode cX5_count 39 = .ok (.getfield 27, 3) := by decide +kernel
theorem dX5_count_42 : decode cX5_count 42 = .ok (.ireturn, 1) := by decide +kernel
theorem dX5_count_43 : decode cX5_count 43 = .ok (.iload_n 1, 1) := by decide +kernel
theorem dX5_count_44 : decode cX5_count 44 = .ok (.bipush 10, 2) := by decide +kernel
theorem dX5_count_46 : decode cX5_count 46 = .ok (.if_icmp .lt 18, 3) := by decide +kernel
theorem dX5_count_49 : decode cX5_count 49 = .ok (.iload_n 1, 1) := by decide +kernel
theorem dX5_count_50 : decode cX5_count 50 = .ok (.bipush 34, 2) := by decide +kernel
theorem dX5_count_52 : decode cX5_count 52 = .ok (.if_icmp .ge 12, 3) := by decide +kernel
theorem dX5_count_55 : decode cX5_count 55 = .ok (.iconst 0, 1) := by decide +kernel
theorem dX5_count_56 : decode cX5_count 56 = .ok (.iload_n 1, 1) := by decide +kernel
theorem dX5_count_57 : decode cX5_count 57 = .ok (.bipush 10, 2) := by decide +kernel
theorem dX5_count_59 : decode cX5_count 59 = .ok (.isub, 1) := by decide +kernel
theorem dX5_count_60 : decode cX5_count 60 = .ok (.invokestatic 63, 3) := by decide +kernel
theorem dX5_count_63 : decode cX5_count 63 = .ok (.ireturn, 1) := by decide +kernel
theorem dX5_count_64 : decode cX5_count 64 = .ok (.iload_n 1, 1) := by decide +kernel
theorem dX5_count_65 : decode cX5_count 65 = .ok (.bipush 40, 2) := by decide +kernel
theorem dX5_count_67 : decode cX5_count 67 = .ok (.if_icmp .lt 25, 3) := by decide +kernel
theorem dX5_count_70 : decode cX5_count 70 = .ok (.iload_n 1, 1) := by decide +kernel
theorem dX5_count_71 : decode cX5_count 71 = .ok (.bipush 63, 2) := by decide +kernel
theorem dX5_count_73 : decode cX5_count 73 = .ok (.if_icmp .ge 19, 3) := by decide +kernel
theorem dX5_count_76 : decode cX5_count 76 = .ok (.aload_n 0, 1) := by decide +kernel
theorem dX5_count_77 : decode cX5_count 77 = .ok (.getfield 19, 3) := by decide +kernel
theorem dX5_count_80 : decode cX5_count 80 = .ok (.getfield 124, 3) := by decide +kernel
theorem dX5_count_83 : decode cX5_count 83 = .ok (.getfield 128, 3) := by decide +kernel
theorem dX5_count_86 : decode cX5_count 86 = .ok (.iload_n 1, 1) := by decide +kernel
theorem dX5_count_87 : decode cX5_count 87 = .ok (.bipush 40, 2) := by decide +kernel
theorem dX5_count_89 : decode cX5_count 89 = .ok (.isub, 1) := by decide +kernel
theorem dX5_count_90 : decode cX5_count 90 = .ok (.iaload, 1) := by decide +kernel
theorem dX5_count_91 : decode cX5_count 91 = .ok (.ireturn, 1) := by decide +kernel
theorem dX5_count_92 : decode cX5_count 92 = .ok (.bipush (-2), 2) := by decide +kernel
theorem dX5_count_94 : decode cX5_count 94 = .ok (.ireturn, 1) := by decide +kernel
theorem dX5_isBelow_0 : decode cX5_isBelow 0 = .ok (.iload_n 0, 1) := by decide +kernel
theorem dX5_isBelow_1 : decode cX5_isBelow 1 = .ok (.ifCond .lt 12, 3) := by decide +kernel
theorem dX5_isBelow_4 : decode cX5_isBelow 4 = .ok (.iload_n 0, 1) := by decide +kernel
theorem dX5_isBelow_5 : decode cX5_isBelow 5 = .ok (.iload_n 1, 1) := by decide +kernel
theorem dX5_isBelow_6 : decode cX5_isBelow 6 = .ok (.if_icmp .ge 7, 3) := by decide +kernel
theorem dX5_isBelow_9 : decode cX5_isBelow 9 = .ok (.iconst 1, 1) := by decide +kernel
theorem dX5_isBelow_10 : decode cX5_isBelow 10 = .ok (.goto 4, 3) := by decide +kernel
theorem dX5_isBelow_13 : decode cX5_isBelow 13 = .ok (.iconst 0, 1) := by decide +kernel
theorem dX5_isBelow_14 : decode cX5_isBelow 14 = .ok (.ireturn, 1) := by decide +kernel
set_option maxRecDepth 20000 in
theorem ggX5_isMove_X5_isBelow : GoodIn wsX5_isMove wsX5_isBelow := goodIn_r _ [4] (by decide +kernel) (by decide +kernel)
set_option maxRecDepth 20000 in
theorem gX5_isMove_X5_isBelow : GoodIn wsX5_isMove (va_wsS RX5 35 yX5_isBelow wsX5_isBelow) := goodIn_app (goodIn_of _ (by decide +kernel)) ggX5_isMove_X5_isBelow
theorem dX5_isMove_0 : decode cX5_isMove 0 = .ok (.iload_n 0, 1) := by decide +kernel
theorem dX5_isMove_1 : decode cX5_isMove 1 = .ok (.ifCond .eq 25, 3) := by decide +kernel
theorem dX5_isMove_4 : decode cX5_isMove 4 = .ok (.iload_n 0, 1) := by decide +kernel
theorem dX5_isMove_5 : decode cX5_isMove 5 = .ok (.bipush 23, 2) := by decide +kernel
theorem dX5_isMove_7 : decode cX5_isMove 7 = .ok (.invokestatic 35, 3) := by decide +kernel
theorem dX5_isMove_10 : decode cX5_isMove 10 = .ok (.ifCond .eq 16, 3) := by decide +kernel
theorem dX5_isMove_13 : decode cX5_isMove 13 = .ok (.iload_n 1, 1) := by decide +kernel
theorem dX5_isMove_14 : decode cX5_isMove 14 = .ok (.bipush 23, 2) := by decide +kernel
theorem dX5_isMove_16 : decode cX5_isMove 16 = .ok (.invokestatic 35, 3) := by decide +kernel
theorem dX5_isMove_19 : decode cX5_isMove 19 = .ok (.ifCond .eq 7, 3) := by decide +kernel
theorem dX5_isMove_22 : decode cX5_isMove 22 = .ok (.iconst 1, 1) := by decide +kernel
theorem dX5_isMove_23 : decode cX5_isMove 23 = .ok (.goto 4, 3) := by decide +kernel
theorem dX5_isMove_26 : decode cX5_isMove 26 = .ok (.iconst 0, 1) := by decide +kernel
theorem dX5_isMove_27 : decode cX5_isMove 27 = .ok (.ireturn, 1) := by decide +kernel
set_option maxRecDepth 20000 in
theorem ggX5_codeWordsAt_X5_isBelow : GoodIn wsX5_codeWordsAt wsX5_isBelow := goodIn_r _ [5] (by decide +kernel) (by decide +kernel)
set_option maxRecDepth 20000 in
theorem gX5_codeWordsAt_X5_isBelow : GoodIn wsX5_codeWordsAt (va_wsS RX5 35 yX5_isBelow wsX5_isBelow) := goodIn_app (goodIn_of _ (by decide +kernel)) ggX5_codeWordsAt_X5_isBelow
theorem dX5_codeWordsAt_0 : decode cX5_codeWordsAt 0 = .ok (.iload_n 0, 1) := by decide +kernel
theorem dX5_codeWordsAt_1 : decode cX5_codeWordsAt 1 = .ok (.iconst 4, 1) := by decide +kernel
theorem dX5_codeWordsAt_2 : decode cX5_codeWordsAt 2 = .ok (.invokestatic 35, 3) := by decide +kernel
theorem dX5_codeWordsAt_5 : decode cX5_codeWordsAt 5 = .ok (.ifCond .eq 12, 3) := by decide +kernel
theorem dX5_codeWordsAt_8 : decode cX5_codeWordsAt 8 = .ok (.iload_n 1, 1) := by decide +kernel
theorem dX5_codeWordsAt_9 : decode cX5_codeWordsAt 9 = .ok (.bipush 24, 2) := by decide +kernel
theorem dX5_codeWordsAt_11 : decode cX5_codeWordsAt 11 = .ok (.invokestatic 35, 3) := by decide +kernel
theorem dX5_codeWordsAt_14 : decode cX5_codeWordsAt 14 = .ok (.ifCond .ne 5, 3) := by decide +kernel
theorem dX5_codeWordsAt_17 : decode cX5_codeWordsAt 17 = .ok (.iconst 0, 1) := by decide +kernel
theorem dX5_codeWordsAt_18 : decode cX5_codeWordsAt 18 = .ok (.ireturn, 1) := by decide +kernel
theorem dX5_codeWordsAt_19 : decode cX5_codeWordsAt 19 = .ok (.getstatic 152, 3) := by decide +kernel
theorem dX5_codeWordsAt_22 : decode cX5_codeWordsAt 22 = .ok (.iload_n 0, 1) := by decide +kernel
theorem dX5_codeWordsAt_23 : decode cX5_codeWordsAt 23 = .ok (.bipush 24, 2) := by decide +kernel
theorem dX5_codeWordsAt_25 : decode cX5_codeWordsAt 25 = .ok (.imul, 1) := by decide +kernel
theorem dX5_codeWordsAt_26 : decode cX5_codeWordsAt 26 = .ok (.iload_n 1, 1) := by decide +kernel
theorem dX5_codeWordsAt_27 : decode cX5_codeWordsAt 27 = .ok (.iadd, 1) := by decide +kernel
theorem dX5_codeWordsAt_28 : decode cX5_codeWordsAt 28 = .ok (.iaload, 1) := by decide +kernel
theorem dX5_codeWordsAt_29 : decode cX5_codeWordsAt 29 = .ok (.ireturn, 1) := by decide +kernel
set_option maxRecDepth 20000 in
theorem ggX5_fillTries_X4_weakestBut : GoodIn wsX5_fillTries wsX4_weakestBut := goodIn_r _ [7, 8, 31] (by decide +kernel) (by decide +kernel)
set_option maxRecDepth 20000 in
theorem gX5_fillTries_X4_weakestBut_n133 : GoodIn wsX5_fillTries (wsX4_weakestBut) := ggX5_fillTries_X4_weakestBut
set_option maxRecDepth 20000 in
theorem ggX5_fillTries_X2_nearest : GoodIn wsX5_fillTries wsX2_nearest := goodIn_r _ [12, 13, 14, 15, 10, 16, 17, 18, 19, 20, 21, 22, 23, 32] (by decide +kernel) (by decide +kernel)
set_option maxRecDepth 20000 in
theorem gX5_fillTries_X2_nearest_n54 : GoodIn wsX5_fillTries (wsX2_nearest) := ggX5_fillTries_X2_nearest
theorem dX5_fillTries_0 : decode cX5_fillTries 0 = .ok (.aload_n 0, 1) := by decide +kernel
theorem dX5_fillTries_1 : decode cX5_fillTries 1 = .ok (.getfield 31, 3) := by decide +kernel
theorem dX5_fillTries_4 : decode cX5_fillTries 4 = .ok (.iconst 0, 1) := by decide +kernel
theorem dX5_fillTries_5 : decode cX5_fillTries 5 = .ok (.iload_n 1, 1) := by decide +kernel
theorem dX5_fillTries_6 : decode cX5_fillTries 6 = .ok (.iastore, 1) := by decide +kernel
theorem dX5_fillTries_7 : decode cX5_fillTries 7 = .ok (.iconst 0, 1) := by decide +kernel
theorem dX5_fillTries_8 : decode cX5_fillTries 8 = .ok (.istore_n 3, 1) := by decide +kernel
theorem dX5_fillTries_9 : decode cX5_fillTries 9 = .ok (.iconst 0, 1) := by decide +kernel
theorem dX5_fillTries_10 : decode cX5_fillTries 10 = .ok (.istore 4, 2) := by decide +kernel
theorem dX5_fillTries_12 : decode cX5_fillTries 12 = .ok (.iload 4, 2) := by decide +kernel
theorem dX5_fillTries_14 : decode cX5_fillTries 14 = .ok (.iload_n 2, 1) := by decide +kernel
theorem dX5_fillTries_15 : decode cX5_fillTries 15 = .ok (.if_icmp .ge 77, 3) := by decide +kernel
theorem dX5_fillTries_18 : decode cX5_fillTries 18 = .ok (.iload 4, 2) := by decide +kernel
theorem dX5_fillTries_20 : decode cX5_fillTries 20 = .ok (.iconst 4, 1) := by decide +kernel
theorem dX5_fillTries_21 : decode cX5_fillTries 21 = .ok (.if_icmp .ge 71, 3) := by decide +kernel
theorem dX5_fillTries_24 : decode cX5_fillTries 24 = .ok (.iconst 1, 1) := by decide +kernel
theorem dX5_fillTries_25 : decode cX5_fillTries 25 = .ok (.aload_n 0, 1) := by decide +kernel
theorem dX5_fillTries_26 : decode cX5_fillTries 26 = .ok (.getfield 19, 3) := by decide +kernel
theorem dX5_fillTries_29 : decode cX5_fillTries 29 = .ok (.getfield 124, 3) := by decide +kernel
theorem dX5_fillTries_32 : decode cX5_fillTries 32 = .ok (.iload_n 3, 1) := by decide +kernel
theorem dX5_fillTries_33 : decode cX5_fillTries 33 = .ok (.invokevirtual 133, 3) := by decide +kernel
theorem dX5_fillTries_36 : decode cX5_fillTries 36 = .ok (.ishl, 1) := by decide +kernel
theorem dX5_fillTries_37 : decode cX5_fillTries 37 = .ok (.istore 5, 2) := by decide +kernel
theorem dX5_fillTries_39 : decode cX5_fillTries 39 = .ok (.iconst 1, 1) := by decide +kernel
theorem dX5_fillTries_40 : decode cX5_fillTries 40 = .ok (.iload 4, 2) := by decide +kernel
theorem dX5_fillTries_42 : decode cX5_fillTries 42 = .ok (.ishl, 1) := by decide +kernel
theorem dX5_fillTries_43 : decode cX5_fillTries 43 = .ok (.istore 6, 2) := by decide +kernel
theorem dX5_fillTries_45 : decode cX5_fillTries 45 = .ok (.iconst 0, 1) := by decide +kernel
theorem dX5_fillTries_46 : decode cX5_fillTries 46 = .ok (.istore 7, 2) := by decide +kernel
theorem dX5_fillTries_48 : decode cX5_fillTries 48 = .ok (.iload 7, 2) := by decide +kernel
theorem dX5_fillTries_50 : decode cX5_fillTries 50 = .ok (.iload 6, 2) := by decide +kernel
theorem dX5_fillTries_52 : decode cX5_fillTries 52 = .ok (.if_icmp .ge 29, 3) := by decide +kernel
theorem dX5_fillTries_55 : decode cX5_fillTries 55 = .ok (.aload_n 0, 1) := by decide +kernel
theorem dX5_fillTries_56 : decode cX5_fillTries 56 = .ok (.getfield 31, 3) := by decide +kernel
theorem dX5_fillTries_59 : decode cX5_fillTries 59 = .ok (.iload 6, 2) := by decide +kernel
theorem dX5_fillTries_61 : decode cX5_fillTries 61 = .ok (.iload 7, 2) := by decide +kernel
theorem dX5_fillTries_63 : decode cX5_fillTries 63 = .ok (.iadd, 1) := by decide +kernel
end
section
theorem dX5_fillTries_64 : decode cX5_fillTries 64 = .ok (.aload_n 0, 1) := by decide +kernel
theorem dX5_fillTries_65 : decode cX5_fillTries 65 = .ok (.getfield 31, 3) := by decide +kernel
theorem dX5_fillTries_68 : decode cX5_fillTries 68 = .ok (.iload 7, 2) := by decide +kernel
theorem dX5_fillTries_70 : decode cX5_fillTries 70 = .ok (.iaload, 1) := by decide +kernel
theorem dX5_fillTries_71 : decode cX5_fillTries 71 = .ok (.iload 5, 2) := by decide +kernel
theorem dX5_fillTries_73 : decode cX5_fillTries 73 = .ok (.ixor, 1) := by decide +kernel
theorem dX5_fillTries_74 : decode cX5_fillTries 74 = .ok (.iastore, 1) := by decide +kernel
theorem dX5_fillTries_75 : decode cX5_fillTries 75 = .ok (.iinc 7 1, 3) := by decide +kernel
theorem dX5_fillTries_78 : decode cX5_fillTries 78 = .ok (.goto (-30), 3) := by decide +kernel
theorem dX5_fillTries_81 : decode cX5_fillTries 81 = .ok (.iload_n 3, 1) := by decide +kernel
theorem dX5_fillTries_82 : decode cX5_fillTries 82 = .ok (.iload 5, 2) := by decide +kernel
theorem dX5_fillTries_84 : decode cX5_fillTries 84 = .ok (.ior, 1) := by decide +kernel
theorem dX5_fillTries_85 : decode cX5_fillTries 85 = .ok (.istore_n 3, 1) := by decide +kernel
theorem dX5_fillTries_86 : decode cX5_fillTries 86 = .ok (.iinc 4 1, 3) := by decide +kernel
theorem dX5_fillTries_89 : decode cX5_fillTries 89 = .ok (.goto (-77), 3) := by decide +kernel
theorem dX5_fillTries_92 : decode cX5_fillTries 92 = .ok (.iconst 0, 1) := by decide +kernel
theorem dX5_fillTries_93 : decode cX5_fillTries 93 = .ok (.istore 4, 2) := by decide +kernel
theorem dX5_fillTries_95 : decode cX5_fillTries 95 = .ok (.iload 4, 2) := by decide +kernel
theorem dX5_fillTries_97 : decode cX5_fillTries 97 = .ok (.iconst 1, 1) := by decide +kernel
theorem dX5_fillTries_98 : decode cX5_fillTries 98 = .ok (.iload_n 2, 1) := by decide +kernel
theorem dX5_fillTries_99 : decode cX5_fillTries 99 = .ok (.ishl, 1) := by decide +kernel
theorem dX5_fillTries_100 : decode cX5_fillTries 100 = .ok (.if_icmp .ge 37, 3) := by decide +kernel
theorem dX5_fillTries_103 : decode cX5_fillTries 103 = .ok (.iload 4, 2) := by decide +kernel
theorem dX5_fillTries_105 : decode cX5_fillTries 105 = .ok (.bipush 16, 2) := by decide +kernel
theorem dX5_fillTries_107 : decode cX5_fillTries 107 = .ok (.if_icmp .ge 30, 3) := by decide +kernel
theorem dX5_fillTries_110 : decode cX5_fillTries 110 = .ok (.aload_n 0, 1) := by decide +kernel
theorem dX5_fillTries_111 : decode cX5_fillTries 111 = .ok (.getfield 31, 3) := by decide +kernel
theorem dX5_fillTries_114 : decode cX5_fillTries 114 = .ok (.iload 4, 2) := by decide +kernel
theorem dX5_fillTries_116 : decode cX5_fillTries 116 = .ok (.aload_n 0, 1) := by decide +kernel
theorem dX5_fillTries_117 : decode cX5_fillTries 117 = .ok (.getfield 12, 3) := by decide +kernel
theorem dX5_fillTries_120 : decode cX5_fillTries 120 = .ok (.aload_n 0, 1) := by decide +kernel
theorem dX5_fillTries_121 : decode cX5_fillTries 121 = .ok (.getfield 31, 3) := by decide +kernel
theorem dX5_fillTries_124 : decode cX5_fillTries 124 = .ok (.iload 4, 2) := by decide +kernel
theorem dX5_fillTries_126 : decode cX5_fillTries 126 = .ok (.iaload, 1) := by decide +kernel
theorem dX5_fillTries_127 : decode cX5_fillTries 127 = .ok (.invokevirtual 54, 3) := by decide +kernel
theorem dX5_fillTries_130 : decode cX5_fillTries 130 = .ok (.iastore, 1) := by decide +kernel
theorem dX5_fillTries_131 : decode cX5_fillTries 131 = .ok (.iinc 4 1, 3) := by decide +kernel
theorem dX5_fillTries_134 : decode cX5_fillTries 134 = .ok (.goto (-39), 3) := by decide +kernel
theorem dX5_fillTries_137 : decode cX5_fillTries 137 = .ok (.return_, 1) := by decide +kernel
set_option maxRecDepth 20000 in
theorem ggX5_bestTry_X4_sum : GoodIn wsX5_bestTry wsX4_sum := goodIn_r _ [6, 7, 15] (by decide +kernel) (by decide +kernel)
set_option maxRecDepth 20000 in
theorem gX5_bestTry_X4_sum_n145 : GoodIn wsX5_bestTry (wsX4_sum) := ggX5_bestTry_X4_sum
theorem dX5_bestTry_0 : decode cX5_bestTry 0 = .ok (.iconst 0, 1) := by decide +kernel
theorem dX5_bestTry_1 : decode cX5_bestTry 1 = .ok (.istore_n 3, 1) := by decide +kernel
theorem dX5_bestTry_2 : decode cX5_bestTry 2 = .ok (.aload_n 0, 1) := by decide +kernel
theorem dX5_bestTry_3 : decode cX5_bestTry 3 = .ok (.getfield 19, 3) := by decide +kernel
theorem dX5_bestTry_6 : decode cX5_bestTry 6 = .ok (.getfield 124, 3) := by decide +kernel
theorem dX5_bestTry_9 : decode cX5_bestTry 9 = .ok (.aload_n 0, 1) := by decide +kernel
theorem dX5_bestTry_10 : decode cX5_bestTry 10 = .ok (.getfield 31, 3) := by decide +kernel
theorem dX5_bestTry_13 : decode cX5_bestTry 13 = .ok (.iconst 0, 1) := by decide +kernel
theorem dX5_bestTry_14 : decode cX5_bestTry 14 = .ok (.iaload, 1) := by decide +kernel
theorem dX5_bestTry_15 : decode cX5_bestTry 15 = .ok (.iload_n 1, 1) := by decide +kernel
theorem dX5_bestTry_16 : decode cX5_bestTry 16 = .ok (.ixor, 1) := by decide +kernel
theorem dX5_bestTry_17 : decode cX5_bestTry 17 = .ok (.invokevirtual 145, 3) := by decide +kernel
theorem dX5_bestTry_20 : decode cX5_bestTry 20 = .ok (.istore 4, 2) := by decide +kernel
theorem dX5_bestTry_22 : decode cX5_bestTry 22 = .ok (.iconst 1, 1) := by decide +kernel
theorem dX5_bestTry_23 : decode cX5_bestTry 23 = .ok (.istore 5, 2) := by decide +kernel
theorem dX5_bestTry_25 : decode cX5_bestTry 25 = .ok (.iload 5, 2) := by decide +kernel
theorem dX5_bestTry_27 : decode cX5_bestTry 27 = .ok (.iload_n 2, 1) := by decide +kernel
theorem dX5_bestTry_28 : decode cX5_bestTry 28 = .ok (.if_icmp .ge 51, 3) := by decide +kernel
theorem dX5_bestTry_31 : decode cX5_bestTry 31 = .ok (.iload 5, 2) := by decide +kernel
theorem dX5_bestTry_33 : decode cX5_bestTry 33 = .ok (.bipush 16, 2) := by decide +kernel
theorem dX5_bestTry_35 : decode cX5_bestTry 35 = .ok (.if_icmp .ge 44, 3) := by decide +kernel
theorem dX5_bestTry_38 : decode cX5_bestTry 38 = .ok (.aload_n 0, 1) := by decide +kernel
theorem dX5_bestTry_39 : decode cX5_bestTry 39 = .ok (.getfield 19, 3) := by decide +kernel
theorem dX5_bestTry_42 : decode cX5_bestTry 42 = .ok (.getfield 124, 3) := by decide +kernel
theorem dX5_bestTry_45 : decode cX5_bestTry 45 = .ok (.aload_n 0, 1) := by decide +kernel
theorem dX5_bestTry_46 : decode cX5_bestTry 46 = .ok (.getfield 31, 3) := by decide +kernel
theorem dX5_bestTry_49 : decode cX5_bestTry 49 = .ok (.iload 5, 2) := by decide +kernel
theorem dX5_bestTry_51 : decode cX5_bestTry 51 = .ok (.iaload, 1) := by decide +kernel
theorem dX5_bestTry_52 : decode cX5_bestTry 52 = .ok (.iload_n 1, 1) := by decide +kernel
theorem dX5_bestTry_53 : decode cX5_bestTry 53 = .ok (.ixor, 1) := by decide +kernel
theorem dX5_bestTry_54 : decode cX5_bestTry 54 = .ok (.invokevirtual 145, 3) := by decide +kernel
theorem dX5_bestTry_57 : decode cX5_bestTry 57 = .ok (.istore 6, 2) := by decide +kernel
theorem dX5_bestTry_59 : decode cX5_bestTry 59 = .ok (.iload 6, 2) := by decide +kernel
theorem dX5_bestTry_61 : decode cX5_bestTry 61 = .ok (.iload 4, 2) := by decide +kernel
theorem dX5_bestTry_63 : decode cX5_bestTry 63 = .ok (.if_icmp .ge 10, 3) := by decide +kernel
theorem dX5_bestTry_66 : decode cX5_bestTry 66 = .ok (.iload 6, 2) := by decide +kernel
theorem dX5_bestTry_68 : decode cX5_bestTry 68 = .ok (.istore 4, 2) := by decide +kernel
theorem dX5_bestTry_70 : decode cX5_bestTry 70 = .ok (.iload 5, 2) := by decide +kernel
theorem dX5_bestTry_72 : decode cX5_bestTry 72 = .ok (.istore_n 3, 1) := by decide +kernel
theorem dX5_bestTry_73 : decode cX5_bestTry 73 = .ok (.iinc 5 1, 3) := by decide +kernel
theorem dX5_bestTry_76 : decode cX5_bestTry 76 = .ok (.goto (-51), 3) := by decide +kernel
theorem dX5_bestTry_79 : decode cX5_bestTry 79 = .ok (.iload_n 3, 1) := by decide +kernel
theorem dX5_bestTry_80 : decode cX5_bestTry 80 = .ok (.ireturn, 1) := by decide +kernel
set_option maxRecDepth 20000 in
theorem ggX5_unlikeTries_X5_isFirstOfItsWord : GoodIn wsX5_unlikeTries wsX5_isFirstOfItsWord := goodIn_r _ [5, 6, 7, 8, 9, 10, 11] (by decide +kernel) (by decide +kernel)
set_option maxRecDepth 20000 in
theorem gX5_unlikeTries_X5_isFirstOfItsWord : GoodIn wsX5_unlikeTries (wsV RX5 155 RX5 yX5_isFirstOfItsWord wsX5_isFirstOfItsWord) := goodIn_app (goodIn_of _ (by decide +kernel)) ggX5_unlikeTries_X5_isFirstOfItsWord
theorem dX5_unlikeTries_0 : decode cX5_unlikeTries 0 = .ok (.iconst 0, 1) := by decide +kernel
theorem dX5_unlikeTries_1 : decode cX5_unlikeTries 1 = .ok (.istore_n 2, 1) := by decide +kernel
theorem dX5_unlikeTries_2 : decode cX5_unlikeTries 2 = .ok (.iconst 0, 1) := by decide +kernel
theorem dX5_unlikeTries_3 : decode cX5_unlikeTries 3 = .ok (.istore_n 3, 1) := by decide +kernel
theorem dX5_unlikeTries_4 : decode cX5_unlikeTries 4 = .ok (.iload_n 3, 1) := by decide +kernel
theorem dX5_unlikeTries_5 : decode cX5_unlikeTries 5 = .ok (.iload_n 1, 1) := by decide +kernel
theorem dX5_unlikeTries_6 : decode cX5_unlikeTries 6 = .ok (.if_icmp .ge 26, 3) := by decide +kernel
theorem dX5_unlikeTries_9 : decode cX5_unlikeTries 9 = .ok (.iload_n 3, 1) := by decide +kernel
theorem dX5_unlikeTries_10 : decode cX5_unlikeTries 10 = .ok (.bipush 16, 2) := by decide +kernel
theorem dX5_unlikeTries_12 : decode cX5_unlikeTries 12 = .ok (.if_icmp .ge 20, 3) := by decide +kernel
theorem dX5_unlikeTries_15 : decode cX5_unlikeTries 15 = .ok (.aload_n 0, 1) := by decide +kernel
theorem dX5_unlikeTries_16 : decode cX5_unlikeTries 16 = .ok (.iload_n 3, 1) := by decide +kernel
theorem dX5_unlikeTries_17 : decode cX5_unlikeTries 17 = .ok (.invokevirtual 155, 3) := by decide +kernel
theorem dX5_unlikeTries_20 : decode cX5_unlikeTries 20 = .ok (.ifCond .eq 6, 3) := by decide +kernel
theorem dX5_unlikeTries_23 : decode cX5_unlikeTries 23 = .ok (.iinc 2 1, 3) := by decide +kernel
theorem dX5_unlikeTries_26 : decode cX5_unlikeTries 26 = .ok (.iinc 3 1, 3) := by decide +kernel
theorem dX5_unlikeTries_29 : decode cX5_unlikeTries 29 = .ok (.goto (-25), 3) := by decide +kernel
theorem dX5_unlikeTries_32 : decode cX5_unlikeTries 32 = .ok (.iload_n 2, 1) := by decide +kernel
theorem dX5_unlikeTries_33 : decode cX5_unlikeTries 33 = .ok (.ireturn, 1) := by decide +kernel
theorem dX5_isFirstOfItsWord_0 : decode cX5_isFirstOfItsWord 0 = .ok (.iconst 0, 1) := by decide +kernel
theorem dX5_isFirstOfItsWord_1 : decode cX5_isFirstOfItsWord 1 = .ok (.istore_n 2, 1) := by decide +kernel
theorem dX5_isFirstOfItsWord_2 : decode cX5_isFirstOfItsWord 2 = .ok (.iload_n 2, 1) := by decide +kernel
theorem dX5_isFirstOfItsWord_3 : decode cX5_isFirstOfItsWord 3 = .ok (.iload_n 1, 1) := by decide +kernel
theorem dX5_isFirstOfItsWord_4 : decode cX5_isFirstOfItsWord 4 = .ok (.if_icmp .ge 26, 3) := by decide +kernel
theorem dX5_isFirstOfItsWord_7 : decode cX5_isFirstOfItsWord 7 = .ok (.aload_n 0, 1) := by decide +kernel
theorem dX5_isFirstOfItsWord_8 : decode cX5_isFirstOfItsWord 8 = .ok (.getfield 31, 3) := by decide +kernel
theorem dX5_isFirstOfItsWord_11 : decode cX5_isFirstOfItsWord 11 = .ok (.iload_n 2, 1) := by decide +kernel
theorem dX5_isFirstOfItsWord_12 : decode cX5_isFirstOfItsWord 12 = .ok (.iaload, 1) := by decide +kernel
theorem dX5_isFirstOfItsWord_13 : decode cX5_isFirstOfItsWord 13 = .ok (.aload_n 0, 1) := by decide +kernel
theorem dX5_isFirstOfItsWord_14 : decode cX5_isFirstOfItsWord 14 = .ok (.getfield 31, 3) := by decide +kernel
theorem dX5_isFirstOfItsWord_17 : decode cX5_isFirstOfItsWord 17 = .ok (.iload_n 1, 1) := by decide +kernel
theorem dX5_isFirstOfItsWord_18 : decode cX5_isFirstOfItsWord 18 = .ok (.iaload, 1) := by decide +kernel
theorem dX5_isFirstOfItsWord_19 : decode cX5_isFirstOfItsWord 19 = .ok (.if_icmp .ne 5, 3) := by decide +kernel
theorem dX5_isFirstOfItsWord_22 : decode cX5_isFirstOfItsWord 22 = .ok (.iconst 0, 1) := by decide +kernel
theorem dX5_isFirstOfItsWord_23 : decode cX5_isFirstOfItsWord 23 = .ok (.ireturn, 1) := by decide +kernel
theorem dX5_isFirstOfItsWord_24 : decode cX5_isFirstOfItsWord 24 = .ok (.iinc 2 1, 3) := by decide +kernel
theorem dX5_isFirstOfItsWord_27 : decode cX5_isFirstOfItsWord 27 = .ok (.goto (-25), 3) := by decide +kernel
theorem dX5_isFirstOfItsWord_30 : decode cX5_isFirstOfItsWord 30 = .ok (.iconst 1, 1) := by decide +kernel
theorem dX5_isFirstOfItsWord_31 : decode cX5_isFirstOfItsWord 31 = .ok (.ireturn, 1) := by decide +kernel
set_option maxRecDepth 20000 in
theorem ggX6_init_X6_layErrors : GoodIn wsX6_init wsX6_layErrors := goodIn_r _ [15, 9, 16, 17, 14, 18, 19, 20, 21, 22, 23, 24, 25] (by decide +kernel) (by decide +kernel)
set_option maxRecDepth 20000 in
theorem gX6_init_X6_layErrors : GoodIn wsX6_init (wsV RX6 26 RX6 yX6_layErrors wsX6_layErrors) := goodIn_app (goodIn_of _ (by decide +kernel)) ggX6_init_X6_layErrors
theorem dX6_init_0 : decode cX6_init 0 = .ok (.aload_n 0, 1) := by decide +kernel
theorem dX6_init_1 : decode cX6_init 1 = .ok (.invokespecial 1, 3) := by decide +kernel
theorem dX6_init_4 : decode cX6_init 4 = .ok (.aload_n 0, 1) := by decide +kernel
theorem dX6_init_5 : decode cX6_init 5 = .ok (.bipush 40, 2) := by decide +kernel
theorem dX6_init_7 : decode cX6_init 7 = .ok (.newarray .int, 2) := by decide +kernel
theorem dX6_init_9 : decode cX6_init 9 = .ok (.putfield 7, 3) := by decide +kernel
theorem dX6_init_12 : decode cX6_init 12 = .ok (.aload_n 0, 1) := by decide +kernel
theorem dX6_init_13 : decode cX6_init 13 = .ok (.bipush 80, 2) := by decide +kernel
theorem dX6_init_15 : decode cX6_init 15 = .ok (.newarray .int, 2) := by decide +kernel
theorem dX6_init_17 : decode cX6_init 17 = .ok (.putfield 13, 3) := by decide +kernel
theorem dX6_init_20 : decode cX6_init 20 = .ok (.aload_n 0, 1) := by decide +kernel
theorem dX6_init_21 : decode cX6_init 21 = .ok (.iconst 2, 1) := by decide +kernel
theorem dX6_init_22 : decode cX6_init 22 = .ok (.newarray .boolean, 2) := by decide +kernel
theorem dX6_init_24 : decode cX6_init 24 = .ok (.putfield 16, 3) := by decide +kernel
theorem dX6_init_27 : decode cX6_init 27 = .ok (.aload_n 0, 1) := by decide +kernel
theorem dX6_init_28 : decode cX6_init 28 = .ok (.sipush 2048, 3) := by decide +kernel
theorem dX6_init_31 : decode cX6_init 31 = .ok (.newarray .int, 2) := by decide +kernel
theorem dX6_init_33 : decode cX6_init 33 = .ok (.putfield 20, 3) := by decide +kernel
theorem dX6_init_36 : decode cX6_init 36 = .ok (.aload_n 0, 1) := by decide +kernel
theorem dX6_init_37 : decode cX6_init 37 = .ok (.bipush 16, 2) := by decide +kernel
theorem dX6_init_39 : decode cX6_init 39 = .ok (.newarray .int, 2) := by decide +kernel
theorem dX6_init_41 : decode cX6_init 41 = .ok (.putfield 23, 3) := by decide +kernel
theorem dX6_init_44 : decode cX6_init 44 = .ok (.iconst 0, 1) := by decide +kernel
theorem dX6_init_45 : decode cX6_init 45 = .ok (.istore_n 1, 1) := by decide +kernel
theorem dX6_init_46 : decode cX6_init 46 = .ok (.iload_n 1, 1) := by decide +kernel
theorem dX6_init_47 : decode cX6_init 47 = .ok (.bipush 23, 2) := by decide +kernel
theorem dX6_init_49 : decode cX6_init 49 = .ok (.if_icmp .ge 20, 3) := by decide +kernel
theorem dX6_init_52 : decode cX6_init 52 = .ok (.aload_n 0, 1) := by decide +kernel
theorem dX6_init_53 : decode cX6_init 53 = .ok (.getfield 7, 3) := by decide +kernel
theorem dX6_init_56 : decode cX6_init 56 = .ok (.bipush 17, 2) := by decide +kernel
theorem dX6_init_58 : decode cX6_init 58 = .ok (.iload_n 1, 1) := by decide +kernel
theorem dX6_init_59 : decode cX6_init 59 = .ok (.iadd, 1) := by decide +kernel
theorem dX6_init_60 : decode cX6_init 60 = .ok (.bipush 9, 2) := by decide +kernel
theorem dX6_init_62 : decode cX6_init 62 = .ok (.iastore, 1) := by decide +kernel
theorem dX6_init_63 : decode cX6_init 63 = .ok (.iinc 1 1, 3) := by decide +kernel
theorem dX6_init_66 : decode cX6_init 66 = .ok (.goto (-20), 3) := by decide +kernel
theorem dX6_init_69 : decode cX6_init 69 = .ok (.iconst 0, 1) := by decide +kernel
theorem dX6_init_70 : decode cX6_init 70 = .ok (.istore_n 1, 1) := by decide +kernel
theorem dX6_init_71 : decode cX6_init 71 = .ok (.iload_n 1, 1) := by decide +kernel
theorem dX6_init_72 : decode cX6_init 72 = .ok (.bipush 23, 2) := by decide +kernel
theorem dX6_init_74 : decode cX6_init 74 = .ok (.if_icmp .ge 74, 3) := by decide +kernel
theorem dX6_init_77 : decode cX6_init 77 = .ok (.aload_n 0, 1) := by decide +kernel
theorem dX6_init_78 : decode cX6_init 78 = .ok (.iconst 1, 1) := by decide +kernel
theorem dX6_init_79 : decode cX6_init 79 = .ok (.iload_n 1, 1) := by decide +kernel
theorem dX6_init_80 : decode cX6_init 80 = .ok (.ishl, 1) := by decide +kernel
theorem dX6_init_81 : decode cX6_init 81 = .ok (.invokevirtual 26, 3) := by decide +kernel
theorem dX6_init_84 : decode cX6_init 84 = .ok (.iload_n 1, 1) := by decide +kernel
theorem dX6_init_85 : decode cX6_init 85 = .ok (.iconst 1, 1) := by decide +kernel
theorem dX6_init_86 : decode cX6_init 86 = .ok (.iadd, 1) := by decide +kernel
theorem dX6_init_87 : decode cX6_init 87 = .ok (.istore_n 2, 1) := by decide +kernel
theorem dX6_init_88 : decode cX6_init 88 = .ok (.iload_n 2, 1) := by decide +kernel
theorem dX6_init_89 : decode cX6_init 89 = .ok (.bipush 23, 2) := by decide +kernel
theorem dX6_init_91 : decode cX6_init 91 = .ok (.if_icmp .ge 51, 3) := by decide +kernel
theorem dX6_init_94 : decode cX6_init 94 = .ok (.aload_n 0, 1) := by decide +kernel
theorem dX6_init_95 : decode cX6_init 95 = .ok (.iconst 1, 1) := by decide +kernel
theorem dX6_init_96 : decode cX6_init 96 = .ok (.iload_n 1, 1) := by decide +kernel
theorem dX6_init_97 : decode cX6_init 97 = .ok (.ishl, 1) := by decide +kernel
theorem dX6_init_98 : decode cX6_init 98 = .ok (.iconst 1, 1) := by decide +kernel
theorem dX6_init_99 : decode cX6_init 99 = .ok (.iload_n 2, 1) := by decide +kernel
theorem dX6_init_100 : decode cX6_init 100 = .ok (.ishl, 1) := by decide +kernel
theorem dX6_init_101 : decode cX6_init 101 = .ok (.ior, 1) := by decide +kernel
theorem dX6_init_102 : decode cX6_init 102 = .ok (.invokevirtual 26, 3) := by decide +kernel
theorem dX6_init_105 : decode cX6_init 105 = .ok (.iload_n 2, 1) := by decide +kernel
theorem dX6_init_106 : decode cX6_init 106 = .ok (.iconst 1, 1) := by decide +kernel
theorem dX6_init_107 : decode cX6_init 107 = .ok (.iadd, 1) := by decide +kernel
theorem dX6_init_108 : decode cX6_init 108 = .ok (.istore_n 3, 1) := by decide +kernel
theorem dX6_init_109 : decode cX6_init 109 = .ok (.iload_n 3, 1) := by decide +kernel
theorem dX6_init_110 : decode cX6_init 110 = .ok (.bipush 23, 2) := by decide +kernel
theorem dX6_init_112 : decode cX6_init 112 = .ok (.if_icmp .ge 24, 3) := by decide +kernel
theorem dX6_init_115 : decode cX6_init 115 = .ok (.aload_n 0, 1) := by decide +kernel
theorem dX6_init_116 : decode cX6_init 116 = .ok (.iconst 1, 1) := by decide +kernel
theorem dX6_init_117 : decode cX6_init 117 = .ok (.iload_n 1, 1) := by decide +kernel
theorem dX6_init_118 : decode cX6_init 118 = .ok (.ishl, 1) := by decide +kernel
theorem dX6_init_119 : decode cX6_init 119 = .ok (.iconst 1, 1) := by decide +kernel
theorem dX6_init_120 : decode cX6_init 120 = .ok (.iload_n 2, 1) := by decide +kernel
theorem dX6_init_121 : decode cX6_init 121 = .ok (.ishl, 1) := by decide +kernel
theorem dX6_init_122 : decode cX6_init 122 = .ok (.ior, 1) := by decide +kernel
theorem dX6_init_123 : decode cX6_init 123 = .ok (.iconst 1, 1) := by decide +kernel
theorem dX6_init_124 : decode cX6_init 124 = .ok (.iload_n 3, 1) := by decide +kernel
theorem dX6_init_125 : decode cX6_init 125 = .ok (.ishl, 1) := by decide +kernel
theorem dX6_init_126 : decode cX6_init 126 = .ok (.ior, 1) := by decide +kernel
theorem dX6_init_127 : decode cX6_init 127 = .ok (.invokevirtual 26, 3) := by decide +kernel
theorem dX6_init_130 : decode cX6_init 130 = .ok (.iinc 3 1, 3) := by decide +kernel
theorem dX6_init_133 : decode cX6_init 133 = .ok (.goto (-24), 3) := by decide +kernel
theorem dX6_init_136 : decode cX6_init 136 = .ok (.iinc 2 1, 3) := by decide +kernel
theorem dX6_init_139 : decode cX6_init 139 = .ok (.goto (-51), 3) := by decide +kernel
theorem dX6_init_142 : decode cX6_init 142 = .ok (.iinc 1 1, 3) := by decide +kernel
theorem dX6_init_145 : decode cX6_init 145 = .ok (.goto (-74), 3) := by decide +kernel
theorem dX6_init_148 : decode cX6_init 148 = .ok (.return_, 1) := by decide +kernel
set_option maxRecDepth 20000 in
theorem ggX6_layErrors_X6_restOf : GoodIn wsX6_layErrors wsX6_restOf := goodIn_r _ [5] (by decide +kernel) (by decide +kernel)
set_option maxRecDepth 20000 in
theorem gX6_layErrors_X6_restOf : GoodIn wsX6_layErrors (va_wsS RX6 30 yX6_restOf wsX6_restOf) := goodIn_app (goodIn_of _ (by decide +kernel)) ggX6_layErrors_X6_restOf
theorem dX6_layErrors_0 : decode cX6_layErrors 0 = .ok (.aload_n 0, 1) := by decide +kernel
theorem dX6_layErrors_1 : decode cX6_layErrors 1 = .ok (.getfield 20, 3) := by decide +kernel
theorem dX6_layErrors_4 : decode cX6_layErrors 4 = .ok (.iload_n 1, 1) := by decide +kernel
theorem dX6_layErrors_5 : decode cX6_layErrors 5 = .ok (.invokestatic 30, 3) := by decide +kernel
theorem dX6_layErrors_8 : decode cX6_layErrors 8 = .ok (.iload_n 1, 1) := by decide +kernel
theorem dX6_layErrors_9 : decode cX6_layErrors 9 = .ok (.iastore, 1) := by decide +kernel
theorem dX6_layErrors_10 : decode cX6_layErrors 10 = .ok (.return_, 1) := by decide +kernel
theorem dX6_in_0 : decode cX6_in 0 = .ok (.iload_n 0, 1) := by decide +kernel
theorem dX6_in_1 : decode cX6_in 1 = .ok (.iload_n 1, 1) := by decide +kernel
theorem dX6_in_2 : decode cX6_in 2 = .ok (.if_icmp .lt 12, 3) := by decide +kernel
theorem dX6_in_5 : decode cX6_in 5 = .ok (.iload_n 0, 1) := by decide +kernel
theorem dX6_in_6 : decode cX6_in 6 = .ok (.iload_n 2, 1) := by decide +kernel
theorem dX6_in_7 : decode cX6_in 7 = .ok (.if_icmp .gt 7, 3) := by decide +kernel
theorem dX6_in_10 : decode cX6_in 10 = .ok (.iconst 1, 1) := by decide +kernel
theorem dX6_in_11 : decode cX6_in 11 = .ok (.goto 4, 3) := by decide +kernel
theorem dX6_in_14 : decode cX6_in 14 = .ok (.iconst 0, 1) := by decide +kernel
theorem dX6_in_15 : decode cX6_in 15 = .ok (.ireturn, 1) := by decide +kernel
set_option maxRecDepth 20000 in
theorem ggX6_isWord_X6_in : GoodIn wsX6_isWord wsX6_in := goodIn_r _ [5] (by decide +kernel) (by decide +kernel)
set_option maxRecDepth 20000 in
theorem gX6_isWord_X6_in : GoodIn wsX6_isWord (va_wsS RX6 35 yX6_in wsX6_in) := goodIn_app (goodIn_of _ (by decide +kernel)) ggX6_isWord_X6_in
theorem dX6_isWord_0 : decode cX6_isWord 0 = .ok (.iload_n 0, 1) := by decide +kernel
theorem dX6_isWord_1 : decode cX6_isWord 1 = .ok (.iconst 0, 1) := by decide +kernel
theorem dX6_isWord_2 : decode cX6_isWord 2 = .ok (.ldc 34, 2) := by decide +kernel
theorem dX6_isWord_4 : decode cX6_isWord 4 = .ok (.invokestatic 35, 3) := by decide +kernel
theorem dX6_isWord_7 : decode cX6_isWord 7 = .ok (.ireturn, 1) := by decide +kernel
set_option maxRecDepth 20000 in
theorem ggX6_isMessage_X6_in : GoodIn wsX6_isMessage wsX6_in := goodIn_r _ [4] (by decide +kernel) (by decide +kernel)
set_option maxRecDepth 20000 in
theorem gX6_isMessage_X6_in : GoodIn wsX6_isMessage (va_wsS RX6 35 yX6_in wsX6_in) := goodIn_app (goodIn_of _ (by decide +kernel)) ggX6_isMessage_X6_in
theorem dX6_isMessage_0 : decode cX6_isMessage 0 = .ok (.iload_n 0, 1) := by decide +kernel
theorem dX6_isMessage_1 : decode cX6_isMessage 1 = .ok (.iconst 0, 1) := by decide +kernel
theorem dX6_isMessage_2 : decode cX6_isMessage 2 = .ok (.sipush 4095, 3) := by decide +kernel
theorem dX6_isMessage_5 : decode cX6_isMessage 5 = .ok (.invokestatic 35, 3) := by decide +kernel
theorem dX6_isMessage_8 : decode cX6_isMessage 8 = .ok (.ireturn, 1) := by decide +kernel
theorem dX6_weight_0 : decode cX6_weight 0 = .ok (.iconst 0, 1) := by decide +kernel
theorem dX6_weight_1 : decode cX6_weight 1 = .ok (.istore_n 1, 1) := by decide +kernel
theorem dX6_weight_2 : decode cX6_weight 2 = .ok (.iconst 0, 1) := by decide +kernel
theorem dX6_weight_3 : decode cX6_weight 3 = .ok (.istore_n 2, 1) := by decide +kernel
theorem dX6_weight_4 : decode cX6_weight 4 = .ok (.iload_n 2, 1) := by decide +kernel
theorem dX6_weight_5 : decode cX6_weight 5 = .ok (.bipush 24, 2) := by decide +kernel
theorem dX6_weight_7 : decode cX6_weight 7 = .ok (.if_icmp .ge 17, 3) := by decide +kernel
theorem dX6_weight_10 : decode cX6_weight 10 = .ok (.iload_n 1, 1) := by decide +kernel
theorem dX6_weight_11 : decode cX6_weight 11 = .ok (.iload_n 0, 1) := by decide +kernel
theorem dX6_weight_12 : decode cX6_weight 12 = .ok (.iload_n 2, 1) := by decide +kernel
theorem dX6_weight_13 : decode cX6_weight 13 = .ok (.ishr, 1) := by decide +kernel
theorem dX6_weight_14 : decode cX6_weight 14 = .ok (.iconst 1, 1) := by decide +kernel
theorem dX6_weight_15 : decode cX6_weight 15 = .ok (.iand, 1) := by decide +kernel
theorem dX6_weight_16 : decode cX6_weight 16 = .ok (.iadd, 1) := by decide +kernel
theorem dX6_weight_17 : decode cX6_weight 17 = .ok (.istore_n 1, 1) := by decide +kernel
theorem dX6_weight_18 : decode cX6_weight 18 = .ok (.iinc 2 1, 3) := by decide +kernel
theorem dX6_weight_21 : decode cX6_weight 21 = .ok (.goto (-17), 3) := by decide +kernel
theorem dX6_weight_24 : decode cX6_weight 24 = .ok (.iload_n 1, 1) := by decide +kernel
theorem dX6_weight_25 : decode cX6_weight 25 = .ok (.ireturn, 1) := by decide +kernel
theorem dX6_restOf_0 : decode cX6_restOf 0 = .ok (.iload_n 0, 1) := by decide +kernel
theorem dX6_restOf_1 : decode cX6_restOf 1 = .ok (.istore_n 1, 1) := by decide +kernel
theorem dX6_restOf_2 : decode cX6_restOf 2 = .ok (.bipush 22, 2) := by decide +kernel
theorem dX6_restOf_4 : decode cX6_restOf 4 = .ok (.istore_n 2, 1) := by decide +kernel
theorem dX6_restOf_5 : decode cX6_restOf 5 = .ok (.iload_n 2, 1) := by decide +kernel
theorem dX6_restOf_6 : decode cX6_restOf 6 = .ok (.bipush 11, 2) := by decide +kernel
theorem dX6_restOf_8 : decode cX6_restOf 8 = .ok (.if_icmp .lt 33, 3) := by decide +kernel
theorem dX6_restOf_11 : decode cX6_restOf 11 = .ok (.iload_n 1, 1) := by decide +kernel
theorem dX6_restOf_12 : decode cX6_restOf 12 = .ok (.iload_n 1, 1) := by decide +kernel
theorem dX6_restOf_13 : decode cX6_restOf 13 = .ok (.iload_n 2, 1) := by decide +kernel
theorem dX6_restOf_14 : decode cX6_restOf 14 = .ok (.ishr, 1) := by decide +kernel
theorem dX6_restOf_15 : decode cX6_restOf 15 = .ok (.iconst 1, 1) := by decide +kernel
theorem dX6_restOf_16 : decode cX6_restOf 16 = .ok (.iand, 1) := by decide +kernel
theorem dX6_restOf_17 : decode cX6_restOf 17 = .ok (.iconst 1, 1) := by decide +kernel
theorem dX6_restOf_18 : decode cX6_restOf 18 = .ok (.if_icmp .ne 14, 3) := by decide +kernel
theorem dX6_restOf_21 : decode cX6_restOf 21 = .ok (.sipush 3189, 3) := by decide +kernel
theorem dX6_restOf_24 : decode cX6_restOf 24 = .ok (.iload_n 2, 1) := by decide +kernel
theorem dX6_restOf_25 : decode cX6_restOf 25 = .ok (.bipush 11, 2) := by decide +kernel
theorem dX6_restOf_27 : decode cX6_restOf 27 = .ok (.isub, 1) := by decide +kernel
theorem dX6_restOf_28 : decode cX6_restOf 28 = .ok (.ishl, 1) := by decide +kernel
theorem dX6_restOf_29 : decode cX6_restOf 29 = .ok (.goto 4, 3) := by decide +kernel
theorem dX6_restOf_32 : decode cX6_restOf 32 = .ok (.iconst 0, 1) := by decide +kernel
theorem dX6_restOf_33 : decode cX6_restOf 33 = .ok (.ixor, 1) := by decide +kernel
theorem dX6_restOf_34 : decode cX6_restOf 34 = .ok (.istore_n 1, 1) := by decide +kernel
theorem dX6_restOf_35 : decode cX6_restOf 35 = .ok (.iinc 2 (-1), 3) := by decide +kernel
theorem dX6_restOf_38 : decode cX6_restOf 38 = .ok (.goto (-33), 3) := by decide +kernel
theorem dX6_restOf_41 : decode cX6_restOf 41 = .ok (.iload_n 1, 1) := by decide +kernel
theorem dX6_restOf_42 : decode cX6_restOf 42 = .ok (.ireturn, 1) := by decide +kernel
set_option maxRecDepth 20000 in
theorem ggX6_madeOf_X6_restOf : GoodIn wsX6_madeOf wsX6_restOf := goodIn_r _ [4] (by decide +kernel) (by decide +kernel)
set_option maxRecDepth 20000 in
theorem gX6_madeOf_X6_restOf : GoodIn wsX6_madeOf (va_wsS RX6 30 yX6_restOf wsX6_restOf) := goodIn_app (goodIn_of _ (by decide +kernel)) ggX6_madeOf_X6_restOf
theorem dX6_madeOf_0 : decode cX6_madeOf 0 = .ok (.iload_n 0, 1) := by decide +kernel
theorem dX6_madeOf_1 : decode cX6_madeOf 1 = .ok (.bipush 11, 2) := by decide +kernel
theorem dX6_madeOf_3 : decode cX6_madeOf 3 = .ok (.ishl, 1) := by decide +kernel
theorem dX6_madeOf_4 : decode cX6_madeOf 4 = .ok (.istore_n 1, 1) := by decide +kernel
theorem dX6_madeOf_5 : decode cX6_madeOf 5 = .ok (.iload_n 1, 1) := by decide +kernel
theorem dX6_madeOf_6 : decode cX6_madeOf 6 = .ok (.iload_n 1, 1) := by decide +kernel
theorem dX6_madeOf_7 : decode cX6_madeOf 7 = .ok (.invokestatic 30, 3) := by decide +kernel
theorem dX6_madeOf_10 : decode cX6_madeOf 10 = .ok (.iadd, 1) := by decide +kernel
theorem dX6_madeOf_11 : decode cX6_madeOf 11 = .ok (.ireturn, 1) := by decide +kernel
set_option maxRecDepth 20000 in
theorem ggX6_nearest_X6_restOf : GoodIn wsX6_nearest wsX6_restOf := goodIn_r _ [5] (by decide +kernel) (by decide +kernel)
set_option maxRecDepth 20000 in
theorem gX6_nearest_X6_restOf : GoodIn wsX6_nearest (va_wsS RX6 30 yX6_restOf wsX6_restOf) := goodIn_app (goodIn_of _ (by decide +kernel)) ggX6_nearest_X6_restOf
theorem dX6_nearest_0 : decode cX6_nearest 0 = .ok (.iload_n 1, 1) := by decide +kernel
theorem dX6_nearest_1 : decode cX6_nearest 1 = .ok (.aload_n 0, 1) := by decide +kernel
theorem dX6_nearest_2 : decode cX6_nearest 2 = .ok (.getfield 20, 3) := by decide +kernel
theorem dX6_nearest_5 : decode cX6_nearest 5 = .ok (.iload_n 1, 1) := by decide +kernel
theorem dX6_nearest_6 : decode cX6_nearest 6 = .ok (.invokestatic 30, 3) := by decide +kernel
theorem dX6_nearest_9 : decode cX6_nearest 9 = .ok (.iaload, 1) := by decide +kernel
theorem dX6_nearest_10 : decode cX6_nearest 10 = .ok (.ixor, 1) := by decide +kernel
theorem dX6_nearest_11 : decode cX6_nearest 11 = .ok (.ireturn, 1) := by decide +kernel
set_option maxRecDepth 20000 in
theorem ggX6_made_X6_isMessage : GoodIn wsX6_made wsX6_isMessage := goodIn_r _ [4, 5, 6, 3, 7] (by decide +kernel) (by decide +kernel)
set_option maxRecDepth 20000 in
theorem gX6_made_X6_isMessage : GoodIn wsX6_made (va_wsS RX6 39 yX6_isMessage wsX6_isMessage) := goodIn_app (goodIn_of _ (by decide +kernel)) ggX6_made_X6_isMessage
set_option maxRecDepth 20000 in
theorem ggX6_made_X6_madeOf : GoodIn wsX6_made wsX6_madeOf := goodIn_r _ [10, 11, 12, 3, 13] (by decide +kernel) (by decide +kernel)
set_option maxRecDepth 20000 in
theorem gX6_made_X6_madeOf : GoodIn wsX6_made (va_wsS RX6 43 yX6_madeOf wsX6_madeOf) := goodIn_app (goodIn_of _ (by decide +kernel)) ggX6_made_X6_madeOf
theorem dX6_made_0 : decode cX6_made 0 = .ok (.iload_n 1, 1) := by decide +kernel
theorem dX6_made_1 : decode cX6_made 1 = .ok (.invokestatic 39, 3) := by decide +kernel
theorem dX6_made_4 : decode cX6_made 4 = .ok (.ifCond .eq 10, 3) := by decide +kernel
theorem dX6_made_7 : decode cX6_made 7 = .ok (.iload_n 1, 1) := by decide +kernel
theorem dX6_made_8 : decode cX6_made 8 = .ok (.invokestatic 43, 3) := by decide +kernel
theorem dX6_made_11 : decode cX6_made 11 = .ok (.goto 5, 3) := by decide +kernel
theorem dX6_made_14 : decode cX6_made 14 = .ok (.bipush (-2), 2) := by decide +kernel
theorem dX6_made_16 : decode cX6_made 16 = .ok (.ireturn, 1) := by decide +kernel
set_option maxRecDepth 20000 in
theorem ggX6_rest_X6_isWord : GoodIn wsX6_rest wsX6_isWord := goodIn_r _ [4, 5, 6, 7, 3, 8] (by decide +kernel) (by decide +kernel)
set_option maxRecDepth 20000 in
theorem gX6_rest_X6_isWord : GoodIn wsX6_rest (va_wsS RX6 46 yX6_isWord wsX6_isWord) := goodIn_app (goodIn_of _ (by decide +kernel)) ggX6_rest_X6_isWord
set_option maxRecDepth 20000 in
theorem ggX6_rest_X6_restOf : GoodIn wsX6_rest wsX6_restOf := goodIn_r _ [11] (by decide +kernel) (by decide +kernel)
set_option maxRecDepth 20000 in
theorem gX6_rest_X6_restOf : GoodIn wsX6_rest (va_wsS RX6 30 yX6_restOf wsX6_restOf) := goodIn_app (goodIn_of _ (by decide +kernel)) ggX6_rest_X6_restOf
theorem dX6_rest_0 : decode cX6_rest 0 = .ok (.iload_n 1, 1) := by decide +kernel
theorem dX6_rest_1 : decode cX6_rest 1 = .ok (.invokestatic 46, 3) := by decide +kernel
theorem dX6_rest_4 : decode cX6_rest 4 = .ok (.ifCond .eq 10, 3) := by decide +kernel
theorem dX6_rest_7 : decode cX6_rest 7 = .ok (.iload_n 1, 1) := by decide +kernel
theorem dX6_rest_8 : decode cX6_rest 8 = .ok (.invokestatic 30, 3) := by decide +kernel
theorem dX6_rest_11 : decode cX6_rest 11 = .ok (.goto 5, 3) := by decide +kernel
theorem dX6_rest_14 : decode cX6_rest 14 = .ok (.bipush (-2), 2) := by decide +kernel
theorem dX6_rest_16 : decode cX6_rest 16 = .ok (.ireturn, 1) := by decide +kernel
set_option maxRecDepth 20000 in
theorem ggX6_of_X6_isWord : GoodIn wsX6_of wsX6_isWord := goodIn_r _ [5, 6, 7, 8, 4, 9] (by decide +kernel) (by decide +kernel)
set_option maxRecDepth 20000 in
theorem gX6_of_X6_isWord : GoodIn wsX6_of (va_wsS RX6 46 yX6_isWord wsX6_isWord) := goodIn_app (goodIn_of _ (by decide +kernel)) ggX6_of_X6_isWord
set_option maxRecDepth 20000 in
theorem ggX6_of_X6_weight : GoodIn wsX6_of wsX6_weight := goodIn_r _ [12] (by decide +kernel) (by decide +kernel)
set_option maxRecDepth 20000 in
theorem gX6_of_X6_weight : GoodIn wsX6_of (va_wsS RX6 49 yX6_weight wsX6_weight) := goodIn_app (goodIn_of _ (by decide +kernel)) ggX6_of_X6_weight
set_option maxRecDepth 20000 in
theorem ggX6_of_X6_nearest : GoodIn wsX6_of wsX6_nearest := goodIn_r _ [16, 1, 17, 18, 4, 19, 20, 21, 22, 23, 24, 25, 26] (by decide +kernel) (by decide +kernel)
set_option maxRecDepth 20000 in
theorem gX6_of_X6_nearest : GoodIn wsX6_of (wsV RX6 52 RX6 yX6_nearest wsX6_nearest) := goodIn_app (goodIn_of _ (by decide +kernel)) ggX6_of_X6_nearest
set_option maxRecDepth 20000 in
theorem ggX6_of_X6_restOf : GoodIn wsX6_of wsX6_restOf := goodIn_r _ [19] (by decide +kernel) (by decide +kernel)
set_option maxRecDepth 20000 in
theorem gX6_of_X6_restOf : GoodIn wsX6_of (va_wsS RX6 30 yX6_restOf wsX6_restOf) := goodIn_app (goodIn_of _ (by decide +kernel)) ggX6_of_X6_restOf
theorem dX6_of_0 : decode cX6_of 0 = .ok (.iload_n 1, 1) := by decide +kernel
theorem dX6_of_1 : decode cX6_of 1 = .ok (.invokestatic 46, 3) := by decide +kernel
theorem dX6_of_4 : decode cX6_of 4 = .ok (.ifCond .ne 6, 3) := by decide +kernel
theorem dX6_of_7 : decode cX6_of 7 = .ok (.bipush (-2), 2) := by decide +kernel
theorem dX6_of_9 : decode cX6_of 9 = .ok (.ireturn, 1) := by decide +kernel
theorem dX6_of_10 : decode cX6_of 10 = .ok (.iload_n 2, 1) := by decide +kernel
theorem dX6_of_11 : decode cX6_of 11 = .ok (.tableswitch 62 0 3 #[29, 34, 40, 53], 29) := by decide +kernel
theorem dX6_of_40 : decode cX6_of 40 = .ok (.iload_n 1, 1) := by decide +kernel
theorem dX6_of_41 : decode cX6_of 41 = .ok (.invokestatic 49, 3) := by decide +kernel
theorem dX6_of_44 : decode cX6_of 44 = .ok (.ireturn, 1) := by decide +kernel
theorem dX6_of_45 : decode cX6_of 45 = .ok (.aload_n 0, 1) := by decide +kernel
theorem dX6_of_46 : decode cX6_of 46 = .ok (.iload_n 1, 1) := by decide +kernel
theorem dX6_of_47 : decode cX6_of 47 = .ok (.invokevirtual 52, 3) := by decide +kernel
theorem dX6_of_50 : decode cX6_of 50 = .ok (.ireturn, 1) := by decide +kernel
theorem dX6_of_51 : decode cX6_of 51 = .ok (.aload_n 0, 1) := by decide +kernel
theorem dX6_of_52 : decode cX6_of 52 = .ok (.getfield 20, 3) := by decide +kernel
theorem dX6_of_55 : decode cX6_of 55 = .ok (.iload_n 1, 1) := by decide +kernel
theorem dX6_of_56 : decode cX6_of 56 = .ok (.invokestatic 30, 3) := by decide +kernel
theorem dX6_of_59 : decode cX6_of 59 = .ok (.iaload, 1) := by decide +kernel
theorem dX6_of_60 : decode cX6_of 60 = .ok (.invokestatic 49, 3) := by decide +kernel
theorem dX6_of_63 : decode cX6_of 63 = .ok (.ireturn, 1) := by decide +kernel
theorem dX6_of_64 : decode cX6_of 64 = .ok (.aload_n 0, 1) := by decide +kernel
theorem dX6_of_65 : decode cX6_of 65 = .ok (.iload_n 1, 1) := by decide +kernel
theorem dX6_of_66 : decode cX6_of 66 = .ok (.invokevirtual 52, 3) := by decide +kernel
theorem dX6_of_69 : decode cX6_of 69 = .ok (.bipush 11, 2) := by decide +kernel
theorem dX6_of_71 : decode cX6_of 71 = .ok (.ishr, 1) := by decide +kernel
theorem dX6_of_72 : decode cX6_of 72 = .ok (.ireturn, 1) := by decide +kernel
theorem dX6_of_73 : decode cX6_of 73 = .ok (.bipush (-2), 2) := by decide +kernel
theorem dX6_of_75 : decode cX6_of 75 = .ok (.ireturn, 1) := by decide +kernel
set_option maxRecDepth 20000 in
theorem ggX6_around_X6_isWord : GoodIn wsX6_around wsX6_isWord := goodIn_r _ [4, 5, 6, 7, 3, 8] (by decide +kernel) (by decide +kernel)
set_option maxRecDepth 20000 in
theorem gX6_around_X6_isWord : GoodIn wsX6_around (va_wsS RX6 46 yX6_isWord wsX6_isWord) := goodIn_app (goodIn_of _ (by decide +kernel)) ggX6_around_X6_isWord
set_option maxRecDepth 20000 in
theorem ggX6_around_X6_in : GoodIn wsX6_around wsX6_in := goodIn_r _ [8] (by decide +kernel) (by decide +kernel)
set_option maxRecDepth 20000 in
theorem gX6_around_X6_in : GoodIn wsX6_around (va_wsS RX6 35 yX6_in wsX6_in) := goodIn_app (goodIn_of _ (by decide +kernel)) ggX6_around_X6_in
set_option maxRecDepth 20000 in
theorem ggX6_around_X6_madeOf : GoodIn wsX6_around wsX6_madeOf := goodIn_r _ [11, 12, 13, 3, 14] (by decide +kernel) (by decide +kernel)
set_option maxRecDepth 20000 in
theorem gX6_around_X6_madeOf : GoodIn wsX6_around (va_wsS RX6 43 yX6_madeOf wsX6_madeOf) := goodIn_app (goodIn_of _ (by decide +kernel)) ggX6_around_X6_madeOf
set_option maxRecDepth 20000 in
theorem ggX6_around_X6_weight : GoodIn wsX6_around wsX6_weight := goodIn_r _ [17] (by decide +kernel) (by decide +kernel)
set_option maxRecDepth 20000 in
theorem gX6_around_X6_weight : GoodIn wsX6_around (va_wsS RX6 49 yX6_weight wsX6_weight) := goodIn_app (goodIn_of _ (by decide +kernel)) ggX6_around_X6_weight
theorem dX6_around_0 : decode cX6_around 0 = .ok (.iload_n 1, 1) := by decide +kernel
theorem dX6_around_1 : decode cX6_around 1 = .ok (.invokestatic 46, 3) := by decide +kernel
theorem dX6_around_4 : decode cX6_around 4 = .ok (.ifCond .eq 13, 3) := by decide +kernel
theorem dX6_around_7 : decode cX6_around 7 = .ok (.iload_n 2, 1) := by decide +kernel
end
section
theorem dX6_around_8 : decode cX6_around 8 = .ok (.iconst 0, 1) := by decide +kernel
theorem dX6_around_9 : decode cX6_around 9 = .ok (.bipush 23, 2) := by decide +kernel
theorem dX6_around_11 : decode cX6_around 11 = .ok (.invokestatic 35, 3) := by decide +kernel
theorem dX6_around_14 : decode cX6_around 14 = .ok (.ifCond .ne 6, 3) := by decide +kernel
theorem dX6_around_17 : decode cX6_around 17 = .ok (.bipush (-2), 2) := by decide +kernel
theorem dX6_around_19 : decode cX6_around 19 = .ok (.ireturn, 1) := by decide +kernel
theorem dX6_around_20 : decode cX6_around 20 = .ok (.iconst 0, 1) := by decide +kernel
theorem dX6_around_21 : decode cX6_around 21 = .ok (.istore_n 3, 1) := by decide +kernel
theorem dX6_around_22 : decode cX6_around 22 = .ok (.iconst 0, 1) := by decide +kernel
theorem dX6_around_23 : decode cX6_around 23 = .ok (.istore 4, 2) := by decide +kernel
theorem dX6_around_25 : decode cX6_around 25 = .ok (.iload 4, 2) := by decide +kernel
theorem dX6_around_27 : decode cX6_around 27 = .ok (.sipush 4096, 3) := by decide +kernel
theorem dX6_around_30 : decode cX6_around 30 = .ok (.if_icmp .ge 31, 3) := by decide +kernel
theorem dX6_around_33 : decode cX6_around 33 = .ok (.iload_n 3, 1) := by decide +kernel
theorem dX6_around_34 : decode cX6_around 34 = .ok (.iload 4, 2) := by decide +kernel
theorem dX6_around_36 : decode cX6_around 36 = .ok (.invokestatic 43, 3) := by decide +kernel
theorem dX6_around_39 : decode cX6_around 39 = .ok (.iload_n 1, 1) := by decide +kernel
theorem dX6_around_40 : decode cX6_around 40 = .ok (.ixor, 1) := by decide +kernel
theorem dX6_around_41 : decode cX6_around 41 = .ok (.invokestatic 49, 3) := by decide +kernel
theorem dX6_around_44 : decode cX6_around 44 = .ok (.iload_n 2, 1) := by decide +kernel
theorem dX6_around_45 : decode cX6_around 45 = .ok (.if_icmp .ne 7, 3) := by decide +kernel
theorem dX6_around_48 : decode cX6_around 48 = .ok (.iconst 1, 1) := by decide +kernel
theorem dX6_around_49 : decode cX6_around 49 = .ok (.goto 4, 3) := by decide +kernel
theorem dX6_around_52 : decode cX6_around 52 = .ok (.iconst 0, 1) := by decide +kernel
theorem dX6_around_53 : decode cX6_around 53 = .ok (.iadd, 1) := by decide +kernel
theorem dX6_around_54 : decode cX6_around 54 = .ok (.istore_n 3, 1) := by decide +kernel
theorem dX6_around_55 : decode cX6_around 55 = .ok (.iinc 4 1, 3) := by decide +kernel
theorem dX6_around_58 : decode cX6_around 58 = .ok (.goto (-33), 3) := by decide +kernel
theorem dX6_around_61 : decode cX6_around 61 = .ok (.iload_n 3, 1) := by decide +kernel
theorem dX6_around_62 : decode cX6_around 62 = .ok (.ireturn, 1) := by decide +kernel
theorem dX6_turn_0 : decode cX6_turn 0 = .ok (.iconst 0, 1) := by decide +kernel
theorem dX6_turn_1 : decode cX6_turn 1 = .ok (.istore_n 2, 1) := by decide +kernel
theorem dX6_turn_2 : decode cX6_turn 2 = .ok (.iconst 0, 1) := by decide +kernel
theorem dX6_turn_3 : decode cX6_turn 3 = .ok (.istore_n 3, 1) := by decide +kernel
theorem dX6_turn_4 : decode cX6_turn 4 = .ok (.iload_n 3, 1) := by decide +kernel
theorem dX6_turn_5 : decode cX6_turn 5 = .ok (.bipush 23, 2) := by decide +kernel
theorem dX6_turn_7 : decode cX6_turn 7 = .ok (.if_icmp .ge 24, 3) := by decide +kernel
theorem dX6_turn_10 : decode cX6_turn 10 = .ok (.iload_n 2, 1) := by decide +kernel
theorem dX6_turn_11 : decode cX6_turn 11 = .ok (.iload_n 0, 1) := by decide +kernel
theorem dX6_turn_12 : decode cX6_turn 12 = .ok (.iload_n 3, 1) := by decide +kernel
theorem dX6_turn_13 : decode cX6_turn 13 = .ok (.ishr, 1) := by decide +kernel
theorem dX6_turn_14 : decode cX6_turn 14 = .ok (.iconst 1, 1) := by decide +kernel
theorem dX6_turn_15 : decode cX6_turn 15 = .ok (.iand, 1) := by decide +kernel
theorem dX6_turn_16 : decode cX6_turn 16 = .ok (.iload_n 3, 1) := by decide +kernel
theorem dX6_turn_17 : decode cX6_turn 17 = .ok (.iload_n 1, 1) := by decide +kernel
theorem dX6_turn_18 : decode cX6_turn 18 = .ok (.iadd, 1) := by decide +kernel
theorem dX6_turn_19 : decode cX6_turn 19 = .ok (.bipush 23, 2) := by decide +kernel
theorem dX6_turn_21 : decode cX6_turn 21 = .ok (.irem, 1) := by decide +kernel
theorem dX6_turn_22 : decode cX6_turn 22 = .ok (.ishl, 1) := by decide +kernel
theorem dX6_turn_23 : decode cX6_turn 23 = .ok (.ior, 1) := by decide +kernel
theorem dX6_turn_24 : decode cX6_turn 24 = .ok (.istore_n 2, 1) := by decide +kernel
theorem dX6_turn_25 : decode cX6_turn 25 = .ok (.iinc 3 1, 3) := by decide +kernel
theorem dX6_turn_28 : decode cX6_turn 28 = .ok (.goto (-24), 3) := by decide +kernel
theorem dX6_turn_31 : decode cX6_turn 31 = .ok (.iload_n 2, 1) := by decide +kernel
theorem dX6_turn_32 : decode cX6_turn 32 = .ok (.ireturn, 1) := by decide +kernel
set_option maxRecDepth 20000 in
theorem ggX6_turned_X6_isWord : GoodIn wsX6_turned wsX6_isWord := goodIn_r _ [4, 5, 6, 7, 3, 8] (by decide +kernel) (by decide +kernel)
set_option maxRecDepth 20000 in
theorem gX6_turned_X6_isWord : GoodIn wsX6_turned (va_wsS RX6 46 yX6_isWord wsX6_isWord) := goodIn_app (goodIn_of _ (by decide +kernel)) ggX6_turned_X6_isWord
set_option maxRecDepth 20000 in
theorem ggX6_turned_X6_in : GoodIn wsX6_turned wsX6_in := goodIn_r _ [8] (by decide +kernel) (by decide +kernel)
set_option maxRecDepth 20000 in
theorem gX6_turned_X6_in : GoodIn wsX6_turned (va_wsS RX6 35 yX6_in wsX6_in) := goodIn_app (goodIn_of _ (by decide +kernel)) ggX6_turned_X6_in
set_option maxRecDepth 20000 in
theorem ggX6_turned_X6_turn : GoodIn wsX6_turned wsX6_turn := goodIn_r _ [11] (by decide +kernel) (by decide +kernel)
set_option maxRecDepth 20000 in
theorem gX6_turned_X6_turn : GoodIn wsX6_turned (va_wsS RX6 55 yX6_turn wsX6_turn) := goodIn_app (goodIn_of _ (by decide +kernel)) ggX6_turned_X6_turn
theorem dX6_turned_0 : decode cX6_turned 0 = .ok (.iload_n 1, 1) := by decide +kernel
theorem dX6_turned_1 : decode cX6_turned 1 = .ok (.invokestatic 46, 3) := by decide +kernel
theorem dX6_turned_4 : decode cX6_turned 4 = .ok (.ifCond .eq 21, 3) := by decide +kernel
theorem dX6_turned_7 : decode cX6_turned 7 = .ok (.iload_n 2, 1) := by decide +kernel
theorem dX6_turned_8 : decode cX6_turned 8 = .ok (.iconst 0, 1) := by decide +kernel
theorem dX6_turned_9 : decode cX6_turned 9 = .ok (.bipush 22, 2) := by decide +kernel
theorem dX6_turned_11 : decode cX6_turned 11 = .ok (.invokestatic 35, 3) := by decide +kernel
theorem dX6_turned_14 : decode cX6_turned 14 = .ok (.ifCond .eq 11, 3) := by decide +kernel
theorem dX6_turned_17 : decode cX6_turned 17 = .ok (.iload_n 1, 1) := by decide +kernel
theorem dX6_turned_18 : decode cX6_turned 18 = .ok (.iload_n 2, 1) := by decide +kernel
theorem dX6_turned_19 : decode cX6_turned 19 = .ok (.invokestatic 55, 3) := by decide +kernel
theorem dX6_turned_22 : decode cX6_turned 22 = .ok (.goto 5, 3) := by decide +kernel
theorem dX6_turned_25 : decode cX6_turned 25 = .ok (.bipush (-2), 2) := by decide +kernel
theorem dX6_turned_27 : decode cX6_turned 27 = .ok (.ireturn, 1) := by decide +kernel
set_option maxRecDepth 20000 in
theorem ggX6_caught_X6_restOf : GoodIn wsX6_caught wsX6_restOf := goodIn_r _ [4] (by decide +kernel) (by decide +kernel)
set_option maxRecDepth 20000 in
theorem gX6_caught_X6_restOf : GoodIn wsX6_caught (va_wsS RX6 30 yX6_restOf wsX6_restOf) := goodIn_app (goodIn_of _ (by decide +kernel)) ggX6_caught_X6_restOf
set_option maxRecDepth 20000 in
theorem ggX6_caught_X6_weight : GoodIn wsX6_caught wsX6_weight := goodIn_r _ [7] (by decide +kernel) (by decide +kernel)
set_option maxRecDepth 20000 in
theorem gX6_caught_X6_weight : GoodIn wsX6_caught (va_wsS RX6 49 yX6_weight wsX6_weight) := goodIn_app (goodIn_of _ (by decide +kernel)) ggX6_caught_X6_weight
theorem dX6_caught_0 : decode cX6_caught 0 = .ok (.iload_n 1, 1) := by decide +kernel
theorem dX6_caught_1 : decode cX6_caught 1 = .ok (.ifCond .ne 7, 3) := by decide +kernel
theorem dX6_caught_4 : decode cX6_caught 4 = .ok (.iconst 0, 1) := by decide +kernel
theorem dX6_caught_5 : decode cX6_caught 5 = .ok (.goto 9, 3) := by decide +kernel
theorem dX6_caught_8 : decode cX6_caught 8 = .ok (.iconst 1, 1) := by decide +kernel
theorem dX6_caught_9 : decode cX6_caught 9 = .ok (.bipush 15, 2) := by decide +kernel
theorem dX6_caught_11 : decode cX6_caught 11 = .ok (.iload_n 1, 1) := by decide +kernel
theorem dX6_caught_12 : decode cX6_caught 12 = .ok (.iadd, 1) := by decide +kernel
theorem dX6_caught_13 : decode cX6_caught 13 = .ok (.ishl, 1) := by decide +kernel
theorem dX6_caught_14 : decode cX6_caught 14 = .ok (.istore_n 2, 1) := by decide +kernel
theorem dX6_caught_15 : decode cX6_caught 15 = .ok (.iload_n 0, 1) := by decide +kernel
theorem dX6_caught_16 : decode cX6_caught 16 = .ok (.iload_n 2, 1) := by decide +kernel
theorem dX6_caught_17 : decode cX6_caught 17 = .ok (.ixor, 1) := by decide +kernel
theorem dX6_caught_18 : decode cX6_caught 18 = .ok (.invokestatic 30, 3) := by decide +kernel
theorem dX6_caught_21 : decode cX6_caught 21 = .ok (.istore_n 3, 1) := by decide +kernel
theorem dX6_caught_22 : decode cX6_caught 22 = .ok (.iload_n 3, 1) := by decide +kernel
theorem dX6_caught_23 : decode cX6_caught 23 = .ok (.invokestatic 49, 3) := by decide +kernel
theorem dX6_caught_26 : decode cX6_caught 26 = .ok (.iload_n 1, 1) := by decide +kernel
theorem dX6_caught_27 : decode cX6_caught 27 = .ok (.ifCond .ne 7, 3) := by decide +kernel
theorem dX6_caught_30 : decode cX6_caught 30 = .ok (.iconst 3, 1) := by decide +kernel
theorem dX6_caught_31 : decode cX6_caught 31 = .ok (.goto 4, 3) := by decide +kernel
theorem dX6_caught_34 : decode cX6_caught 34 = .ok (.iconst 2, 1) := by decide +kernel
theorem dX6_caught_35 : decode cX6_caught 35 = .ok (.if_icmp .gt 9, 3) := by decide +kernel
theorem dX6_caught_38 : decode cX6_caught 38 = .ok (.iload_n 3, 1) := by decide +kernel
theorem dX6_caught_39 : decode cX6_caught 39 = .ok (.iload_n 2, 1) := by decide +kernel
theorem dX6_caught_40 : decode cX6_caught 40 = .ok (.ior, 1) := by decide +kernel
theorem dX6_caught_41 : decode cX6_caught 41 = .ok (.goto 5, 3) := by decide +kernel
theorem dX6_caught_44 : decode cX6_caught 44 = .ok (.bipush (-6), 2) := by decide +kernel
theorem dX6_caught_46 : decode cX6_caught 46 = .ok (.ireturn, 1) := by decide +kernel
set_option maxRecDepth 20000 in
theorem ggX6_trapped_X6_isWord : GoodIn wsX6_trapped wsX6_isWord := goodIn_r _ [4, 5, 6, 7, 3, 8] (by decide +kernel) (by decide +kernel)
set_option maxRecDepth 20000 in
theorem gX6_trapped_X6_isWord : GoodIn wsX6_trapped (va_wsS RX6 46 yX6_isWord wsX6_isWord) := goodIn_app (goodIn_of _ (by decide +kernel)) ggX6_trapped_X6_isWord
set_option maxRecDepth 20000 in
theorem ggX6_trapped_X6_in : GoodIn wsX6_trapped wsX6_in := goodIn_r _ [8] (by decide +kernel) (by decide +kernel)
set_option maxRecDepth 20000 in
theorem gX6_trapped_X6_in : GoodIn wsX6_trapped (va_wsS RX6 35 yX6_in wsX6_in) := goodIn_app (goodIn_of _ (by decide +kernel)) ggX6_trapped_X6_in
set_option maxRecDepth 20000 in
theorem ggX6_trapped_X6_turn : GoodIn wsX6_trapped wsX6_turn := goodIn_r _ [11] (by decide +kernel) (by decide +kernel)
set_option maxRecDepth 20000 in
theorem gX6_trapped_X6_turn : GoodIn wsX6_trapped (va_wsS RX6 55 yX6_turn wsX6_turn) := goodIn_app (goodIn_of _ (by decide +kernel)) ggX6_trapped_X6_turn
set_option maxRecDepth 20000 in
theorem ggX6_trapped_X6_caught : GoodIn wsX6_trapped wsX6_caught := goodIn_r _ [14, 15, 16, 3, 17, 18, 19, 20] (by decide +kernel) (by decide +kernel)
set_option maxRecDepth 20000 in
theorem gX6_trapped_X6_caught : GoodIn wsX6_trapped (va_wsS RX6 59 yX6_caught wsX6_caught) := goodIn_app (goodIn_of _ (by decide +kernel)) ggX6_trapped_X6_caught
theorem dX6_trapped_0 : decode cX6_trapped 0 = .ok (.iload_n 1, 1) := by decide +kernel
theorem dX6_trapped_1 : decode cX6_trapped 1 = .ok (.invokestatic 46, 3) := by decide +kernel
theorem dX6_trapped_4 : decode cX6_trapped 4 = .ok (.ifCond .eq 12, 3) := by decide +kernel
theorem dX6_trapped_7 : decode cX6_trapped 7 = .ok (.iload_n 2, 1) := by decide +kernel
theorem dX6_trapped_8 : decode cX6_trapped 8 = .ok (.iconst 0, 1) := by decide +kernel
theorem dX6_trapped_9 : decode cX6_trapped 9 = .ok (.iconst 2, 1) := by decide +kernel
theorem dX6_trapped_10 : decode cX6_trapped 10 = .ok (.invokestatic 35, 3) := by decide +kernel
theorem dX6_trapped_13 : decode cX6_trapped 13 = .ok (.ifCond .ne 6, 3) := by decide +kernel
theorem dX6_trapped_16 : decode cX6_trapped 16 = .ok (.bipush (-2), 2) := by decide +kernel
theorem dX6_trapped_18 : decode cX6_trapped 18 = .ok (.ireturn, 1) := by decide +kernel
theorem dX6_trapped_19 : decode cX6_trapped 19 = .ok (.iconst 0, 1) := by decide +kernel
theorem dX6_trapped_20 : decode cX6_trapped 20 = .ok (.istore_n 3, 1) := by decide +kernel
theorem dX6_trapped_21 : decode cX6_trapped 21 = .ok (.iload_n 3, 1) := by decide +kernel
theorem dX6_trapped_22 : decode cX6_trapped 22 = .ok (.bipush 23, 2) := by decide +kernel
theorem dX6_trapped_24 : decode cX6_trapped 24 = .ok (.if_icmp .ge 69, 3) := by decide +kernel
theorem dX6_trapped_27 : decode cX6_trapped 27 = .ok (.iconst 0, 1) := by decide +kernel
theorem dX6_trapped_28 : decode cX6_trapped 28 = .ok (.istore 4, 2) := by decide +kernel
theorem dX6_trapped_30 : decode cX6_trapped 30 = .ok (.iload 4, 2) := by decide +kernel
theorem dX6_trapped_32 : decode cX6_trapped 32 = .ok (.iconst 3, 1) := by decide +kernel
theorem dX6_trapped_33 : decode cX6_trapped 33 = .ok (.if_icmp .ge 54, 3) := by decide +kernel
theorem dX6_trapped_36 : decode cX6_trapped 36 = .ok (.iload_n 1, 1) := by decide +kernel
theorem dX6_trapped_37 : decode cX6_trapped 37 = .ok (.iload_n 3, 1) := by decide +kernel
theorem dX6_trapped_38 : decode cX6_trapped 38 = .ok (.invokestatic 55, 3) := by decide +kernel
theorem dX6_trapped_41 : decode cX6_trapped 41 = .ok (.iload 4, 2) := by decide +kernel
theorem dX6_trapped_43 : decode cX6_trapped 43 = .ok (.invokestatic 59, 3) := by decide +kernel
theorem dX6_trapped_46 : decode cX6_trapped 46 = .ok (.istore 5, 2) := by decide +kernel
theorem dX6_trapped_48 : decode cX6_trapped 48 = .ok (.iload 5, 2) := by decide +kernel
theorem dX6_trapped_50 : decode cX6_trapped 50 = .ok (.ifCond .lt 31, 3) := by decide +kernel
theorem dX6_trapped_53 : decode cX6_trapped 53 = .ok (.iload_n 2, 1) := by decide +kernel
theorem dX6_trapped_54 : decode cX6_trapped 54 = .ok (.ifCond .ne 7, 3) := by decide +kernel
theorem dX6_trapped_57 : decode cX6_trapped 57 = .ok (.iload_n 3, 1) := by decide +kernel
theorem dX6_trapped_58 : decode cX6_trapped 58 = .ok (.goto 22, 3) := by decide +kernel
theorem dX6_trapped_61 : decode cX6_trapped 61 = .ok (.iload_n 2, 1) := by decide +kernel
theorem dX6_trapped_62 : decode cX6_trapped 62 = .ok (.iconst 1, 1) := by decide +kernel
theorem dX6_trapped_63 : decode cX6_trapped 63 = .ok (.if_icmp .ne 8, 3) := by decide +kernel
theorem dX6_trapped_66 : decode cX6_trapped 66 = .ok (.iload 4, 2) := by decide +kernel
theorem dX6_trapped_68 : decode cX6_trapped 68 = .ok (.goto 12, 3) := by decide +kernel
theorem dX6_trapped_71 : decode cX6_trapped 71 = .ok (.iload 5, 2) := by decide +kernel
theorem dX6_trapped_73 : decode cX6_trapped 73 = .ok (.bipush 23, 2) := by decide +kernel
theorem dX6_trapped_75 : decode cX6_trapped 75 = .ok (.iload_n 3, 1) := by decide +kernel
theorem dX6_trapped_76 : decode cX6_trapped 76 = .ok (.isub, 1) := by decide +kernel
theorem dX6_trapped_77 : decode cX6_trapped 77 = .ok (.invokestatic 55, 3) := by decide +kernel
theorem dX6_trapped_80 : decode cX6_trapped 80 = .ok (.ireturn, 1) := by decide +kernel
theorem dX6_trapped_81 : decode cX6_trapped 81 = .ok (.iinc 4 1, 3) := by decide +kernel
theorem dX6_trapped_84 : decode cX6_trapped 84 = .ok (.goto (-54), 3) := by decide +kernel
theorem dX6_trapped_87 : decode cX6_trapped 87 = .ok (.iinc 3 1, 3) := by decide +kernel
theorem dX6_trapped_90 : decode cX6_trapped 90 = .ok (.goto (-69), 3) := by decide +kernel
theorem dX6_trapped_93 : decode cX6_trapped 93 = .ok (.bipush (-6), 2) := by decide +kernel
theorem dX6_trapped_95 : decode cX6_trapped 95 = .ok (.ireturn, 1) := by decide +kernel
set_option maxRecDepth 20000 in
theorem ggX6_widened_X6_weight : GoodIn wsX6_widened wsX6_weight := goodIn_r _ [4] (by decide +kernel) (by decide +kernel)
set_option maxRecDepth 20000 in
theorem gX6_widened_X6_weight : GoodIn wsX6_widened (va_wsS RX6 49 yX6_weight wsX6_weight) := goodIn_app (goodIn_of _ (by decide +kernel)) ggX6_widened_X6_weight
theorem dX6_widened_0 : decode cX6_widened 0 = .ok (.iload_n 0, 1) := by decide +kernel
theorem dX6_widened_1 : decode cX6_widened 1 = .ok (.iload_n 0, 1) := by decide +kernel
theorem dX6_widened_2 : decode cX6_widened 2 = .ok (.invokestatic 49, 3) := by decide +kernel
theorem dX6_widened_5 : decode cX6_widened 5 = .ok (.iconst 2, 1) := by decide +kernel
theorem dX6_widened_6 : decode cX6_widened 6 = .ok (.irem, 1) := by decide +kernel
theorem dX6_widened_7 : decode cX6_widened 7 = .ok (.bipush 23, 2) := by decide +kernel
theorem dX6_widened_9 : decode cX6_widened 9 = .ok (.ishl, 1) := by decide +kernel
theorem dX6_widened_10 : decode cX6_widened 10 = .ok (.ior, 1) := by decide +kernel
theorem dX6_widened_11 : decode cX6_widened 11 = .ok (.ireturn, 1) := by decide +kernel
set_option maxRecDepth 20000 in
theorem ggX6_wide_X6_isMessage : GoodIn wsX6_wide wsX6_isMessage := goodIn_r _ [4, 5, 6, 3, 7] (by decide +kernel) (by decide +kernel)
set_option maxRecDepth 20000 in
theorem gX6_wide_X6_isMessage : GoodIn wsX6_wide (va_wsS RX6 39 yX6_isMessage wsX6_isMessage) := goodIn_app (goodIn_of _ (by decide +kernel)) ggX6_wide_X6_isMessage
set_option maxRecDepth 20000 in
theorem ggX6_wide_X6_madeOf : GoodIn wsX6_wide wsX6_madeOf := goodIn_r _ [10, 11, 12, 3, 13] (by decide +kernel) (by decide +kernel)
set_option maxRecDepth 20000 in
theorem gX6_wide_X6_madeOf : GoodIn wsX6_wide (va_wsS RX6 43 yX6_madeOf wsX6_madeOf) := goodIn_app (goodIn_of _ (by decide +kernel)) ggX6_wide_X6_madeOf
set_option maxRecDepth 20000 in
theorem ggX6_wide_X6_widened : GoodIn wsX6_wide wsX6_widened := goodIn_r _ [16, 17, 18, 3, 19] (by decide +kernel) (by decide +kernel)
set_option maxRecDepth 20000 in
theorem gX6_wide_X6_widened : GoodIn wsX6_wide (va_wsS RX6 62 yX6_widened wsX6_widened) := goodIn_app (goodIn_of _ (by decide +kernel)) ggX6_wide_X6_widened
theorem dX6_wide_0 : decode cX6_wide 0 = .ok (.iload_n 1, 1) := by decide +kernel
theorem dX6_wide_1 : decode cX6_wide 1 = .ok (.invokestatic 39, 3) := by decide +kernel
theorem dX6_wide_4 : decode cX6_wide 4 = .ok (.ifCond .eq 13, 3) := by decide +kernel
theorem dX6_wide_7 : decode cX6_wide 7 = .ok (.iload_n 1, 1) := by decide +kernel
theorem dX6_wide_8 : decode cX6_wide 8 = .ok (.invokestatic 43, 3) := by decide +kernel
theorem dX6_wide_11 : decode cX6_wide 11 = .ok (.invokestatic 62, 3) := by decide +kernel
theorem dX6_wide_14 : decode cX6_wide 14 = .ok (.goto 5, 3) := by decide +kernel
theorem dX6_wide_17 : decode cX6_wide 17 = .ok (.bipush (-2), 2) := by decide +kernel
theorem dX6_wide_19 : decode cX6_wide 19 = .ok (.ireturn, 1) := by decide +kernel
set_option maxRecDepth 20000 in
theorem ggX6_read_X6_in : GoodIn wsX6_read wsX6_in := goodIn_r _ [6] (by decide +kernel) (by decide +kernel)
set_option maxRecDepth 20000 in
theorem gX6_read_X6_in : GoodIn wsX6_read (va_wsS RX6 35 yX6_in wsX6_in) := goodIn_app (goodIn_of _ (by decide +kernel)) ggX6_read_X6_in
set_option maxRecDepth 20000 in
theorem ggX6_read_X6_nearest : GoodIn wsX6_read wsX6_nearest := goodIn_r _ [10, 11, 12, 13, 5, 14, 21, 22, 23, 24, 25, 26, 27] (by decide +kernel) (by decide +kernel)
set_option maxRecDepth 20000 in
theorem gX6_read_X6_nearest : GoodIn wsX6_read (wsV RX6 52 RX6 yX6_nearest wsX6_nearest) := goodIn_app (goodIn_of _ (by decide +kernel)) ggX6_read_X6_nearest
set_option maxRecDepth 20000 in
theorem ggX6_read_X6_widened : GoodIn wsX6_read wsX6_widened := goodIn_r _ [17, 18, 19, 5, 20] (by decide +kernel) (by decide +kernel)
set_option maxRecDepth 20000 in
theorem gX6_read_X6_widened : GoodIn wsX6_read (va_wsS RX6 62 yX6_widened wsX6_widened) := goodIn_app (goodIn_of _ (by decide +kernel)) ggX6_read_X6_widened
set_option maxRecDepth 20000 in
theorem ggX6_read_X6_weight : GoodIn wsX6_read wsX6_weight := goodIn_r _ [20] (by decide +kernel) (by decide +kernel)
set_option maxRecDepth 20000 in
theorem gX6_read_X6_weight : GoodIn wsX6_read (va_wsS RX6 49 yX6_weight wsX6_weight) := goodIn_app (goodIn_of _ (by decide +kernel)) ggX6_read_X6_weight
theorem dX6_read_0 : decode cX6_read 0 = .ok (.iload_n 1, 1) := by decide +kernel
theorem dX6_read_1 : decode cX6_read 1 = .ok (.iconst 0, 1) := by decide +kernel
theorem dX6_read_2 : decode cX6_read 2 = .ok (.ldc 65, 2) := by decide +kernel
theorem dX6_read_4 : decode cX6_read 4 = .ok (.invokestatic 35, 3) := by decide +kernel
theorem dX6_read_7 : decode cX6_read 7 = .ok (.ifCond .eq 12, 3) := by decide +kernel
theorem dX6_read_10 : decode cX6_read 10 = .ok (.iload_n 2, 1) := by decide +kernel
theorem dX6_read_11 : decode cX6_read 11 = .ok (.iconst 0, 1) := by decide +kernel
theorem dX6_read_12 : decode cX6_read 12 = .ok (.iconst 1, 1) := by decide +kernel
theorem dX6_read_13 : decode cX6_read 13 = .ok (.invokestatic 35, 3) := by decide +kernel
theorem dX6_read_16 : decode cX6_read 16 = .ok (.ifCond .ne 6, 3) := by decide +kernel
theorem dX6_read_19 : decode cX6_read 19 = .ok (.bipush (-2), 2) := by decide +kernel
theorem dX6_read_21 : decode cX6_read 21 = .ok (.ireturn, 1) := by decide +kernel
theorem dX6_read_22 : decode cX6_read 22 = .ok (.aload_n 0, 1) := by decide +kernel
theorem dX6_read_23 : decode cX6_read 23 = .ok (.iload_n 1, 1) := by decide +kernel
theorem dX6_read_24 : decode cX6_read 24 = .ok (.ldc 66, 2) := by decide +kernel
theorem dX6_read_26 : decode cX6_read 26 = .ok (.irem, 1) := by decide +kernel
theorem dX6_read_27 : decode cX6_read 27 = .ok (.invokevirtual 52, 3) := by decide +kernel
theorem dX6_read_30 : decode cX6_read 30 = .ok (.istore_n 3, 1) := by decide +kernel
theorem dX6_read_31 : decode cX6_read 31 = .ok (.iload_n 3, 1) := by decide +kernel
theorem dX6_read_32 : decode cX6_read 32 = .ok (.invokestatic 62, 3) := by decide +kernel
theorem dX6_read_35 : decode cX6_read 35 = .ok (.iload_n 1, 1) := by decide +kernel
theorem dX6_read_36 : decode cX6_read 36 = .ok (.ixor, 1) := by decide +kernel
theorem dX6_read_37 : decode cX6_read 37 = .ok (.invokestatic 49, 3) := by decide +kernel
theorem dX6_read_40 : decode cX6_read 40 = .ok (.istore 4, 2) := by decide +kernel
theorem dX6_read_42 : decode cX6_read 42 = .ok (.iload 4, 2) := by decide +kernel
theorem dX6_read_44 : decode cX6_read 44 = .ok (.iconst 3, 1) := by decide +kernel
theorem dX6_read_45 : decode cX6_read 45 = .ok (.if_icmp .le 6, 3) := by decide +kernel
theorem dX6_read_48 : decode cX6_read 48 = .ok (.bipush (-6), 2) := by decide +kernel
theorem dX6_read_50 : decode cX6_read 50 = .ok (.ireturn, 1) := by decide +kernel
theorem dX6_read_51 : decode cX6_read 51 = .ok (.iload_n 2, 1) := by decide +kernel
theorem dX6_read_52 : decode cX6_read 52 = .ok (.ifCond .ne 10, 3) := by decide +kernel
theorem dX6_read_55 : decode cX6_read 55 = .ok (.iload_n 3, 1) := by decide +kernel
theorem dX6_read_56 : decode cX6_read 56 = .ok (.bipush 11, 2) := by decide +kernel
theorem dX6_read_58 : decode cX6_read 58 = .ok (.ishr, 1) := by decide +kernel
theorem dX6_read_59 : decode cX6_read 59 = .ok (.goto 5, 3) := by decide +kernel
theorem dX6_read_62 : decode cX6_read 62 = .ok (.iload 4, 2) := by decide +kernel
theorem dX6_read_64 : decode cX6_read 64 = .ok (.ireturn, 1) := by decide +kernel
set_option maxRecDepth 20000 in
theorem ggX6_isMove_X6_in : GoodIn wsX6_isMove wsX6_in := goodIn_r _ [4] (by decide +kernel) (by decide +kernel)
set_option maxRecDepth 20000 in
theorem gX6_isMove_X6_in : GoodIn wsX6_isMove (va_wsS RX6 35 yX6_in wsX6_in) := goodIn_app (goodIn_of _ (by decide +kernel)) ggX6_isMove_X6_in
theorem dX6_isMove_0 : decode cX6_isMove 0 = .ok (.iload_n 0, 1) := by decide +kernel
theorem dX6_isMove_1 : decode cX6_isMove 1 = .ok (.iconst 1, 1) := by decide +kernel
theorem dX6_isMove_2 : decode cX6_isMove 2 = .ok (.bipush 22, 2) := by decide +kernel
theorem dX6_isMove_4 : decode cX6_isMove 4 = .ok (.invokestatic 35, 3) := by decide +kernel
theorem dX6_isMove_7 : decode cX6_isMove 7 = .ok (.ifCond .eq 17, 3) := by decide +kernel
theorem dX6_isMove_10 : decode cX6_isMove 10 = .ok (.iload_n 1, 1) := by decide +kernel
theorem dX6_isMove_11 : decode cX6_isMove 11 = .ok (.iconst 0, 1) := by decide +kernel
theorem dX6_isMove_12 : decode cX6_isMove 12 = .ok (.bipush 22, 2) := by decide +kernel
theorem dX6_isMove_14 : decode cX6_isMove 14 = .ok (.invokestatic 35, 3) := by decide +kernel
theorem dX6_isMove_17 : decode cX6_isMove 17 = .ok (.ifCond .eq 7, 3) := by decide +kernel
theorem dX6_isMove_20 : decode cX6_isMove 20 = .ok (.iconst 1, 1) := by decide +kernel
theorem dX6_isMove_21 : decode cX6_isMove 21 = .ok (.goto 4, 3) := by decide +kernel
theorem dX6_isMove_24 : decode cX6_isMove 24 = .ok (.iconst 0, 1) := by decide +kernel
theorem dX6_isMove_25 : decode cX6_isMove 25 = .ok (.ireturn, 1) := by decide +kernel
theorem dX6_place_0 : decode cX6_place 0 = .ok (.iload_n 1, 1) := by decide +kernel
theorem dX6_place_1 : decode cX6_place 1 = .ok (.iload_n 0, 1) := by decide +kernel
theorem dX6_place_2 : decode cX6_place 2 = .ok (.imul, 1) := by decide +kernel
theorem dX6_place_3 : decode cX6_place 3 = .ok (.iload_n 2, 1) := by decide +kernel
theorem dX6_place_4 : decode cX6_place 4 = .ok (.iadd, 1) := by decide +kernel
theorem dX6_place_5 : decode cX6_place 5 = .ok (.bipush 23, 2) := by decide +kernel
theorem dX6_place_7 : decode cX6_place 7 = .ok (.irem, 1) := by decide +kernel
theorem dX6_place_8 : decode cX6_place 8 = .ok (.ireturn, 1) := by decide +kernel
set_option maxRecDepth 20000 in
theorem ggX6_go_X6_place : GoodIn wsX6_go wsX6_place := goodIn_r _ [4] (by decide +kernel) (by decide +kernel)
set_option maxRecDepth 20000 in
theorem gX6_go_X6_place : GoodIn wsX6_go (va_wsS RX6 67 yX6_place wsX6_place) := goodIn_app (goodIn_of _ (by decide +kernel)) ggX6_go_X6_place
theorem dX6_go_0 : decode cX6_go 0 = .ok (.iconst 0, 1) := by decide +kernel
theorem dX6_go_1 : decode cX6_go 1 = .ok (.istore_n 3, 1) := by decide +kernel
theorem dX6_go_2 : decode cX6_go 2 = .ok (.iconst 0, 1) := by decide +kernel
theorem dX6_go_3 : decode cX6_go 3 = .ok (.istore 4, 2) := by decide +kernel
theorem dX6_go_5 : decode cX6_go 5 = .ok (.iload 4, 2) := by decide +kernel
theorem dX6_go_7 : decode cX6_go 7 = .ok (.bipush 23, 2) := by decide +kernel
theorem dX6_go_9 : decode cX6_go 9 = .ok (.if_icmp .ge 26, 3) := by decide +kernel
theorem dX6_go_12 : decode cX6_go 12 = .ok (.iload_n 3, 1) := by decide +kernel
theorem dX6_go_13 : decode cX6_go 13 = .ok (.iload_n 0, 1) := by decide +kernel
theorem dX6_go_14 : decode cX6_go 14 = .ok (.iload 4, 2) := by decide +kernel
theorem dX6_go_16 : decode cX6_go 16 = .ok (.ishr, 1) := by decide +kernel
theorem dX6_go_17 : decode cX6_go 17 = .ok (.iconst 1, 1) := by decide +kernel
theorem dX6_go_18 : decode cX6_go 18 = .ok (.iand, 1) := by decide +kernel
theorem dX6_go_19 : decode cX6_go 19 = .ok (.iload 4, 2) := by decide +kernel
theorem dX6_go_21 : decode cX6_go 21 = .ok (.iload_n 1, 1) := by decide +kernel
theorem dX6_go_22 : decode cX6_go 22 = .ok (.iload_n 2, 1) := by decide +kernel
theorem dX6_go_23 : decode cX6_go 23 = .ok (.invokestatic 67, 3) := by decide +kernel
theorem dX6_go_26 : decode cX6_go 26 = .ok (.ishl, 1) := by decide +kernel
theorem dX6_go_27 : decode cX6_go 27 = .ok (.ior, 1) := by decide +kernel
theorem dX6_go_28 : decode cX6_go 28 = .ok (.istore_n 3, 1) := by decide +kernel
theorem dX6_go_29 : decode cX6_go 29 = .ok (.iinc 4 1, 3) := by decide +kernel
theorem dX6_go_32 : decode cX6_go 32 = .ok (.goto (-27), 3) := by decide +kernel
theorem dX6_go_35 : decode cX6_go 35 = .ok (.iload_n 3, 1) := by decide +kernel
theorem dX6_go_36 : decode cX6_go 36 = .ok (.ireturn, 1) := by decide +kernel
set_option maxRecDepth 20000 in
theorem ggX6_goBack_X6_place : GoodIn wsX6_goBack wsX6_place := goodIn_r _ [4] (by decide +kernel) (by decide +kernel)
set_option maxRecDepth 20000 in
theorem gX6_goBack_X6_place : GoodIn wsX6_goBack (va_wsS RX6 67 yX6_place wsX6_place) := goodIn_app (goodIn_of _ (by decide +kernel)) ggX6_goBack_X6_place
theorem dX6_goBack_0 : decode cX6_goBack 0 = .ok (.iconst 0, 1) := by decide +kernel
theorem dX6_goBack_1 : decode cX6_goBack 1 = .ok (.istore_n 3, 1) := by decide +kernel
theorem dX6_goBack_2 : decode cX6_goBack 2 = .ok (.iconst 0, 1) := by decide +kernel
theorem dX6_goBack_3 : decode cX6_goBack 3 = .ok (.istore 4, 2) := by decide +kernel
theorem dX6_goBack_5 : decode cX6_goBack 5 = .ok (.iload 4, 2) := by decide +kernel
theorem dX6_goBack_7 : decode cX6_goBack 7 = .ok (.bipush 23, 2) := by decide +kernel
theorem dX6_goBack_9 : decode cX6_goBack 9 = .ok (.if_icmp .ge 26, 3) := by decide +kernel
theorem dX6_goBack_12 : decode cX6_goBack 12 = .ok (.iload_n 3, 1) := by decide +kernel
theorem dX6_goBack_13 : decode cX6_goBack 13 = .ok (.iload_n 0, 1) := by decide +kernel
theorem dX6_goBack_14 : decode cX6_goBack 14 = .ok (.iload 4, 2) := by decide +kernel
theorem dX6_goBack_16 : decode cX6_goBack 16 = .ok (.iload_n 1, 1) := by decide +kernel
theorem dX6_goBack_17 : decode cX6_goBack 17 = .ok (.iload_n 2, 1) := by decide +kernel
theorem dX6_goBack_18 : decode cX6_goBack 18 = .ok (.invokestatic 67, 3) := by decide +kernel
theorem dX6_goBack_21 : decode cX6_goBack 21 = .ok (.ishr, 1) := by decide +kernel
theorem dX6_goBack_22 : decode cX6_goBack 22 = .ok (.iconst 1, 1) := by decide +kernel
theorem dX6_goBack_23 : decode cX6_goBack 23 = .ok (.iand, 1) := by decide +kernel
theorem dX6_goBack_24 : decode cX6_goBack 24 = .ok (.iload 4, 2) := by decide +kernel
theorem dX6_goBack_26 : decode cX6_goBack 26 = .ok (.ishl, 1) := by decide +kernel
theorem dX6_goBack_27 : decode cX6_goBack 27 = .ok (.ior, 1) := by decide +kernel
theorem dX6_goBack_28 : decode cX6_goBack 28 = .ok (.istore_n 3, 1) := by decide +kernel
theorem dX6_goBack_29 : decode cX6_goBack 29 = .ok (.iinc 4 1, 3) := by decide +kernel
theorem dX6_goBack_32 : decode cX6_goBack 32 = .ok (.goto (-27), 3) := by decide +kernel
theorem dX6_goBack_35 : decode cX6_goBack 35 = .ok (.iload_n 3, 1) := by decide +kernel
theorem dX6_goBack_36 : decode cX6_goBack 36 = .ok (.ireturn, 1) := by decide +kernel
set_option maxRecDepth 20000 in
theorem ggX6_keepsCode_X6_madeOf : GoodIn wsX6_keepsCode wsX6_madeOf := goodIn_r _ [4, 5, 6, 3, 7] (by decide +kernel) (by decide +kernel)
set_option maxRecDepth 20000 in
theorem gX6_keepsCode_X6_madeOf : GoodIn wsX6_keepsCode (va_wsS RX6 43 yX6_madeOf wsX6_madeOf) := goodIn_app (goodIn_of _ (by decide +kernel)) ggX6_keepsCode_X6_madeOf
set_option maxRecDepth 20000 in
theorem ggX6_keepsCode_X6_go : GoodIn wsX6_keepsCode wsX6_go := goodIn_r _ [10, 11, 12, 3, 13] (by decide +kernel) (by decide +kernel)
set_option maxRecDepth 20000 in
theorem gX6_keepsCode_X6_go : GoodIn wsX6_keepsCode (va_wsS RX6 71 yX6_go wsX6_go) := goodIn_app (goodIn_of _ (by decide +kernel)) ggX6_keepsCode_X6_go
set_option maxRecDepth 20000 in
theorem ggX6_keepsCode_X6_restOf : GoodIn wsX6_keepsCode wsX6_restOf := goodIn_r _ [7] (by decide +kernel) (by decide +kernel)
set_option maxRecDepth 20000 in
theorem gX6_keepsCode_X6_restOf : GoodIn wsX6_keepsCode (va_wsS RX6 30 yX6_restOf wsX6_restOf) := goodIn_app (goodIn_of _ (by decide +kernel)) ggX6_keepsCode_X6_restOf
theorem dX6_keepsCode_0 : decode cX6_keepsCode 0 = .ok (.iconst 1, 1) := by decide +kernel
theorem dX6_keepsCode_1 : decode cX6_keepsCode 1 = .ok (.istore_n 2, 1) := by decide +kernel
theorem dX6_keepsCode_2 : decode cX6_keepsCode 2 = .ok (.iconst 0, 1) := by decide +kernel
theorem dX6_keepsCode_3 : decode cX6_keepsCode 3 = .ok (.istore_n 3, 1) := by decide +kernel
theorem dX6_keepsCode_4 : decode cX6_keepsCode 4 = .ok (.iload_n 3, 1) := by decide +kernel
theorem dX6_keepsCode_5 : decode cX6_keepsCode 5 = .ok (.bipush 12, 2) := by decide +kernel
theorem dX6_keepsCode_7 : decode cX6_keepsCode 7 = .ok (.if_icmp .ge 36, 3) := by decide +kernel
theorem dX6_keepsCode_10 : decode cX6_keepsCode 10 = .ok (.iload_n 2, 1) := by decide +kernel
theorem dX6_keepsCode_11 : decode cX6_keepsCode 11 = .ok (.ifCond .eq 24, 3) := by decide +kernel
theorem dX6_keepsCode_14 : decode cX6_keepsCode 14 = .ok (.iconst 1, 1) := by decide +kernel
theorem dX6_keepsCode_15 : decode cX6_keepsCode 15 = .ok (.iload_n 3, 1) := by decide +kernel
theorem dX6_keepsCode_16 : decode cX6_keepsCode 16 = .ok (.ishl, 1) := by decide +kernel
theorem dX6_keepsCode_17 : decode cX6_keepsCode 17 = .ok (.invokestatic 43, 3) := by decide +kernel
theorem dX6_keepsCode_20 : decode cX6_keepsCode 20 = .ok (.iload_n 0, 1) := by decide +kernel
theorem dX6_keepsCode_21 : decode cX6_keepsCode 21 = .ok (.iload_n 1, 1) := by decide +kernel
theorem dX6_keepsCode_22 : decode cX6_keepsCode 22 = .ok (.invokestatic 71, 3) := by decide +kernel
theorem dX6_keepsCode_25 : decode cX6_keepsCode 25 = .ok (.invokestatic 30, 3) := by decide +kernel
theorem dX6_keepsCode_28 : decode cX6_keepsCode 28 = .ok (.ifCond .ne 7, 3) := by decide +kernel
theorem dX6_keepsCode_31 : decode cX6_keepsCode 31 = .ok (.iconst 1, 1) := by decide +kernel
theorem dX6_keepsCode_32 : decode cX6_keepsCode 32 = .ok (.goto 4, 3) := by decide +kernel
theorem dX6_keepsCode_35 : decode cX6_keepsCode 35 = .ok (.iconst 0, 1) := by decide +kernel
theorem dX6_keepsCode_36 : decode cX6_keepsCode 36 = .ok (.istore_n 2, 1) := by decide +kernel
theorem dX6_keepsCode_37 : decode cX6_keepsCode 37 = .ok (.iinc 3 1, 3) := by decide +kernel
theorem dX6_keepsCode_40 : decode cX6_keepsCode 40 = .ok (.goto (-36), 3) := by decide +kernel
theorem dX6_keepsCode_43 : decode cX6_keepsCode 43 = .ok (.iload_n 2, 1) := by decide +kernel
theorem dX6_keepsCode_44 : decode cX6_keepsCode 44 = .ok (.ireturn, 1) := by decide +kernel
set_option maxRecDepth 20000 in
theorem ggX6_keeps_X6_isMove : GoodIn wsX6_keeps wsX6_isMove := goodIn_r _ [4, 5, 6, 3, 7] (by decide +kernel) (by decide +kernel)
set_option maxRecDepth 20000 in
theorem gX6_keeps_X6_isMove : GoodIn wsX6_keeps (va_wsS RX6 74 yX6_isMove wsX6_isMove) := goodIn_app (goodIn_of _ (by decide +kernel)) ggX6_keeps_X6_isMove
set_option maxRecDepth 20000 in
theorem ggX6_keeps_X6_keepsCode : GoodIn wsX6_keeps wsX6_keepsCode := goodIn_r _ [10, 11, 12, 3, 13, 14, 15, 16, 17, 18, 19, 20, 21, 22] (by decide +kernel) (by decide +kernel)
set_option maxRecDepth 20000 in
theorem gX6_keeps_X6_keepsCode : GoodIn wsX6_keeps (va_wsS RX6 78 yX6_keepsCode wsX6_keepsCode) := goodIn_app (goodIn_of _ (by decide +kernel)) ggX6_keeps_X6_keepsCode
theorem dX6_keeps_0 : decode cX6_keeps 0 = .ok (.iload_n 1, 1) := by decide +kernel
theorem dX6_keeps_1 : decode cX6_keeps 1 = .ok (.iload_n 2, 1) := by decide +kernel
theorem dX6_keeps_2 : decode cX6_keeps 2 = .ok (.invokestatic 74, 3) := by decide +kernel
theorem dX6_keeps_5 : decode cX6_keeps 5 = .ok (.ifCond .ne 6, 3) := by decide +kernel
theorem dX6_keeps_8 : decode cX6_keeps 8 = .ok (.bipush (-2), 2) := by decide +kernel
theorem dX6_keeps_10 : decode cX6_keeps 10 = .ok (.ireturn, 1) := by decide +kernel
theorem dX6_keeps_11 : decode cX6_keeps 11 = .ok (.iload_n 1, 1) := by decide +kernel
theorem dX6_keeps_12 : decode cX6_keeps 12 = .ok (.iload_n 2, 1) := by decide +kernel
theorem dX6_keeps_13 : decode cX6_keeps 13 = .ok (.invokestatic 78, 3) := by decide +kernel
theorem dX6_keeps_16 : decode cX6_keeps 16 = .ok (.ifCond .eq 7, 3) := by decide +kernel
theorem dX6_keeps_19 : decode cX6_keeps 19 = .ok (.iconst 1, 1) := by decide +kernel
theorem dX6_keeps_20 : decode cX6_keeps 20 = .ok (.goto 4, 3) := by decide +kernel
theorem dX6_keeps_23 : decode cX6_keeps 23 = .ok (.iconst 0, 1) := by decide +kernel
theorem dX6_keeps_24 : decode cX6_keeps 24 = .ok (.ireturn, 1) := by decide +kernel
set_option maxRecDepth 20000 in
theorem ggX6_moved_X6_isWord : GoodIn wsX6_moved wsX6_isWord := goodIn_r _ [4, 5, 6, 7, 3, 8] (by decide +kernel) (by decide +kernel)
set_option maxRecDepth 20000 in
theorem gX6_moved_X6_isWord : GoodIn wsX6_moved (va_wsS RX6 46 yX6_isWord wsX6_isWord) := goodIn_app (goodIn_of _ (by decide +kernel)) ggX6_moved_X6_isWord
set_option maxRecDepth 20000 in
theorem ggX6_moved_X6_isMove : GoodIn wsX6_moved wsX6_isMove := goodIn_r _ [11, 6, 7, 3, 8] (by decide +kernel) (by decide +kernel)
set_option maxRecDepth 20000 in
theorem gX6_moved_X6_isMove : GoodIn wsX6_moved (va_wsS RX6 74 yX6_isMove wsX6_isMove) := goodIn_app (goodIn_of _ (by decide +kernel)) ggX6_moved_X6_isMove
set_option maxRecDepth 20000 in
theorem ggX6_moved_X6_go : GoodIn wsX6_moved wsX6_go := goodIn_r _ [14, 15, 16, 3, 17] (by decide +kernel) (by decide +kernel)
set_option maxRecDepth 20000 in
theorem gX6_moved_X6_go : GoodIn wsX6_moved (va_wsS RX6 71 yX6_go wsX6_go) := goodIn_app (goodIn_of _ (by decide +kernel)) ggX6_moved_X6_go
theorem dX6_moved_0 : decode cX6_moved 0 = .ok (.iload_n 1, 1) := by decide +kernel
theorem dX6_moved_1 : decode cX6_moved 1 = .ok (.invokestatic 46, 3) := by decide +kernel
theorem dX6_moved_4 : decode cX6_moved 4 = .ok (.ifCond .eq 20, 3) := by decide +kernel
theorem dX6_moved_7 : decode cX6_moved 7 = .ok (.iload_n 2, 1) := by decide +kernel
theorem dX6_moved_8 : decode cX6_moved 8 = .ok (.iload_n 3, 1) := by decide +kernel
theorem dX6_moved_9 : decode cX6_moved 9 = .ok (.invokestatic 74, 3) := by decide +kernel
end
section
theorem dX6_moved_12 : decode cX6_moved 12 = .ok (.ifCond .eq 12, 3) := by decide +kernel
theorem dX6_moved_15 : decode cX6_moved 15 = .ok (.iload_n 1, 1) := by decide +kernel
theorem dX6_moved_16 : decode cX6_moved 16 = .ok (.iload_n 2, 1) := by decide +kernel
theorem dX6_moved_17 : decode cX6_moved 17 = .ok (.iload_n 3, 1) := by decide +kernel
theorem dX6_moved_18 : decode cX6_moved 18 = .ok (.invokestatic 71, 3) := by decide +kernel
theorem dX6_moved_21 : decode cX6_moved 21 = .ok (.goto 5, 3) := by decide +kernel
theorem dX6_moved_24 : decode cX6_moved 24 = .ok (.bipush (-2), 2) := by decide +kernel
theorem dX6_moved_26 : decode cX6_moved 26 = .ok (.ireturn, 1) := by decide +kernel
set_option maxRecDepth 20000 in
theorem ggX6_move_X6_isMove : GoodIn wsX6_move wsX6_isMove := goodIn_r _ [5, 6, 7, 4, 8] (by decide +kernel) (by decide +kernel)
set_option maxRecDepth 20000 in
theorem gX6_move_X6_isMove : GoodIn wsX6_move (va_wsS RX6 74 yX6_isMove wsX6_isMove) := goodIn_app (goodIn_of _ (by decide +kernel)) ggX6_move_X6_isMove
set_option maxRecDepth 20000 in
theorem ggX6_move_X6_keepsCode : GoodIn wsX6_move wsX6_keepsCode := goodIn_r _ [11, 12, 13, 4, 14, 15, 16, 17, 18, 19, 20, 21, 22, 23] (by decide +kernel) (by decide +kernel)
set_option maxRecDepth 20000 in
theorem gX6_move_X6_keepsCode : GoodIn wsX6_move (va_wsS RX6 78 yX6_keepsCode wsX6_keepsCode) := goodIn_app (goodIn_of _ (by decide +kernel)) ggX6_move_X6_keepsCode
theorem dX6_move_0 : decode cX6_move 0 = .ok (.iload_n 1, 1) := by decide +kernel
theorem dX6_move_1 : decode cX6_move 1 = .ok (.iload_n 2, 1) := by decide +kernel
theorem dX6_move_2 : decode cX6_move 2 = .ok (.invokestatic 74, 3) := by decide +kernel
theorem dX6_move_5 : decode cX6_move 5 = .ok (.ifCond .ne 6, 3) := by decide +kernel
theorem dX6_move_8 : decode cX6_move 8 = .ok (.bipush (-2), 2) := by decide +kernel
theorem dX6_move_10 : decode cX6_move 10 = .ok (.ireturn, 1) := by decide +kernel
theorem dX6_move_11 : decode cX6_move 11 = .ok (.iload_n 1, 1) := by decide +kernel
theorem dX6_move_12 : decode cX6_move 12 = .ok (.iload_n 2, 1) := by decide +kernel
theorem dX6_move_13 : decode cX6_move 13 = .ok (.invokestatic 78, 3) := by decide +kernel
theorem dX6_move_16 : decode cX6_move 16 = .ok (.ifCond .ne 6, 3) := by decide +kernel
theorem dX6_move_19 : decode cX6_move 19 = .ok (.bipush (-5), 2) := by decide +kernel
theorem dX6_move_21 : decode cX6_move 21 = .ok (.ireturn, 1) := by decide +kernel
theorem dX6_move_22 : decode cX6_move 22 = .ok (.aload_n 0, 1) := by decide +kernel
theorem dX6_move_23 : decode cX6_move 23 = .ok (.getfield 7, 3) := by decide +kernel
theorem dX6_move_26 : decode cX6_move 26 = .ok (.iconst 0, 1) := by decide +kernel
theorem dX6_move_27 : decode cX6_move 27 = .ok (.iaload, 1) := by decide +kernel
theorem dX6_move_28 : decode cX6_move 28 = .ok (.istore_n 3, 1) := by decide +kernel
theorem dX6_move_29 : decode cX6_move 29 = .ok (.iload_n 3, 1) := by decide +kernel
theorem dX6_move_30 : decode cX6_move 30 = .ok (.bipush 8, 2) := by decide +kernel
theorem dX6_move_32 : decode cX6_move 32 = .ok (.if_icmp .ne 6, 3) := by decide +kernel
theorem dX6_move_35 : decode cX6_move 35 = .ok (.bipush (-4), 2) := by decide +kernel
theorem dX6_move_37 : decode cX6_move 37 = .ok (.ireturn, 1) := by decide +kernel
theorem dX6_move_38 : decode cX6_move 38 = .ok (.aload_n 0, 1) := by decide +kernel
theorem dX6_move_39 : decode cX6_move 39 = .ok (.getfield 7, 3) := by decide +kernel
theorem dX6_move_42 : decode cX6_move 42 = .ok (.iconst 1, 1) := by decide +kernel
theorem dX6_move_43 : decode cX6_move 43 = .ok (.iload_n 3, 1) := by decide +kernel
theorem dX6_move_44 : decode cX6_move 44 = .ok (.iadd, 1) := by decide +kernel
theorem dX6_move_45 : decode cX6_move 45 = .ok (.iload_n 1, 1) := by decide +kernel
theorem dX6_move_46 : decode cX6_move 46 = .ok (.iastore, 1) := by decide +kernel
theorem dX6_move_47 : decode cX6_move 47 = .ok (.aload_n 0, 1) := by decide +kernel
theorem dX6_move_48 : decode cX6_move 48 = .ok (.getfield 7, 3) := by decide +kernel
theorem dX6_move_51 : decode cX6_move 51 = .ok (.bipush 9, 2) := by decide +kernel
theorem dX6_move_53 : decode cX6_move 53 = .ok (.iload_n 3, 1) := by decide +kernel
theorem dX6_move_54 : decode cX6_move 54 = .ok (.iadd, 1) := by decide +kernel
theorem dX6_move_55 : decode cX6_move 55 = .ok (.iload_n 2, 1) := by decide +kernel
theorem dX6_move_56 : decode cX6_move 56 = .ok (.iastore, 1) := by decide +kernel
theorem dX6_move_57 : decode cX6_move 57 = .ok (.aload_n 0, 1) := by decide +kernel
theorem dX6_move_58 : decode cX6_move 58 = .ok (.getfield 7, 3) := by decide +kernel
theorem dX6_move_61 : decode cX6_move 61 = .ok (.iconst 0, 1) := by decide +kernel
theorem dX6_move_62 : decode cX6_move 62 = .ok (.dup2, 1) := by decide +kernel
theorem dX6_move_63 : decode cX6_move 63 = .ok (.iaload, 1) := by decide +kernel
theorem dX6_move_64 : decode cX6_move 64 = .ok (.iconst 1, 1) := by decide +kernel
theorem dX6_move_65 : decode cX6_move 65 = .ok (.iadd, 1) := by decide +kernel
theorem dX6_move_66 : decode cX6_move 66 = .ok (.iastore, 1) := by decide +kernel
theorem dX6_move_67 : decode cX6_move 67 = .ok (.iload_n 3, 1) := by decide +kernel
theorem dX6_move_68 : decode cX6_move 68 = .ok (.ireturn, 1) := by decide +kernel
set_option maxRecDepth 20000 in
theorem ggX6_isThere_X6_in : GoodIn wsX6_isThere wsX6_in := goodIn_r _ [5] (by decide +kernel) (by decide +kernel)
set_option maxRecDepth 20000 in
theorem gX6_isThere_X6_in : GoodIn wsX6_isThere (va_wsS RX6 35 yX6_in wsX6_in) := goodIn_app (goodIn_of _ (by decide +kernel)) ggX6_isThere_X6_in
theorem dX6_isThere_0 : decode cX6_isThere 0 = .ok (.iload_n 1, 1) := by decide +kernel
theorem dX6_isThere_1 : decode cX6_isThere 1 = .ok (.iconst 0, 1) := by decide +kernel
theorem dX6_isThere_2 : decode cX6_isThere 2 = .ok (.aload_n 0, 1) := by decide +kernel
theorem dX6_isThere_3 : decode cX6_isThere 3 = .ok (.getfield 7, 3) := by decide +kernel
theorem dX6_isThere_6 : decode cX6_isThere 6 = .ok (.iconst 0, 1) := by decide +kernel
theorem dX6_isThere_7 : decode cX6_isThere 7 = .ok (.iaload, 1) := by decide +kernel
theorem dX6_isThere_8 : decode cX6_isThere 8 = .ok (.iconst 1, 1) := by decide +kernel
theorem dX6_isThere_9 : decode cX6_isThere 9 = .ok (.isub, 1) := by decide +kernel
theorem dX6_isThere_10 : decode cX6_isThere 10 = .ok (.invokestatic 35, 3) := by decide +kernel
theorem dX6_isThere_13 : decode cX6_isThere 13 = .ok (.ireturn, 1) := by decide +kernel
set_option maxRecDepth 20000 in
theorem ggX6_drop_X6_isThere : GoodIn wsX6_drop wsX6_isThere := goodIn_r _ [6, 1, 7, 8, 5, 9, 10, 11, 12, 13, 14, 15, 16] (by decide +kernel) (by decide +kernel)
set_option maxRecDepth 20000 in
theorem gX6_drop_X6_isThere : GoodIn wsX6_drop (wsV RX6 81 RX6 yX6_isThere wsX6_isThere) := goodIn_app (goodIn_of _ (by decide +kernel)) ggX6_drop_X6_isThere
theorem dX6_drop_0 : decode cX6_drop 0 = .ok (.aload_n 0, 1) := by decide +kernel
theorem dX6_drop_1 : decode cX6_drop 1 = .ok (.iload_n 1, 1) := by decide +kernel
theorem dX6_drop_2 : decode cX6_drop 2 = .ok (.invokevirtual 81, 3) := by decide +kernel
theorem dX6_drop_5 : decode cX6_drop 5 = .ok (.ifCond .ne 5, 3) := by decide +kernel
theorem dX6_drop_8 : decode cX6_drop 8 = .ok (.iconst (-1), 1) := by decide +kernel
theorem dX6_drop_9 : decode cX6_drop 9 = .ok (.ireturn, 1) := by decide +kernel
theorem dX6_drop_10 : decode cX6_drop 10 = .ok (.iload_n 1, 1) := by decide +kernel
theorem dX6_drop_11 : decode cX6_drop 11 = .ok (.istore_n 2, 1) := by decide +kernel
theorem dX6_drop_12 : decode cX6_drop 12 = .ok (.iload_n 2, 1) := by decide +kernel
theorem dX6_drop_13 : decode cX6_drop 13 = .ok (.iconst 1, 1) := by decide +kernel
theorem dX6_drop_14 : decode cX6_drop 14 = .ok (.iadd, 1) := by decide +kernel
theorem dX6_drop_15 : decode cX6_drop 15 = .ok (.aload_n 0, 1) := by decide +kernel
theorem dX6_drop_16 : decode cX6_drop 16 = .ok (.getfield 7, 3) := by decide +kernel
theorem dX6_drop_19 : decode cX6_drop 19 = .ok (.iconst 0, 1) := by decide +kernel
theorem dX6_drop_20 : decode cX6_drop 20 = .ok (.iaload, 1) := by decide +kernel
theorem dX6_drop_21 : decode cX6_drop 21 = .ok (.if_icmp .ge 47, 3) := by decide +kernel
theorem dX6_drop_24 : decode cX6_drop 24 = .ok (.aload_n 0, 1) := by decide +kernel
theorem dX6_drop_25 : decode cX6_drop 25 = .ok (.getfield 7, 3) := by decide +kernel
theorem dX6_drop_28 : decode cX6_drop 28 = .ok (.iconst 1, 1) := by decide +kernel
theorem dX6_drop_29 : decode cX6_drop 29 = .ok (.iload_n 2, 1) := by decide +kernel
theorem dX6_drop_30 : decode cX6_drop 30 = .ok (.iadd, 1) := by decide +kernel
theorem dX6_drop_31 : decode cX6_drop 31 = .ok (.aload_n 0, 1) := by decide +kernel
theorem dX6_drop_32 : decode cX6_drop 32 = .ok (.getfield 7, 3) := by decide +kernel
theorem dX6_drop_35 : decode cX6_drop 35 = .ok (.iconst 1, 1) := by decide +kernel
theorem dX6_drop_36 : decode cX6_drop 36 = .ok (.iload_n 2, 1) := by decide +kernel
theorem dX6_drop_37 : decode cX6_drop 37 = .ok (.iadd, 1) := by decide +kernel
theorem dX6_drop_38 : decode cX6_drop 38 = .ok (.iconst 1, 1) := by decide +kernel
theorem dX6_drop_39 : decode cX6_drop 39 = .ok (.iadd, 1) := by decide +kernel
theorem dX6_drop_40 : decode cX6_drop 40 = .ok (.iaload, 1) := by decide +kernel
theorem dX6_drop_41 : decode cX6_drop 41 = .ok (.iastore, 1) := by decide +kernel
theorem dX6_drop_42 : decode cX6_drop 42 = .ok (.aload_n 0, 1) := by decide +kernel
theorem dX6_drop_43 : decode cX6_drop 43 = .ok (.getfield 7, 3) := by decide +kernel
theorem dX6_drop_46 : decode cX6_drop 46 = .ok (.bipush 9, 2) := by decide +kernel
theorem dX6_drop_48 : decode cX6_drop 48 = .ok (.iload_n 2, 1) := by decide +kernel
theorem dX6_drop_49 : decode cX6_drop 49 = .ok (.iadd, 1) := by decide +kernel
theorem dX6_drop_50 : decode cX6_drop 50 = .ok (.aload_n 0, 1) := by decide +kernel
theorem dX6_drop_51 : decode cX6_drop 51 = .ok (.getfield 7, 3) := by decide +kernel
theorem dX6_drop_54 : decode cX6_drop 54 = .ok (.bipush 9, 2) := by decide +kernel
theorem dX6_drop_56 : decode cX6_drop 56 = .ok (.iload_n 2, 1) := by decide +kernel
theorem dX6_drop_57 : decode cX6_drop 57 = .ok (.iadd, 1) := by decide +kernel
theorem dX6_drop_58 : decode cX6_drop 58 = .ok (.iconst 1, 1) := by decide +kernel
theorem dX6_drop_59 : decode cX6_drop 59 = .ok (.iadd, 1) := by decide +kernel
theorem dX6_drop_60 : decode cX6_drop 60 = .ok (.iaload, 1) := by decide +kernel
theorem dX6_drop_61 : decode cX6_drop 61 = .ok (.iastore, 1) := by decide +kernel
theorem dX6_drop_62 : decode cX6_drop 62 = .ok (.iinc 2 1, 3) := by decide +kernel
theorem dX6_drop_65 : decode cX6_drop 65 = .ok (.goto (-53), 3) := by decide +kernel
theorem dX6_drop_68 : decode cX6_drop 68 = .ok (.aload_n 0, 1) := by decide +kernel
theorem dX6_drop_69 : decode cX6_drop 69 = .ok (.getfield 7, 3) := by decide +kernel
theorem dX6_drop_72 : decode cX6_drop 72 = .ok (.iconst 0, 1) := by decide +kernel
theorem dX6_drop_73 : decode cX6_drop 73 = .ok (.dup2, 1) := by decide +kernel
theorem dX6_drop_74 : decode cX6_drop 74 = .ok (.iaload, 1) := by decide +kernel
theorem dX6_drop_75 : decode cX6_drop 75 = .ok (.iconst 1, 1) := by decide +kernel
theorem dX6_drop_76 : decode cX6_drop 76 = .ok (.isub, 1) := by decide +kernel
theorem dX6_drop_77 : decode cX6_drop 77 = .ok (.iastore, 1) := by decide +kernel
theorem dX6_drop_78 : decode cX6_drop 78 = .ok (.aload_n 0, 1) := by decide +kernel
theorem dX6_drop_79 : decode cX6_drop 79 = .ok (.getfield 7, 3) := by decide +kernel
theorem dX6_drop_82 : decode cX6_drop 82 = .ok (.iconst 0, 1) := by decide +kernel
theorem dX6_drop_83 : decode cX6_drop 83 = .ok (.iaload, 1) := by decide +kernel
theorem dX6_drop_84 : decode cX6_drop 84 = .ok (.ireturn, 1) := by decide +kernel
set_option maxRecDepth 20000 in
theorem ggX6_bringsTo_X6_place : GoodIn wsX6_bringsTo wsX6_place := goodIn_r _ [5] (by decide +kernel) (by decide +kernel)
set_option maxRecDepth 20000 in
theorem gX6_bringsTo_X6_place : GoodIn wsX6_bringsTo (va_wsS RX6 67 yX6_place wsX6_place) := goodIn_app (goodIn_of _ (by decide +kernel)) ggX6_bringsTo_X6_place
theorem dX6_bringsTo_0 : decode cX6_bringsTo 0 = .ok (.iload_n 2, 1) := by decide +kernel
theorem dX6_bringsTo_1 : decode cX6_bringsTo 1 = .ok (.aload_n 0, 1) := by decide +kernel
theorem dX6_bringsTo_2 : decode cX6_bringsTo 2 = .ok (.getfield 7, 3) := by decide +kernel
theorem dX6_bringsTo_5 : decode cX6_bringsTo 5 = .ok (.iconst 1, 1) := by decide +kernel
theorem dX6_bringsTo_6 : decode cX6_bringsTo 6 = .ok (.iload_n 1, 1) := by decide +kernel
theorem dX6_bringsTo_7 : decode cX6_bringsTo 7 = .ok (.iadd, 1) := by decide +kernel
theorem dX6_bringsTo_8 : decode cX6_bringsTo 8 = .ok (.iaload, 1) := by decide +kernel
theorem dX6_bringsTo_9 : decode cX6_bringsTo 9 = .ok (.aload_n 0, 1) := by decide +kernel
theorem dX6_bringsTo_10 : decode cX6_bringsTo 10 = .ok (.getfield 7, 3) := by decide +kernel
theorem dX6_bringsTo_13 : decode cX6_bringsTo 13 = .ok (.bipush 9, 2) := by decide +kernel
theorem dX6_bringsTo_15 : decode cX6_bringsTo 15 = .ok (.iload_n 1, 1) := by decide +kernel
theorem dX6_bringsTo_16 : decode cX6_bringsTo 16 = .ok (.iadd, 1) := by decide +kernel
theorem dX6_bringsTo_17 : decode cX6_bringsTo 17 = .ok (.iaload, 1) := by decide +kernel
theorem dX6_bringsTo_18 : decode cX6_bringsTo 18 = .ok (.invokestatic 67, 3) := by decide +kernel
theorem dX6_bringsTo_21 : decode cX6_bringsTo 21 = .ok (.bipush 11, 2) := by decide +kernel
theorem dX6_bringsTo_23 : decode cX6_bringsTo 23 = .ok (.if_icmp .ge 7, 3) := by decide +kernel
theorem dX6_bringsTo_26 : decode cX6_bringsTo 26 = .ok (.iconst 1, 1) := by decide +kernel
theorem dX6_bringsTo_27 : decode cX6_bringsTo 27 = .ok (.goto 4, 3) := by decide +kernel
theorem dX6_bringsTo_30 : decode cX6_bringsTo 30 = .ok (.iconst 0, 1) := by decide +kernel
theorem dX6_bringsTo_31 : decode cX6_bringsTo 31 = .ok (.ireturn, 1) := by decide +kernel
set_option maxRecDepth 20000 in
theorem ggX6_coveredBy_X6_bringsTo : GoodIn wsX6_coveredBy wsX6_bringsTo := goodIn_r _ [6, 1, 7, 8, 5, 9, 10, 11, 12, 13, 14, 15, 16] (by decide +kernel) (by decide +kernel)
set_option maxRecDepth 20000 in
theorem gX6_coveredBy_X6_bringsTo : GoodIn wsX6_coveredBy (wsV RX6 84 RX6 yX6_bringsTo wsX6_bringsTo) := goodIn_app (goodIn_of _ (by decide +kernel)) ggX6_coveredBy_X6_bringsTo
theorem dX6_coveredBy_0 : decode cX6_coveredBy 0 = .ok (.iconst 0, 1) := by decide +kernel
theorem dX6_coveredBy_1 : decode cX6_coveredBy 1 = .ok (.istore 4, 2) := by decide +kernel
theorem dX6_coveredBy_3 : decode cX6_coveredBy 3 = .ok (.iload 4, 2) := by decide +kernel
theorem dX6_coveredBy_5 : decode cX6_coveredBy 5 = .ok (.aload_n 0, 1) := by decide +kernel
theorem dX6_coveredBy_6 : decode cX6_coveredBy 6 = .ok (.getfield 7, 3) := by decide +kernel
theorem dX6_coveredBy_9 : decode cX6_coveredBy 9 = .ok (.iconst 0, 1) := by decide +kernel
theorem dX6_coveredBy_10 : decode cX6_coveredBy 10 = .ok (.iaload, 1) := by decide +kernel
theorem dX6_coveredBy_11 : decode cX6_coveredBy 11 = .ok (.if_icmp .ge 39, 3) := by decide +kernel
theorem dX6_coveredBy_14 : decode cX6_coveredBy 14 = .ok (.aload_n 0, 1) := by decide +kernel
theorem dX6_coveredBy_15 : decode cX6_coveredBy 15 = .ok (.iload 4, 2) := by decide +kernel
theorem dX6_coveredBy_17 : decode cX6_coveredBy 17 = .ok (.iload_n 1, 1) := by decide +kernel
theorem dX6_coveredBy_18 : decode cX6_coveredBy 18 = .ok (.invokevirtual 84, 3) := by decide +kernel
theorem dX6_coveredBy_21 : decode cX6_coveredBy 21 = .ok (.ifCond .eq 23, 3) := by decide +kernel
theorem dX6_coveredBy_24 : decode cX6_coveredBy 24 = .ok (.aload_n 0, 1) := by decide +kernel
theorem dX6_coveredBy_25 : decode cX6_coveredBy 25 = .ok (.iload 4, 2) := by decide +kernel
theorem dX6_coveredBy_27 : decode cX6_coveredBy 27 = .ok (.iload_n 2, 1) := by decide +kernel
theorem dX6_coveredBy_28 : decode cX6_coveredBy 28 = .ok (.invokevirtual 84, 3) := by decide +kernel
theorem dX6_coveredBy_31 : decode cX6_coveredBy 31 = .ok (.ifCond .eq 13, 3) := by decide +kernel
theorem dX6_coveredBy_34 : decode cX6_coveredBy 34 = .ok (.aload_n 0, 1) := by decide +kernel
theorem dX6_coveredBy_35 : decode cX6_coveredBy 35 = .ok (.iload 4, 2) := by decide +kernel
theorem dX6_coveredBy_37 : decode cX6_coveredBy 37 = .ok (.iload_n 3, 1) := by decide +kernel
theorem dX6_coveredBy_38 : decode cX6_coveredBy 38 = .ok (.invokevirtual 84, 3) := by decide +kernel
theorem dX6_coveredBy_41 : decode cX6_coveredBy 41 = .ok (.ifCond .ne 9, 3) := by decide +kernel
theorem dX6_coveredBy_44 : decode cX6_coveredBy 44 = .ok (.iinc 4 1, 3) := by decide +kernel
theorem dX6_coveredBy_47 : decode cX6_coveredBy 47 = .ok (.goto (-44), 3) := by decide +kernel
theorem dX6_coveredBy_50 : decode cX6_coveredBy 50 = .ok (.iload 4, 2) := by decide +kernel
theorem dX6_coveredBy_52 : decode cX6_coveredBy 52 = .ok (.ireturn, 1) := by decide +kernel
set_option maxRecDepth 20000 in
theorem ggX6_layTriples_X6_coveredBy : GoodIn wsX6_layTriples wsX6_coveredBy := goodIn_r _ [7, 8, 9, 10, 11, 6, 12, 13, 14, 15, 16, 17, 18, 19, 20, 21, 22] (by decide +kernel) (by decide +kernel)
set_option maxRecDepth 20000 in
theorem gX6_layTriples_X6_coveredBy : GoodIn wsX6_layTriples (wsV RX6 94 RX6 yX6_coveredBy wsX6_coveredBy) := goodIn_app (goodIn_of _ (by decide +kernel)) ggX6_layTriples_X6_coveredBy
theorem dX6_layTriples_0 : decode cX6_layTriples 0 = .ok (.aload_n 0, 1) := by decide +kernel
theorem dX6_layTriples_1 : decode cX6_layTriples 1 = .ok (.iconst 0, 1) := by decide +kernel
theorem dX6_layTriples_2 : decode cX6_layTriples 2 = .ok (.putfield 87, 3) := by decide +kernel
theorem dX6_layTriples_5 : decode cX6_layTriples 5 = .ok (.aload_n 0, 1) := by decide +kernel
theorem dX6_layTriples_6 : decode cX6_layTriples 6 = .ok (.bipush (-6), 2) := by decide +kernel
theorem dX6_layTriples_8 : decode cX6_layTriples 8 = .ok (.putfield 91, 3) := by decide +kernel
theorem dX6_layTriples_11 : decode cX6_layTriples 11 = .ok (.iconst 0, 1) := by decide +kernel
theorem dX6_layTriples_12 : decode cX6_layTriples 12 = .ok (.istore_n 2, 1) := by decide +kernel
theorem dX6_layTriples_13 : decode cX6_layTriples 13 = .ok (.iload_n 2, 1) := by decide +kernel
theorem dX6_layTriples_14 : decode cX6_layTriples 14 = .ok (.bipush 23, 2) := by decide +kernel
theorem dX6_layTriples_16 : decode cX6_layTriples 16 = .ok (.if_icmp .ge 96, 3) := by decide +kernel
theorem dX6_layTriples_19 : decode cX6_layTriples 19 = .ok (.iload_n 2, 1) := by decide +kernel
theorem dX6_layTriples_20 : decode cX6_layTriples 20 = .ok (.iconst 1, 1) := by decide +kernel
theorem dX6_layTriples_21 : decode cX6_layTriples 21 = .ok (.iadd, 1) := by decide +kernel
theorem dX6_layTriples_22 : decode cX6_layTriples 22 = .ok (.istore_n 3, 1) := by decide +kernel
theorem dX6_layTriples_23 : decode cX6_layTriples 23 = .ok (.iload_n 3, 1) := by decide +kernel
theorem dX6_layTriples_24 : decode cX6_layTriples 24 = .ok (.bipush 23, 2) := by decide +kernel
theorem dX6_layTriples_26 : decode cX6_layTriples 26 = .ok (.if_icmp .ge 80, 3) := by decide +kernel
theorem dX6_layTriples_29 : decode cX6_layTriples 29 = .ok (.iload_n 3, 1) := by decide +kernel
theorem dX6_layTriples_30 : decode cX6_layTriples 30 = .ok (.iconst 1, 1) := by decide +kernel
theorem dX6_layTriples_31 : decode cX6_layTriples 31 = .ok (.iadd, 1) := by decide +kernel
theorem dX6_layTriples_32 : decode cX6_layTriples 32 = .ok (.istore 4, 2) := by decide +kernel
theorem dX6_layTriples_34 : decode cX6_layTriples 34 = .ok (.iload 4, 2) := by decide +kernel
theorem dX6_layTriples_36 : decode cX6_layTriples 36 = .ok (.bipush 23, 2) := by decide +kernel
theorem dX6_layTriples_38 : decode cX6_layTriples 38 = .ok (.if_icmp .ge 62, 3) := by decide +kernel
theorem dX6_layTriples_41 : decode cX6_layTriples 41 = .ok (.aload_n 0, 1) := by decide +kernel
theorem dX6_layTriples_42 : decode cX6_layTriples 42 = .ok (.iload_n 2, 1) := by decide +kernel
theorem dX6_layTriples_43 : decode cX6_layTriples 43 = .ok (.iload_n 3, 1) := by decide +kernel
theorem dX6_layTriples_44 : decode cX6_layTriples 44 = .ok (.iload 4, 2) := by decide +kernel
theorem dX6_layTriples_46 : decode cX6_layTriples 46 = .ok (.invokevirtual 94, 3) := by decide +kernel
theorem dX6_layTriples_49 : decode cX6_layTriples 49 = .ok (.iload_n 1, 1) := by decide +kernel
theorem dX6_layTriples_50 : decode cX6_layTriples 50 = .ok (.if_icmp .ne 44, 3) := by decide +kernel
theorem dX6_layTriples_53 : decode cX6_layTriples 53 = .ok (.aload_n 0, 1) := by decide +kernel
theorem dX6_layTriples_54 : decode cX6_layTriples 54 = .ok (.aload_n 0, 1) := by decide +kernel
theorem dX6_layTriples_55 : decode cX6_layTriples 55 = .ok (.getfield 87, 3) := by decide +kernel
theorem dX6_layTriples_58 : decode cX6_layTriples 58 = .ok (.ifCond .ne 19, 3) := by decide +kernel
theorem dX6_layTriples_61 : decode cX6_layTriples 61 = .ok (.sipush 529, 3) := by decide +kernel
theorem dX6_layTriples_64 : decode cX6_layTriples 64 = .ok (.iload_n 2, 1) := by decide +kernel
theorem dX6_layTriples_65 : decode cX6_layTriples 65 = .ok (.imul, 1) := by decide +kernel
theorem dX6_layTriples_66 : decode cX6_layTriples 66 = .ok (.bipush 23, 2) := by decide +kernel
theorem dX6_layTriples_68 : decode cX6_layTriples 68 = .ok (.iload_n 3, 1) := by decide +kernel
theorem dX6_layTriples_69 : decode cX6_layTriples 69 = .ok (.imul, 1) := by decide +kernel
theorem dX6_layTriples_70 : decode cX6_layTriples 70 = .ok (.iadd, 1) := by decide +kernel
theorem dX6_layTriples_71 : decode cX6_layTriples 71 = .ok (.iload 4, 2) := by decide +kernel
theorem dX6_layTriples_73 : decode cX6_layTriples 73 = .ok (.iadd, 1) := by decide +kernel
theorem dX6_layTriples_74 : decode cX6_layTriples 74 = .ok (.goto 7, 3) := by decide +kernel
theorem dX6_layTriples_77 : decode cX6_layTriples 77 = .ok (.aload_n 0, 1) := by decide +kernel
theorem dX6_layTriples_78 : decode cX6_layTriples 78 = .ok (.getfield 91, 3) := by decide +kernel
theorem dX6_layTriples_81 : decode cX6_layTriples 81 = .ok (.putfield 91, 3) := by decide +kernel
theorem dX6_layTriples_84 : decode cX6_layTriples 84 = .ok (.aload_n 0, 1) := by decide +kernel
theorem dX6_layTriples_85 : decode cX6_layTriples 85 = .ok (.dup, 1) := by decide +kernel
theorem dX6_layTriples_86 : decode cX6_layTriples 86 = .ok (.getfield 87, 3) := by decide +kernel
theorem dX6_layTriples_89 : decode cX6_layTriples 89 = .ok (.iconst 1, 1) := by decide +kernel
theorem dX6_layTriples_90 : decode cX6_layTriples 90 = .ok (.iadd, 1) := by decide +kernel
theorem dX6_layTriples_91 : decode cX6_layTriples 91 = .ok (.putfield 87, 3) := by decide +kernel
theorem dX6_layTriples_94 : decode cX6_layTriples 94 = .ok (.iinc 4 1, 3) := by decide +kernel
theorem dX6_layTriples_97 : decode cX6_layTriples 97 = .ok (.goto (-63), 3) := by decide +kernel
theorem dX6_layTriples_100 : decode cX6_layTriples 100 = .ok (.iinc 3 1, 3) := by decide +kernel
theorem dX6_layTriples_103 : decode cX6_layTriples 103 = .ok (.goto (-80), 3) := by decide +kernel
theorem dX6_layTriples_106 : decode cX6_layTriples 106 = .ok (.iinc 2 1, 3) := by decide +kernel
theorem dX6_layTriples_109 : decode cX6_layTriples 109 = .ok (.goto (-96), 3) := by decide +kernel
theorem dX6_layTriples_112 : decode cX6_layTriples 112 = .ok (.return_, 1) := by decide +kernel
set_option maxRecDepth 20000 in
theorem ggX6_told_X6_isThere : GoodIn wsX6_told wsX6_isThere := goodIn_r _ [7, 1, 8, 9, 6, 10, 27, 28, 29, 30, 31, 32, 33] (by decide +kernel) (by decide +kernel)
set_option maxRecDepth 20000 in
theorem gX6_told_X6_isThere : GoodIn wsX6_told (wsV RX6 81 RX6 yX6_isThere wsX6_isThere) := goodIn_app (goodIn_of _ (by decide +kernel)) ggX6_told_X6_isThere
set_option maxRecDepth 20000 in
theorem ggX6_told_X6_in : GoodIn wsX6_told wsX6_in := goodIn_r _ [10] (by decide +kernel) (by decide +kernel)
set_option maxRecDepth 20000 in
theorem gX6_told_X6_in : GoodIn wsX6_told (va_wsS RX6 35 yX6_in wsX6_in) := goodIn_app (goodIn_of _ (by decide +kernel)) ggX6_told_X6_in
set_option maxRecDepth 20000 in
theorem ggX6_told_X6_layTriples : GoodIn wsX6_told wsX6_layTriples := goodIn_r _ [14, 2, 15, 16, 17, 18, 6, 19, 1, 20, 21, 22, 23, 24, 25, 26, 27, 28, 29, 30, 31, 32, 33] (by decide +kernel) (by decide +kernel)
set_option maxRecDepth 20000 in
theorem gX6_told_X6_layTriples : GoodIn wsX6_told (wsV RX6 97 RX6 yX6_layTriples wsX6_layTriples) := goodIn_app (goodIn_of _ (by decide +kernel)) ggX6_told_X6_layTriples
theorem dX6_told_0 : decode cX6_told 0 = .ok (.aload_n 0, 1) := by decide +kernel
theorem dX6_told_1 : decode cX6_told 1 = .ok (.iload_n 1, 1) := by decide +kernel
theorem dX6_told_2 : decode cX6_told 2 = .ok (.invokevirtual 81, 3) := by decide +kernel
theorem dX6_told_5 : decode cX6_told 5 = .ok (.ifCond .ne 5, 3) := by decide +kernel
theorem dX6_told_8 : decode cX6_told 8 = .ok (.iconst (-1), 1) := by decide +kernel
theorem dX6_told_9 : decode cX6_told 9 = .ok (.ireturn, 1) := by decide +kernel
theorem dX6_told_10 : decode cX6_told 10 = .ok (.iload_n 2, 1) := by decide +kernel
theorem dX6_told_11 : decode cX6_told 11 = .ok (.iconst 0, 1) := by decide +kernel
theorem dX6_told_12 : decode cX6_told 12 = .ok (.iconst 2, 1) := by decide +kernel
theorem dX6_told_13 : decode cX6_told 13 = .ok (.invokestatic 35, 3) := by decide +kernel
theorem dX6_told_16 : decode cX6_told 16 = .ok (.ifCond .ne 6, 3) := by decide +kernel
theorem dX6_told_19 : decode cX6_told 19 = .ok (.bipush (-2), 2) := by decide +kernel
theorem dX6_told_21 : decode cX6_told 21 = .ok (.ireturn, 1) := by decide +kernel
theorem dX6_told_22 : decode cX6_told 22 = .ok (.aload_n 0, 1) := by decide +kernel
theorem dX6_told_23 : decode cX6_told 23 = .ok (.iload_n 1, 1) := by decide +kernel
theorem dX6_told_24 : decode cX6_told 24 = .ok (.invokevirtual 97, 3) := by decide +kernel
theorem dX6_told_27 : decode cX6_told 27 = .ok (.iload_n 2, 1) := by decide +kernel
theorem dX6_told_28 : decode cX6_told 28 = .ok (.ifCond .ne 14, 3) := by decide +kernel
theorem dX6_told_31 : decode cX6_told 31 = .ok (.aload_n 0, 1) := by decide +kernel
theorem dX6_told_32 : decode cX6_told 32 = .ok (.getfield 7, 3) := by decide +kernel
theorem dX6_told_35 : decode cX6_told 35 = .ok (.iconst 1, 1) := by decide +kernel
theorem dX6_told_36 : decode cX6_told 36 = .ok (.iload_n 1, 1) := by decide +kernel
theorem dX6_told_37 : decode cX6_told 37 = .ok (.iadd, 1) := by decide +kernel
theorem dX6_told_38 : decode cX6_told 38 = .ok (.iaload, 1) := by decide +kernel
theorem dX6_told_39 : decode cX6_told 39 = .ok (.goto 24, 3) := by decide +kernel
theorem dX6_told_42 : decode cX6_told 42 = .ok (.iload_n 2, 1) := by decide +kernel
theorem dX6_told_43 : decode cX6_told 43 = .ok (.iconst 1, 1) := by decide +kernel
theorem dX6_told_44 : decode cX6_told 44 = .ok (.if_icmp .ne 15, 3) := by decide +kernel
theorem dX6_told_47 : decode cX6_told 47 = .ok (.aload_n 0, 1) := by decide +kernel
theorem dX6_told_48 : decode cX6_told 48 = .ok (.getfield 7, 3) := by decide +kernel
theorem dX6_told_51 : decode cX6_told 51 = .ok (.bipush 9, 2) := by decide +kernel
theorem dX6_told_53 : decode cX6_told 53 = .ok (.iload_n 1, 1) := by decide +kernel
theorem dX6_told_54 : decode cX6_told 54 = .ok (.iadd, 1) := by decide +kernel
theorem dX6_told_55 : decode cX6_told 55 = .ok (.iaload, 1) := by decide +kernel
theorem dX6_told_56 : decode cX6_told 56 = .ok (.goto 7, 3) := by decide +kernel
theorem dX6_told_59 : decode cX6_told 59 = .ok (.aload_n 0, 1) := by decide +kernel
theorem dX6_told_60 : decode cX6_told 60 = .ok (.getfield 87, 3) := by decide +kernel
theorem dX6_told_63 : decode cX6_told 63 = .ok (.ireturn, 1) := by decide +kernel
set_option maxRecDepth 20000 in
theorem ggX6_freed_X6_isWord : GoodIn wsX6_freed wsX6_isWord := goodIn_r _ [5, 6, 7, 8, 4, 9] (by decide +kernel) (by decide +kernel)
set_option maxRecDepth 20000 in
theorem gX6_freed_X6_isWord : GoodIn wsX6_freed (va_wsS RX6 46 yX6_isWord wsX6_isWord) := goodIn_app (goodIn_of _ (by decide +kernel)) ggX6_freed_X6_isWord
set_option maxRecDepth 20000 in
theorem ggX6_freed_X6_in : GoodIn wsX6_freed wsX6_in := goodIn_r _ [9] (by decide +kernel) (by decide +kernel)
set_option maxRecDepth 20000 in
theorem gX6_freed_X6_in : GoodIn wsX6_freed (va_wsS RX6 35 yX6_in wsX6_in) := goodIn_app (goodIn_of _ (by decide +kernel)) ggX6_freed_X6_in
set_option maxRecDepth 20000 in
theorem ggX6_freed_X6_go : GoodIn wsX6_freed wsX6_go := goodIn_r _ [12, 13, 14, 4, 15] (by decide +kernel) (by decide +kernel)
set_option maxRecDepth 20000 in
theorem gX6_freed_X6_go : GoodIn wsX6_freed (va_wsS RX6 71 yX6_go wsX6_go) := goodIn_app (goodIn_of _ (by decide +kernel)) ggX6_freed_X6_go
set_option maxRecDepth 20000 in
theorem ggX6_freed_X6_restOf : GoodIn wsX6_freed wsX6_restOf := goodIn_r _ [18] (by decide +kernel) (by decide +kernel)
set_option maxRecDepth 20000 in
theorem gX6_freed_X6_restOf : GoodIn wsX6_freed (va_wsS RX6 30 yX6_restOf wsX6_restOf) := goodIn_app (goodIn_of _ (by decide +kernel)) ggX6_freed_X6_restOf
set_option maxRecDepth 20000 in
theorem ggX6_freed_X6_weight : GoodIn wsX6_freed wsX6_weight := goodIn_r _ [21] (by decide +kernel) (by decide +kernel)
set_option maxRecDepth 20000 in
theorem gX6_freed_X6_weight : GoodIn wsX6_freed (va_wsS RX6 49 yX6_weight wsX6_weight) := goodIn_app (goodIn_of _ (by decide +kernel)) ggX6_freed_X6_weight
set_option maxRecDepth 20000 in
theorem ggX6_freed_X6_goBack : GoodIn wsX6_freed wsX6_goBack := goodIn_r _ [24, 13, 14, 4, 15] (by decide +kernel) (by decide +kernel)
set_option maxRecDepth 20000 in
theorem gX6_freed_X6_goBack : GoodIn wsX6_freed (va_wsS RX6 100 yX6_goBack wsX6_goBack) := goodIn_app (goodIn_of _ (by decide +kernel)) ggX6_freed_X6_goBack
theorem dX6_freed_0 : decode cX6_freed 0 = .ok (.iload_n 1, 1) := by decide +kernel
theorem dX6_freed_1 : decode cX6_freed 1 = .ok (.invokestatic 46, 3) := by decide +kernel
theorem dX6_freed_4 : decode cX6_freed 4 = .ok (.ifCond .eq 12, 3) := by decide +kernel
theorem dX6_freed_7 : decode cX6_freed 7 = .ok (.iload_n 2, 1) := by decide +kernel
theorem dX6_freed_8 : decode cX6_freed 8 = .ok (.iconst 0, 1) := by decide +kernel
theorem dX6_freed_9 : decode cX6_freed 9 = .ok (.iconst 1, 1) := by decide +kernel
theorem dX6_freed_10 : decode cX6_freed 10 = .ok (.invokestatic 35, 3) := by decide +kernel
theorem dX6_freed_13 : decode cX6_freed 13 = .ok (.ifCond .ne 6, 3) := by decide +kernel
theorem dX6_freed_16 : decode cX6_freed 16 = .ok (.bipush (-2), 2) := by decide +kernel
theorem dX6_freed_18 : decode cX6_freed 18 = .ok (.ireturn, 1) := by decide +kernel
theorem dX6_freed_19 : decode cX6_freed 19 = .ok (.iconst 0, 1) := by decide +kernel
theorem dX6_freed_20 : decode cX6_freed 20 = .ok (.istore_n 3, 1) := by decide +kernel
theorem dX6_freed_21 : decode cX6_freed 21 = .ok (.iload_n 3, 1) := by decide +kernel
theorem dX6_freed_22 : decode cX6_freed 22 = .ok (.aload_n 0, 1) := by decide +kernel
theorem dX6_freed_23 : decode cX6_freed 23 = .ok (.getfield 7, 3) := by decide +kernel
theorem dX6_freed_26 : decode cX6_freed 26 = .ok (.iconst 0, 1) := by decide +kernel
theorem dX6_freed_27 : decode cX6_freed 27 = .ok (.iaload, 1) := by decide +kernel
theorem dX6_freed_28 : decode cX6_freed 28 = .ok (.if_icmp .ge 75, 3) := by decide +kernel
theorem dX6_freed_31 : decode cX6_freed 31 = .ok (.iload_n 1, 1) := by decide +kernel
theorem dX6_freed_32 : decode cX6_freed 32 = .ok (.aload_n 0, 1) := by decide +kernel
theorem dX6_freed_33 : decode cX6_freed 33 = .ok (.getfield 7, 3) := by decide +kernel
theorem dX6_freed_36 : decode cX6_freed 36 = .ok (.iconst 1, 1) := by decide +kernel
theorem dX6_freed_37 : decode cX6_freed 37 = .ok (.iload_n 3, 1) := by decide +kernel
theorem dX6_freed_38 : decode cX6_freed 38 = .ok (.iadd, 1) := by decide +kernel
theorem dX6_freed_39 : decode cX6_freed 39 = .ok (.iaload, 1) := by decide +kernel
theorem dX6_freed_40 : decode cX6_freed 40 = .ok (.aload_n 0, 1) := by decide +kernel
theorem dX6_freed_41 : decode cX6_freed 41 = .ok (.getfield 7, 3) := by decide +kernel
theorem dX6_freed_44 : decode cX6_freed 44 = .ok (.bipush 9, 2) := by decide +kernel
theorem dX6_freed_46 : decode cX6_freed 46 = .ok (.iload_n 3, 1) := by decide +kernel
theorem dX6_freed_47 : decode cX6_freed 47 = .ok (.iadd, 1) := by decide +kernel
theorem dX6_freed_48 : decode cX6_freed 48 = .ok (.iaload, 1) := by decide +kernel
theorem dX6_freed_49 : decode cX6_freed 49 = .ok (.invokestatic 71, 3) := by decide +kernel
theorem dX6_freed_52 : decode cX6_freed 52 = .ok (.invokestatic 30, 3) := by decide +kernel
theorem dX6_freed_55 : decode cX6_freed 55 = .ok (.istore 4, 2) := by decide +kernel
theorem dX6_freed_57 : decode cX6_freed 57 = .ok (.iload 4, 2) := by decide +kernel
theorem dX6_freed_59 : decode cX6_freed 59 = .ok (.invokestatic 49, 3) := by decide +kernel
theorem dX6_freed_62 : decode cX6_freed 62 = .ok (.iconst 3, 1) := by decide +kernel
theorem dX6_freed_63 : decode cX6_freed 63 = .ok (.if_icmp .gt 34, 3) := by decide +kernel
theorem dX6_freed_66 : decode cX6_freed 66 = .ok (.iload_n 2, 1) := by decide +kernel
theorem dX6_freed_67 : decode cX6_freed 67 = .ok (.ifCond .ne 7, 3) := by decide +kernel
theorem dX6_freed_70 : decode cX6_freed 70 = .ok (.iload_n 3, 1) := by decide +kernel
theorem dX6_freed_71 : decode cX6_freed 71 = .ok (.goto 25, 3) := by decide +kernel
theorem dX6_freed_74 : decode cX6_freed 74 = .ok (.iload 4, 2) := by decide +kernel
theorem dX6_freed_76 : decode cX6_freed 76 = .ok (.aload_n 0, 1) := by decide +kernel
theorem dX6_freed_77 : decode cX6_freed 77 = .ok (.getfield 7, 3) := by decide +kernel
theorem dX6_freed_80 : decode cX6_freed 80 = .ok (.iconst 1, 1) := by decide +kernel
theorem dX6_freed_81 : decode cX6_freed 81 = .ok (.iload_n 3, 1) := by decide +kernel
theorem dX6_freed_82 : decode cX6_freed 82 = .ok (.iadd, 1) := by decide +kernel
theorem dX6_freed_83 : decode cX6_freed 83 = .ok (.iaload, 1) := by decide +kernel
theorem dX6_freed_84 : decode cX6_freed 84 = .ok (.aload_n 0, 1) := by decide +kernel
theorem dX6_freed_85 : decode cX6_freed 85 = .ok (.getfield 7, 3) := by decide +kernel
theorem dX6_freed_88 : decode cX6_freed 88 = .ok (.bipush 9, 2) := by decide +kernel
theorem dX6_freed_90 : decode cX6_freed 90 = .ok (.iload_n 3, 1) := by decide +kernel
theorem dX6_freed_91 : decode cX6_freed 91 = .ok (.iadd, 1) := by decide +kernel
theorem dX6_freed_92 : decode cX6_freed 92 = .ok (.iaload, 1) := by decide +kernel
theorem dX6_freed_93 : decode cX6_freed 93 = .ok (.invokestatic 100, 3) := by decide +kernel
theorem dX6_freed_96 : decode cX6_freed 96 = .ok (.ireturn, 1) := by decide +kernel
theorem dX6_freed_97 : decode cX6_freed 97 = .ok (.iinc 3 1, 3) := by decide +kernel
theorem dX6_freed_100 : decode cX6_freed 100 = .ok (.goto (-79), 3) := by decide +kernel
theorem dX6_freed_103 : decode cX6_freed 103 = .ok (.bipush (-6), 2) := by decide +kernel
theorem dX6_freed_105 : decode cX6_freed 105 = .ok (.ireturn, 1) := by decide +kernel
set_option maxRecDepth 20000 in
theorem ggX6_open_X6_in : GoodIn wsX6_open wsX6_in := goodIn_r _ [7] (by decide +kernel) (by decide +kernel)
set_option maxRecDepth 20000 in
theorem gX6_open_X6_in : GoodIn wsX6_open (va_wsS RX6 35 yX6_in wsX6_in) := goodIn_app (goodIn_of _ (by decide +kernel)) ggX6_open_X6_in
set_option maxRecDepth 20000 in
theorem ggX6_open_X6_layTriples : GoodIn wsX6_open wsX6_layTriples := goodIn_r _ [11, 2, 3, 12, 13, 14, 6, 15, 1, 16, 17, 18, 19, 20, 21, 22, 23, 24, 25, 26, 27, 28, 29] (by decide +kernel) (by decide +kernel)
set_option maxRecDepth 20000 in
theorem gX6_open_X6_layTriples : GoodIn wsX6_open (wsV RX6 97 RX6 yX6_layTriples wsX6_layTriples) := goodIn_app (goodIn_of _ (by decide +kernel)) ggX6_open_X6_layTriples
theorem dX6_open_0 : decode cX6_open 0 = .ok (.iload_n 1, 1) := by decide +kernel
theorem dX6_open_1 : decode cX6_open 1 = .ok (.iconst 0, 1) := by decide +kernel
theorem dX6_open_2 : decode cX6_open 2 = .ok (.iconst 1, 1) := by decide +kernel
theorem dX6_open_3 : decode cX6_open 3 = .ok (.invokestatic 35, 3) := by decide +kernel
theorem dX6_open_6 : decode cX6_open 6 = .ok (.ifCond .ne 6, 3) := by decide +kernel
theorem dX6_open_9 : decode cX6_open 9 = .ok (.bipush (-2), 2) := by decide +kernel
theorem dX6_open_11 : decode cX6_open 11 = .ok (.ireturn, 1) := by decide +kernel
theorem dX6_open_12 : decode cX6_open 12 = .ok (.aload_n 0, 1) := by decide +kernel
theorem dX6_open_13 : decode cX6_open 13 = .ok (.aload_n 0, 1) := by decide +kernel
theorem dX6_open_14 : decode cX6_open 14 = .ok (.getfield 7, 3) := by decide +kernel
theorem dX6_open_17 : decode cX6_open 17 = .ok (.iconst 0, 1) := by decide +kernel
theorem dX6_open_18 : decode cX6_open 18 = .ok (.iaload, 1) := by decide +kernel
theorem dX6_open_19 : decode cX6_open 19 = .ok (.invokevirtual 97, 3) := by decide +kernel
theorem dX6_open_22 : decode cX6_open 22 = .ok (.iload_n 1, 1) := by decide +kernel
theorem dX6_open_23 : decode cX6_open 23 = .ok (.ifCond .ne 10, 3) := by decide +kernel
theorem dX6_open_26 : decode cX6_open 26 = .ok (.aload_n 0, 1) := by decide +kernel
theorem dX6_open_27 : decode cX6_open 27 = .ok (.getfield 87, 3) := by decide +kernel
theorem dX6_open_30 : decode cX6_open 30 = .ok (.goto 7, 3) := by decide +kernel
theorem dX6_open_33 : decode cX6_open 33 = .ok (.aload_n 0, 1) := by decide +kernel
theorem dX6_open_34 : decode cX6_open 34 = .ok (.getfield 91, 3) := by decide +kernel
theorem dX6_open_37 : decode cX6_open 37 = .ok (.ireturn, 1) := by decide +kernel
set_option maxRecDepth 20000 in
theorem ggX6_isPlace_X6_in : GoodIn wsX6_isPlace wsX6_in := goodIn_r _ [4] (by decide +kernel) (by decide +kernel)
set_option maxRecDepth 20000 in
theorem gX6_isPlace_X6_in : GoodIn wsX6_isPlace (va_wsS RX6 35 yX6_in wsX6_in) := goodIn_app (goodIn_of _ (by decide +kernel)) ggX6_isPlace_X6_in
theorem dX6_isPlace_0 : decode cX6_isPlace 0 = .ok (.iload_n 0, 1) := by decide +kernel
theorem dX6_isPlace_1 : decode cX6_isPlace 1 = .ok (.iconst 0, 1) := by decide +kernel
end
section
theorem dX6_isPlace_2 : decode cX6_isPlace 2 = .ok (.bipush 22, 2) := by decide +kernel
theorem dX6_isPlace_4 : decode cX6_isPlace 4 = .ok (.invokestatic 35, 3) := by decide +kernel
theorem dX6_isPlace_7 : decode cX6_isPlace 7 = .ok (.ireturn, 1) := by decide +kernel
set_option maxRecDepth 20000 in
theorem ggX6_sure_X6_isPlace : GoodIn wsX6_sure wsX6_isPlace := goodIn_r _ [5, 6, 7, 4, 8] (by decide +kernel) (by decide +kernel)
set_option maxRecDepth 20000 in
theorem gX6_sure_X6_isPlace : GoodIn wsX6_sure (va_wsS RX6 103 yX6_isPlace wsX6_isPlace) := goodIn_app (goodIn_of _ (by decide +kernel)) ggX6_sure_X6_isPlace
set_option maxRecDepth 20000 in
theorem ggX6_sure_X6_in : GoodIn wsX6_sure wsX6_in := goodIn_r _ [8] (by decide +kernel) (by decide +kernel)
set_option maxRecDepth 20000 in
theorem gX6_sure_X6_in : GoodIn wsX6_sure (va_wsS RX6 35 yX6_in wsX6_in) := goodIn_app (goodIn_of _ (by decide +kernel)) ggX6_sure_X6_in
theorem dX6_sure_0 : decode cX6_sure 0 = .ok (.iload_n 1, 1) := by decide +kernel
theorem dX6_sure_1 : decode cX6_sure 1 = .ok (.invokestatic 103, 3) := by decide +kernel
theorem dX6_sure_4 : decode cX6_sure 4 = .ok (.ifCond .eq 13, 3) := by decide +kernel
theorem dX6_sure_7 : decode cX6_sure 7 = .ok (.iload_n 2, 1) := by decide +kernel
theorem dX6_sure_8 : decode cX6_sure 8 = .ok (.iconst 0, 1) := by decide +kernel
theorem dX6_sure_9 : decode cX6_sure 9 = .ok (.bipush 9, 2) := by decide +kernel
theorem dX6_sure_11 : decode cX6_sure 11 = .ok (.invokestatic 35, 3) := by decide +kernel
theorem dX6_sure_14 : decode cX6_sure 14 = .ok (.ifCond .ne 6, 3) := by decide +kernel
theorem dX6_sure_17 : decode cX6_sure 17 = .ok (.bipush (-2), 2) := by decide +kernel
theorem dX6_sure_19 : decode cX6_sure 19 = .ok (.ireturn, 1) := by decide +kernel
theorem dX6_sure_20 : decode cX6_sure 20 = .ok (.aload_n 0, 1) := by decide +kernel
theorem dX6_sure_21 : decode cX6_sure 21 = .ok (.getfield 7, 3) := by decide +kernel
theorem dX6_sure_24 : decode cX6_sure 24 = .ok (.bipush 17, 2) := by decide +kernel
theorem dX6_sure_26 : decode cX6_sure 26 = .ok (.iload_n 1, 1) := by decide +kernel
theorem dX6_sure_27 : decode cX6_sure 27 = .ok (.iadd, 1) := by decide +kernel
theorem dX6_sure_28 : decode cX6_sure 28 = .ok (.iaload, 1) := by decide +kernel
theorem dX6_sure_29 : decode cX6_sure 29 = .ok (.istore_n 3, 1) := by decide +kernel
theorem dX6_sure_30 : decode cX6_sure 30 = .ok (.aload_n 0, 1) := by decide +kernel
theorem dX6_sure_31 : decode cX6_sure 31 = .ok (.getfield 7, 3) := by decide +kernel
theorem dX6_sure_34 : decode cX6_sure 34 = .ok (.bipush 17, 2) := by decide +kernel
theorem dX6_sure_36 : decode cX6_sure 36 = .ok (.iload_n 1, 1) := by decide +kernel
theorem dX6_sure_37 : decode cX6_sure 37 = .ok (.iadd, 1) := by decide +kernel
theorem dX6_sure_38 : decode cX6_sure 38 = .ok (.iload_n 2, 1) := by decide +kernel
theorem dX6_sure_39 : decode cX6_sure 39 = .ok (.iastore, 1) := by decide +kernel
theorem dX6_sure_40 : decode cX6_sure 40 = .ok (.iload_n 3, 1) := by decide +kernel
theorem dX6_sure_41 : decode cX6_sure 41 = .ok (.ireturn, 1) := by decide +kernel
theorem dX6_weakAt_0 : decode cX6_weakAt 0 = .ok (.bipush (-6), 2) := by decide +kernel
theorem dX6_weakAt_2 : decode cX6_weakAt 2 = .ok (.istore_n 2, 1) := by decide +kernel
theorem dX6_weakAt_3 : decode cX6_weakAt 3 = .ok (.iconst 0, 1) := by decide +kernel
theorem dX6_weakAt_4 : decode cX6_weakAt 4 = .ok (.istore_n 3, 1) := by decide +kernel
theorem dX6_weakAt_5 : decode cX6_weakAt 5 = .ok (.iload_n 3, 1) := by decide +kernel
theorem dX6_weakAt_6 : decode cX6_weakAt 6 = .ok (.bipush 23, 2) := by decide +kernel
theorem dX6_weakAt_8 : decode cX6_weakAt 8 = .ok (.if_icmp .ge 112, 3) := by decide +kernel
theorem dX6_weakAt_11 : decode cX6_weakAt 11 = .ok (.iconst 0, 1) := by decide +kernel
theorem dX6_weakAt_12 : decode cX6_weakAt 12 = .ok (.istore 4, 2) := by decide +kernel
theorem dX6_weakAt_14 : decode cX6_weakAt 14 = .ok (.iconst 0, 1) := by decide +kernel
theorem dX6_weakAt_15 : decode cX6_weakAt 15 = .ok (.istore 5, 2) := by decide +kernel
theorem dX6_weakAt_17 : decode cX6_weakAt 17 = .ok (.iload 5, 2) := by decide +kernel
theorem dX6_weakAt_19 : decode cX6_weakAt 19 = .ok (.bipush 23, 2) := by decide +kernel
theorem dX6_weakAt_21 : decode cX6_weakAt 21 = .ok (.if_icmp .ge 81, 3) := by decide +kernel
theorem dX6_weakAt_24 : decode cX6_weakAt 24 = .ok (.aload_n 0, 1) := by decide +kernel
theorem dX6_weakAt_25 : decode cX6_weakAt 25 = .ok (.getfield 7, 3) := by decide +kernel
theorem dX6_weakAt_28 : decode cX6_weakAt 28 = .ok (.bipush 17, 2) := by decide +kernel
theorem dX6_weakAt_30 : decode cX6_weakAt 30 = .ok (.iload 5, 2) := by decide +kernel
theorem dX6_weakAt_32 : decode cX6_weakAt 32 = .ok (.iadd, 1) := by decide +kernel
theorem dX6_weakAt_33 : decode cX6_weakAt 33 = .ok (.iaload, 1) := by decide +kernel
theorem dX6_weakAt_34 : decode cX6_weakAt 34 = .ok (.aload_n 0, 1) := by decide +kernel
theorem dX6_weakAt_35 : decode cX6_weakAt 35 = .ok (.getfield 7, 3) := by decide +kernel
theorem dX6_weakAt_38 : decode cX6_weakAt 38 = .ok (.bipush 17, 2) := by decide +kernel
theorem dX6_weakAt_40 : decode cX6_weakAt 40 = .ok (.iload_n 3, 1) := by decide +kernel
theorem dX6_weakAt_41 : decode cX6_weakAt 41 = .ok (.iadd, 1) := by decide +kernel
theorem dX6_weakAt_42 : decode cX6_weakAt 42 = .ok (.iaload, 1) := by decide +kernel
theorem dX6_weakAt_43 : decode cX6_weakAt 43 = .ok (.if_icmp .lt 31, 3) := by decide +kernel
theorem dX6_weakAt_46 : decode cX6_weakAt 46 = .ok (.aload_n 0, 1) := by decide +kernel
theorem dX6_weakAt_47 : decode cX6_weakAt 47 = .ok (.getfield 7, 3) := by decide +kernel
theorem dX6_weakAt_50 : decode cX6_weakAt 50 = .ok (.bipush 17, 2) := by decide +kernel
theorem dX6_weakAt_52 : decode cX6_weakAt 52 = .ok (.iload 5, 2) := by decide +kernel
theorem dX6_weakAt_54 : decode cX6_weakAt 54 = .ok (.iadd, 1) := by decide +kernel
theorem dX6_weakAt_55 : decode cX6_weakAt 55 = .ok (.iaload, 1) := by decide +kernel
theorem dX6_weakAt_56 : decode cX6_weakAt 56 = .ok (.aload_n 0, 1) := by decide +kernel
theorem dX6_weakAt_57 : decode cX6_weakAt 57 = .ok (.getfield 7, 3) := by decide +kernel
theorem dX6_weakAt_60 : decode cX6_weakAt 60 = .ok (.bipush 17, 2) := by decide +kernel
theorem dX6_weakAt_62 : decode cX6_weakAt 62 = .ok (.iload_n 3, 1) := by decide +kernel
theorem dX6_weakAt_63 : decode cX6_weakAt 63 = .ok (.iadd, 1) := by decide +kernel
theorem dX6_weakAt_64 : decode cX6_weakAt 64 = .ok (.iaload, 1) := by decide +kernel
theorem dX6_weakAt_65 : decode cX6_weakAt 65 = .ok (.if_icmp .ne 13, 3) := by decide +kernel
theorem dX6_weakAt_68 : decode cX6_weakAt 68 = .ok (.iload 5, 2) := by decide +kernel
theorem dX6_weakAt_70 : decode cX6_weakAt 70 = .ok (.iload_n 3, 1) := by decide +kernel
theorem dX6_weakAt_71 : decode cX6_weakAt 71 = .ok (.if_icmp .ge 7, 3) := by decide +kernel
theorem dX6_weakAt_74 : decode cX6_weakAt 74 = .ok (.iconst 1, 1) := by decide +kernel
theorem dX6_weakAt_75 : decode cX6_weakAt 75 = .ok (.goto 4, 3) := by decide +kernel
theorem dX6_weakAt_78 : decode cX6_weakAt 78 = .ok (.iconst 0, 1) := by decide +kernel
theorem dX6_weakAt_79 : decode cX6_weakAt 79 = .ok (.istore 6, 2) := by decide +kernel
theorem dX6_weakAt_81 : decode cX6_weakAt 81 = .ok (.iload 4, 2) := by decide +kernel
theorem dX6_weakAt_83 : decode cX6_weakAt 83 = .ok (.iload 6, 2) := by decide +kernel
theorem dX6_weakAt_85 : decode cX6_weakAt 85 = .ok (.ifCond .eq 7, 3) := by decide +kernel
theorem dX6_weakAt_88 : decode cX6_weakAt 88 = .ok (.iconst 1, 1) := by decide +kernel
theorem dX6_weakAt_89 : decode cX6_weakAt 89 = .ok (.goto 4, 3) := by decide +kernel
theorem dX6_weakAt_92 : decode cX6_weakAt 92 = .ok (.iconst 0, 1) := by decide +kernel
theorem dX6_weakAt_93 : decode cX6_weakAt 93 = .ok (.iadd, 1) := by decide +kernel
theorem dX6_weakAt_94 : decode cX6_weakAt 94 = .ok (.istore 4, 2) := by decide +kernel
theorem dX6_weakAt_96 : decode cX6_weakAt 96 = .ok (.iinc 5 1, 3) := by decide +kernel
theorem dX6_weakAt_99 : decode cX6_weakAt 99 = .ok (.goto (-82), 3) := by decide +kernel
theorem dX6_weakAt_102 : decode cX6_weakAt 102 = .ok (.iload 4, 2) := by decide +kernel
theorem dX6_weakAt_104 : decode cX6_weakAt 104 = .ok (.iload_n 1, 1) := by decide +kernel
theorem dX6_weakAt_105 : decode cX6_weakAt 105 = .ok (.if_icmp .ne 7, 3) := by decide +kernel
theorem dX6_weakAt_108 : decode cX6_weakAt 108 = .ok (.iload_n 3, 1) := by decide +kernel
theorem dX6_weakAt_109 : decode cX6_weakAt 109 = .ok (.goto 4, 3) := by decide +kernel
theorem dX6_weakAt_112 : decode cX6_weakAt 112 = .ok (.iload_n 2, 1) := by decide +kernel
theorem dX6_weakAt_113 : decode cX6_weakAt 113 = .ok (.istore_n 2, 1) := by decide +kernel
theorem dX6_weakAt_114 : decode cX6_weakAt 114 = .ok (.iinc 3 1, 3) := by decide +kernel
theorem dX6_weakAt_117 : decode cX6_weakAt 117 = .ok (.goto (-112), 3) := by decide +kernel
theorem dX6_weakAt_120 : decode cX6_weakAt 120 = .ok (.iload_n 2, 1) := by decide +kernel
theorem dX6_weakAt_121 : decode cX6_weakAt 121 = .ok (.ireturn, 1) := by decide +kernel
set_option maxRecDepth 20000 in
theorem ggX6_weak_X6_in : GoodIn wsX6_weak wsX6_in := goodIn_r _ [4] (by decide +kernel) (by decide +kernel)
set_option maxRecDepth 20000 in
theorem gX6_weak_X6_in : GoodIn wsX6_weak (va_wsS RX6 35 yX6_in wsX6_in) := goodIn_app (goodIn_of _ (by decide +kernel)) ggX6_weak_X6_in
set_option maxRecDepth 20000 in
theorem ggX6_weak_X6_weakAt : GoodIn wsX6_weak wsX6_weakAt := goodIn_r _ [8, 9, 10, 11, 12, 13, 14, 15, 16] (by decide +kernel) (by decide +kernel)
set_option maxRecDepth 20000 in
theorem gX6_weak_X6_weakAt : GoodIn wsX6_weak (wsV RX6 106 RX6 yX6_weakAt wsX6_weakAt) := goodIn_app (goodIn_of _ (by decide +kernel)) ggX6_weak_X6_weakAt
theorem dX6_weak_0 : decode cX6_weak 0 = .ok (.iload_n 1, 1) := by decide +kernel
theorem dX6_weak_1 : decode cX6_weak 1 = .ok (.iconst 0, 1) := by decide +kernel
theorem dX6_weak_2 : decode cX6_weak 2 = .ok (.iconst 3, 1) := by decide +kernel
theorem dX6_weak_3 : decode cX6_weak 3 = .ok (.invokestatic 35, 3) := by decide +kernel
theorem dX6_weak_6 : decode cX6_weak 6 = .ok (.ifCond .eq 11, 3) := by decide +kernel
theorem dX6_weak_9 : decode cX6_weak 9 = .ok (.aload_n 0, 1) := by decide +kernel
theorem dX6_weak_10 : decode cX6_weak 10 = .ok (.iload_n 1, 1) := by decide +kernel
theorem dX6_weak_11 : decode cX6_weak 11 = .ok (.invokevirtual 106, 3) := by decide +kernel
theorem dX6_weak_14 : decode cX6_weak 14 = .ok (.goto 5, 3) := by decide +kernel
theorem dX6_weak_17 : decode cX6_weak 17 = .ok (.bipush (-2), 2) := by decide +kernel
theorem dX6_weak_19 : decode cX6_weak 19 = .ok (.ireturn, 1) := by decide +kernel
theorem dX6_loss_0 : decode cX6_loss 0 = .ok (.iconst 0, 1) := by decide +kernel
theorem dX6_loss_1 : decode cX6_loss 1 = .ok (.istore_n 3, 1) := by decide +kernel
theorem dX6_loss_2 : decode cX6_loss 2 = .ok (.iconst 0, 1) := by decide +kernel
theorem dX6_loss_3 : decode cX6_loss 3 = .ok (.istore 4, 2) := by decide +kernel
theorem dX6_loss_5 : decode cX6_loss 5 = .ok (.iload 4, 2) := by decide +kernel
theorem dX6_loss_7 : decode cX6_loss 7 = .ok (.bipush 23, 2) := by decide +kernel
theorem dX6_loss_9 : decode cX6_loss 9 = .ok (.if_icmp .ge 31, 3) := by decide +kernel
theorem dX6_loss_12 : decode cX6_loss 12 = .ok (.iload_n 3, 1) := by decide +kernel
theorem dX6_loss_13 : decode cX6_loss 13 = .ok (.iload_n 1, 1) := by decide +kernel
theorem dX6_loss_14 : decode cX6_loss 14 = .ok (.iload_n 2, 1) := by decide +kernel
theorem dX6_loss_15 : decode cX6_loss 15 = .ok (.ixor, 1) := by decide +kernel
theorem dX6_loss_16 : decode cX6_loss 16 = .ok (.iload 4, 2) := by decide +kernel
theorem dX6_loss_18 : decode cX6_loss 18 = .ok (.ishr, 1) := by decide +kernel
theorem dX6_loss_19 : decode cX6_loss 19 = .ok (.iconst 1, 1) := by decide +kernel
theorem dX6_loss_20 : decode cX6_loss 20 = .ok (.iand, 1) := by decide +kernel
theorem dX6_loss_21 : decode cX6_loss 21 = .ok (.aload_n 0, 1) := by decide +kernel
theorem dX6_loss_22 : decode cX6_loss 22 = .ok (.getfield 7, 3) := by decide +kernel
theorem dX6_loss_25 : decode cX6_loss 25 = .ok (.bipush 17, 2) := by decide +kernel
theorem dX6_loss_27 : decode cX6_loss 27 = .ok (.iload 4, 2) := by decide +kernel
theorem dX6_loss_29 : decode cX6_loss 29 = .ok (.iadd, 1) := by decide +kernel
theorem dX6_loss_30 : decode cX6_loss 30 = .ok (.iaload, 1) := by decide +kernel
theorem dX6_loss_31 : decode cX6_loss 31 = .ok (.imul, 1) := by decide +kernel
theorem dX6_loss_32 : decode cX6_loss 32 = .ok (.iadd, 1) := by decide +kernel
theorem dX6_loss_33 : decode cX6_loss 33 = .ok (.istore_n 3, 1) := by decide +kernel
theorem dX6_loss_34 : decode cX6_loss 34 = .ok (.iinc 4 1, 3) := by decide +kernel
theorem dX6_loss_37 : decode cX6_loss 37 = .ok (.goto (-32), 3) := by decide +kernel
theorem dX6_loss_40 : decode cX6_loss 40 = .ok (.iload_n 3, 1) := by decide +kernel
theorem dX6_loss_41 : decode cX6_loss 41 = .ok (.ireturn, 1) := by decide +kernel
set_option maxRecDepth 20000 in
theorem ggX6_layTries_X6_weakAt : GoodIn wsX6_layTries wsX6_weakAt := goodIn_r _ [6, 7, 16, 17, 18, 19, 20, 21, 22] (by decide +kernel) (by decide +kernel)
set_option maxRecDepth 20000 in
theorem gX6_layTries_X6_weakAt : GoodIn wsX6_layTries (wsV RX6 106 RX6 yX6_weakAt wsX6_weakAt) := goodIn_app (goodIn_of _ (by decide +kernel)) ggX6_layTries_X6_weakAt
set_option maxRecDepth 20000 in
theorem ggX6_layTries_X6_nearest : GoodIn wsX6_layTries wsX6_nearest := goodIn_r _ [11, 12, 13, 14, 5, 15, 16, 17, 18, 19, 20, 21, 22] (by decide +kernel) (by decide +kernel)
set_option maxRecDepth 20000 in
theorem gX6_layTries_X6_nearest : GoodIn wsX6_layTries (wsV RX6 52 RX6 yX6_nearest wsX6_nearest) := goodIn_app (goodIn_of _ (by decide +kernel)) ggX6_layTries_X6_nearest
theorem dX6_layTries_0 : decode cX6_layTries 0 = .ok (.iconst 0, 1) := by decide +kernel
theorem dX6_layTries_1 : decode cX6_layTries 1 = .ok (.istore_n 3, 1) := by decide +kernel
theorem dX6_layTries_2 : decode cX6_layTries 2 = .ok (.iload_n 3, 1) := by decide +kernel
theorem dX6_layTries_3 : decode cX6_layTries 3 = .ok (.iconst 1, 1) := by decide +kernel
theorem dX6_layTries_4 : decode cX6_layTries 4 = .ok (.iload_n 2, 1) := by decide +kernel
theorem dX6_layTries_5 : decode cX6_layTries 5 = .ok (.ishl, 1) := by decide +kernel
theorem dX6_layTries_6 : decode cX6_layTries 6 = .ok (.if_icmp .ge 57, 3) := by decide +kernel
theorem dX6_layTries_9 : decode cX6_layTries 9 = .ok (.iload_n 1, 1) := by decide +kernel
theorem dX6_layTries_10 : decode cX6_layTries 10 = .ok (.istore 4, 2) := by decide +kernel
theorem dX6_layTries_12 : decode cX6_layTries 12 = .ok (.iconst 0, 1) := by decide +kernel
theorem dX6_layTries_13 : decode cX6_layTries 13 = .ok (.istore 5, 2) := by decide +kernel
theorem dX6_layTries_15 : decode cX6_layTries 15 = .ok (.iload 5, 2) := by decide +kernel
theorem dX6_layTries_17 : decode cX6_layTries 17 = .ok (.iload_n 2, 1) := by decide +kernel
theorem dX6_layTries_18 : decode cX6_layTries 18 = .ok (.if_icmp .ge 27, 3) := by decide +kernel
theorem dX6_layTries_21 : decode cX6_layTries 21 = .ok (.iload 4, 2) := by decide +kernel
theorem dX6_layTries_23 : decode cX6_layTries 23 = .ok (.iload_n 3, 1) := by decide +kernel
theorem dX6_layTries_24 : decode cX6_layTries 24 = .ok (.iload 5, 2) := by decide +kernel
theorem dX6_layTries_26 : decode cX6_layTries 26 = .ok (.ishr, 1) := by decide +kernel
theorem dX6_layTries_27 : decode cX6_layTries 27 = .ok (.iconst 1, 1) := by decide +kernel
theorem dX6_layTries_28 : decode cX6_layTries 28 = .ok (.iand, 1) := by decide +kernel
theorem dX6_layTries_29 : decode cX6_layTries 29 = .ok (.aload_n 0, 1) := by decide +kernel
theorem dX6_layTries_30 : decode cX6_layTries 30 = .ok (.iload 5, 2) := by decide +kernel
theorem dX6_layTries_32 : decode cX6_layTries 32 = .ok (.invokevirtual 106, 3) := by decide +kernel
theorem dX6_layTries_35 : decode cX6_layTries 35 = .ok (.ishl, 1) := by decide +kernel
theorem dX6_layTries_36 : decode cX6_layTries 36 = .ok (.ixor, 1) := by decide +kernel
theorem dX6_layTries_37 : decode cX6_layTries 37 = .ok (.istore 4, 2) := by decide +kernel
theorem dX6_layTries_39 : decode cX6_layTries 39 = .ok (.iinc 5 1, 3) := by decide +kernel
theorem dX6_layTries_42 : decode cX6_layTries 42 = .ok (.goto (-27), 3) := by decide +kernel
theorem dX6_layTries_45 : decode cX6_layTries 45 = .ok (.aload_n 0, 1) := by decide +kernel
theorem dX6_layTries_46 : decode cX6_layTries 46 = .ok (.getfield 23, 3) := by decide +kernel
theorem dX6_layTries_49 : decode cX6_layTries 49 = .ok (.iload_n 3, 1) := by decide +kernel
theorem dX6_layTries_50 : decode cX6_layTries 50 = .ok (.aload_n 0, 1) := by decide +kernel
theorem dX6_layTries_51 : decode cX6_layTries 51 = .ok (.iload 4, 2) := by decide +kernel
theorem dX6_layTries_53 : decode cX6_layTries 53 = .ok (.invokevirtual 52, 3) := by decide +kernel
theorem dX6_layTries_56 : decode cX6_layTries 56 = .ok (.iastore, 1) := by decide +kernel
theorem dX6_layTries_57 : decode cX6_layTries 57 = .ok (.iinc 3 1, 3) := by decide +kernel
theorem dX6_layTries_60 : decode cX6_layTries 60 = .ok (.goto (-58), 3) := by decide +kernel
theorem dX6_layTries_63 : decode cX6_layTries 63 = .ok (.return_, 1) := by decide +kernel
theorem dX6_unlike_0 : decode cX6_unlike 0 = .ok (.iconst 0, 1) := by decide +kernel
theorem dX6_unlike_1 : decode cX6_unlike 1 = .ok (.istore_n 2, 1) := by decide +kernel
theorem dX6_unlike_2 : decode cX6_unlike 2 = .ok (.iconst 0, 1) := by decide +kernel
theorem dX6_unlike_3 : decode cX6_unlike 3 = .ok (.istore_n 3, 1) := by decide +kernel
theorem dX6_unlike_4 : decode cX6_unlike 4 = .ok (.iload_n 3, 1) := by decide +kernel
theorem dX6_unlike_5 : decode cX6_unlike 5 = .ok (.iload_n 1, 1) := by decide +kernel
theorem dX6_unlike_6 : decode cX6_unlike 6 = .ok (.if_icmp .ge 68, 3) := by decide +kernel
theorem dX6_unlike_9 : decode cX6_unlike 9 = .ok (.iconst 1, 1) := by decide +kernel
theorem dX6_unlike_10 : decode cX6_unlike 10 = .ok (.istore 4, 2) := by decide +kernel
theorem dX6_unlike_12 : decode cX6_unlike 12 = .ok (.iconst 0, 1) := by decide +kernel
theorem dX6_unlike_13 : decode cX6_unlike 13 = .ok (.istore 5, 2) := by decide +kernel
theorem dX6_unlike_15 : decode cX6_unlike 15 = .ok (.iload 5, 2) := by decide +kernel
theorem dX6_unlike_17 : decode cX6_unlike 17 = .ok (.iload_n 3, 1) := by decide +kernel
theorem dX6_unlike_18 : decode cX6_unlike 18 = .ok (.if_icmp .ge 37, 3) := by decide +kernel
theorem dX6_unlike_21 : decode cX6_unlike 21 = .ok (.iload 4, 2) := by decide +kernel
theorem dX6_unlike_23 : decode cX6_unlike 23 = .ok (.ifCond .eq 23, 3) := by decide +kernel
theorem dX6_unlike_26 : decode cX6_unlike 26 = .ok (.aload_n 0, 1) := by decide +kernel
theorem dX6_unlike_27 : decode cX6_unlike 27 = .ok (.getfield 23, 3) := by decide +kernel
theorem dX6_unlike_30 : decode cX6_unlike 30 = .ok (.iload 5, 2) := by decide +kernel
theorem dX6_unlike_32 : decode cX6_unlike 32 = .ok (.iaload, 1) := by decide +kernel
theorem dX6_unlike_33 : decode cX6_unlike 33 = .ok (.aload_n 0, 1) := by decide +kernel
theorem dX6_unlike_34 : decode cX6_unlike 34 = .ok (.getfield 23, 3) := by decide +kernel
theorem dX6_unlike_37 : decode cX6_unlike 37 = .ok (.iload_n 3, 1) := by decide +kernel
theorem dX6_unlike_38 : decode cX6_unlike 38 = .ok (.iaload, 1) := by decide +kernel
theorem dX6_unlike_39 : decode cX6_unlike 39 = .ok (.if_icmp .eq 7, 3) := by decide +kernel
theorem dX6_unlike_42 : decode cX6_unlike 42 = .ok (.iconst 1, 1) := by decide +kernel
theorem dX6_unlike_43 : decode cX6_unlike 43 = .ok (.goto 4, 3) := by decide +kernel
theorem dX6_unlike_46 : decode cX6_unlike 46 = .ok (.iconst 0, 1) := by decide +kernel
theorem dX6_unlike_47 : decode cX6_unlike 47 = .ok (.istore 4, 2) := by decide +kernel
theorem dX6_unlike_49 : decode cX6_unlike 49 = .ok (.iinc 5 1, 3) := by decide +kernel
theorem dX6_unlike_52 : decode cX6_unlike 52 = .ok (.goto (-37), 3) := by decide +kernel
theorem dX6_unlike_55 : decode cX6_unlike 55 = .ok (.iload_n 2, 1) := by decide +kernel
theorem dX6_unlike_56 : decode cX6_unlike 56 = .ok (.iload 4, 2) := by decide +kernel
theorem dX6_unlike_58 : decode cX6_unlike 58 = .ok (.ifCond .eq 7, 3) := by decide +kernel
theorem dX6_unlike_61 : decode cX6_unlike 61 = .ok (.iconst 1, 1) := by decide +kernel
theorem dX6_unlike_62 : decode cX6_unlike 62 = .ok (.goto 4, 3) := by decide +kernel
theorem dX6_unlike_65 : decode cX6_unlike 65 = .ok (.iconst 0, 1) := by decide +kernel
theorem dX6_unlike_66 : decode cX6_unlike 66 = .ok (.iadd, 1) := by decide +kernel
theorem dX6_unlike_67 : decode cX6_unlike 67 = .ok (.istore_n 2, 1) := by decide +kernel
theorem dX6_unlike_68 : decode cX6_unlike 68 = .ok (.iinc 3 1, 3) := by decide +kernel
theorem dX6_unlike_71 : decode cX6_unlike 71 = .ok (.goto (-67), 3) := by decide +kernel
theorem dX6_unlike_74 : decode cX6_unlike 74 = .ok (.iload_n 2, 1) := by decide +kernel
theorem dX6_unlike_75 : decode cX6_unlike 75 = .ok (.ireturn, 1) := by decide +kernel
set_option maxRecDepth 20000 in
theorem ggX6_chosen_X6_isWord : GoodIn wsX6_chosen wsX6_isWord := goodIn_r _ [5, 6, 7, 8, 4, 9] (by decide +kernel) (by decide +kernel)
set_option maxRecDepth 20000 in
theorem gX6_chosen_X6_isWord : GoodIn wsX6_chosen (va_wsS RX6 46 yX6_isWord wsX6_isWord) := goodIn_app (goodIn_of _ (by decide +kernel)) ggX6_chosen_X6_isWord
set_option maxRecDepth 20000 in
theorem ggX6_chosen_X6_in : GoodIn wsX6_chosen wsX6_in := goodIn_r _ [9] (by decide +kernel) (by decide +kernel)
set_option maxRecDepth 20000 in
theorem gX6_chosen_X6_in : GoodIn wsX6_chosen (va_wsS RX6 35 yX6_in wsX6_in) := goodIn_app (goodIn_of _ (by decide +kernel)) ggX6_chosen_X6_in
set_option maxRecDepth 20000 in
theorem ggX6_chosen_X6_layTries : GoodIn wsX6_chosen wsX6_layTries := goodIn_r _ [13, 1, 14, 15, 16, 4, 17, 18, 19, 20, 21, 22, 23, 24, 25, 26, 35, 36, 37, 38, 39, 40, 41] (by decide +kernel) (by decide +kernel)
set_option maxRecDepth 20000 in
theorem gX6_chosen_X6_layTries : GoodIn wsX6_chosen (wsV RX6 109 RX6 yX6_layTries wsX6_layTries) := goodIn_app (goodIn_of _ (by decide +kernel)) ggX6_chosen_X6_layTries
set_option maxRecDepth 20000 in
theorem ggX6_chosen_X6_loss : GoodIn wsX6_chosen wsX6_loss := goodIn_r _ [30, 18, 35, 36, 37, 38, 39, 40, 41] (by decide +kernel) (by decide +kernel)
set_option maxRecDepth 20000 in
theorem gX6_chosen_X6_loss : GoodIn wsX6_chosen (wsV RX6 113 RX6 yX6_loss wsX6_loss) := goodIn_app (goodIn_of _ (by decide +kernel)) ggX6_chosen_X6_loss
set_option maxRecDepth 20000 in
theorem ggX6_chosen_X6_unlike : GoodIn wsX6_chosen wsX6_unlike := goodIn_r _ [34, 1, 35, 36, 37, 38, 39, 40, 41] (by decide +kernel) (by decide +kernel)
set_option maxRecDepth 20000 in
theorem gX6_chosen_X6_unlike : GoodIn wsX6_chosen (wsV RX6 116 RX6 yX6_unlike wsX6_unlike) := goodIn_app (goodIn_of _ (by decide +kernel)) ggX6_chosen_X6_unlike
theorem dX6_chosen_0 : decode cX6_chosen 0 = .ok (.iload_n 1, 1) := by decide +kernel
theorem dX6_chosen_1 : decode cX6_chosen 1 = .ok (.invokestatic 46, 3) := by decide +kernel
theorem dX6_chosen_4 : decode cX6_chosen 4 = .ok (.ifCond .eq 21, 3) := by decide +kernel
theorem dX6_chosen_7 : decode cX6_chosen 7 = .ok (.iload_n 2, 1) := by decide +kernel
theorem dX6_chosen_8 : decode cX6_chosen 8 = .ok (.iconst 0, 1) := by decide +kernel
theorem dX6_chosen_9 : decode cX6_chosen 9 = .ok (.iconst 4, 1) := by decide +kernel
theorem dX6_chosen_10 : decode cX6_chosen 10 = .ok (.invokestatic 35, 3) := by decide +kernel
theorem dX6_chosen_13 : decode cX6_chosen 13 = .ok (.ifCond .eq 12, 3) := by decide +kernel
theorem dX6_chosen_16 : decode cX6_chosen 16 = .ok (.iload_n 3, 1) := by decide +kernel
theorem dX6_chosen_17 : decode cX6_chosen 17 = .ok (.iconst 0, 1) := by decide +kernel
theorem dX6_chosen_18 : decode cX6_chosen 18 = .ok (.iconst 3, 1) := by decide +kernel
theorem dX6_chosen_19 : decode cX6_chosen 19 = .ok (.invokestatic 35, 3) := by decide +kernel
theorem dX6_chosen_22 : decode cX6_chosen 22 = .ok (.ifCond .ne 6, 3) := by decide +kernel
theorem dX6_chosen_25 : decode cX6_chosen 25 = .ok (.bipush (-2), 2) := by decide +kernel
theorem dX6_chosen_27 : decode cX6_chosen 27 = .ok (.ireturn, 1) := by decide +kernel
theorem dX6_chosen_28 : decode cX6_chosen 28 = .ok (.aload_n 0, 1) := by decide +kernel
theorem dX6_chosen_29 : decode cX6_chosen 29 = .ok (.iload_n 1, 1) := by decide +kernel
theorem dX6_chosen_30 : decode cX6_chosen 30 = .ok (.iload_n 2, 1) := by decide +kernel
theorem dX6_chosen_31 : decode cX6_chosen 31 = .ok (.invokevirtual 109, 3) := by decide +kernel
theorem dX6_chosen_34 : decode cX6_chosen 34 = .ok (.iconst 0, 1) := by decide +kernel
theorem dX6_chosen_35 : decode cX6_chosen 35 = .ok (.istore 4, 2) := by decide +kernel
theorem dX6_chosen_37 : decode cX6_chosen 37 = .ok (.iconst 1, 1) := by decide +kernel
theorem dX6_chosen_38 : decode cX6_chosen 38 = .ok (.istore 5, 2) := by decide +kernel
theorem dX6_chosen_40 : decode cX6_chosen 40 = .ok (.iload 5, 2) := by decide +kernel
theorem dX6_chosen_42 : decode cX6_chosen 42 = .ok (.iconst 1, 1) := by decide +kernel
theorem dX6_chosen_43 : decode cX6_chosen 43 = .ok (.iload_n 2, 1) := by decide +kernel
theorem dX6_chosen_44 : decode cX6_chosen 44 = .ok (.ishl, 1) := by decide +kernel
theorem dX6_chosen_45 : decode cX6_chosen 45 = .ok (.if_icmp .ge 45, 3) := by decide +kernel
theorem dX6_chosen_48 : decode cX6_chosen 48 = .ok (.aload_n 0, 1) := by decide +kernel
theorem dX6_chosen_49 : decode cX6_chosen 49 = .ok (.aload_n 0, 1) := by decide +kernel
theorem dX6_chosen_50 : decode cX6_chosen 50 = .ok (.getfield 23, 3) := by decide +kernel
theorem dX6_chosen_53 : decode cX6_chosen 53 = .ok (.iload 5, 2) := by decide +kernel
theorem dX6_chosen_55 : decode cX6_chosen 55 = .ok (.iaload, 1) := by decide +kernel
theorem dX6_chosen_56 : decode cX6_chosen 56 = .ok (.iload_n 1, 1) := by decide +kernel
theorem dX6_chosen_57 : decode cX6_chosen 57 = .ok (.invokevirtual 113, 3) := by decide +kernel
theorem dX6_chosen_60 : decode cX6_chosen 60 = .ok (.aload_n 0, 1) := by decide +kernel
theorem dX6_chosen_61 : decode cX6_chosen 61 = .ok (.aload_n 0, 1) := by decide +kernel
theorem dX6_chosen_62 : decode cX6_chosen 62 = .ok (.getfield 23, 3) := by decide +kernel
theorem dX6_chosen_65 : decode cX6_chosen 65 = .ok (.iload 4, 2) := by decide +kernel
theorem dX6_chosen_67 : decode cX6_chosen 67 = .ok (.iaload, 1) := by decide +kernel
theorem dX6_chosen_68 : decode cX6_chosen 68 = .ok (.iload_n 1, 1) := by decide +kernel
theorem dX6_chosen_69 : decode cX6_chosen 69 = .ok (.invokevirtual 113, 3) := by decide +kernel
theorem dX6_chosen_72 : decode cX6_chosen 72 = .ok (.if_icmp .ge 8, 3) := by decide +kernel
theorem dX6_chosen_75 : decode cX6_chosen 75 = .ok (.iload 5, 2) := by decide +kernel
theorem dX6_chosen_77 : decode cX6_chosen 77 = .ok (.goto 5, 3) := by decide +kernel
theorem dX6_chosen_80 : decode cX6_chosen 80 = .ok (.iload 4, 2) := by decide +kernel
theorem dX6_chosen_82 : decode cX6_chosen 82 = .ok (.istore 4, 2) := by decide +kernel
theorem dX6_chosen_84 : decode cX6_chosen 84 = .ok (.iinc 5 1, 3) := by decide +kernel
theorem dX6_chosen_87 : decode cX6_chosen 87 = .ok (.goto (-47), 3) := by decide +kernel
theorem dX6_chosen_90 : decode cX6_chosen 90 = .ok (.iload_n 3, 1) := by decide +kernel
theorem dX6_chosen_91 : decode cX6_chosen 91 = .ok (.ifCond .ne 13, 3) := by decide +kernel
theorem dX6_chosen_94 : decode cX6_chosen 94 = .ok (.aload_n 0, 1) := by decide +kernel
theorem dX6_chosen_95 : decode cX6_chosen 95 = .ok (.getfield 23, 3) := by decide +kernel
theorem dX6_chosen_98 : decode cX6_chosen 98 = .ok (.iload 4, 2) := by decide +kernel
theorem dX6_chosen_100 : decode cX6_chosen 100 = .ok (.iaload, 1) := by decide +kernel
theorem dX6_chosen_101 : decode cX6_chosen 101 = .ok (.goto 40, 3) := by decide +kernel
theorem dX6_chosen_104 : decode cX6_chosen 104 = .ok (.iload_n 3, 1) := by decide +kernel
theorem dX6_chosen_105 : decode cX6_chosen 105 = .ok (.iconst 1, 1) := by decide +kernel
theorem dX6_chosen_106 : decode cX6_chosen 106 = .ok (.if_icmp .ne 18, 3) := by decide +kernel
theorem dX6_chosen_109 : decode cX6_chosen 109 = .ok (.aload_n 0, 1) := by decide +kernel
theorem dX6_chosen_110 : decode cX6_chosen 110 = .ok (.aload_n 0, 1) := by decide +kernel
theorem dX6_chosen_111 : decode cX6_chosen 111 = .ok (.getfield 23, 3) := by decide +kernel
theorem dX6_chosen_114 : decode cX6_chosen 114 = .ok (.iload 4, 2) := by decide +kernel
theorem dX6_chosen_116 : decode cX6_chosen 116 = .ok (.iaload, 1) := by decide +kernel
theorem dX6_chosen_117 : decode cX6_chosen 117 = .ok (.iload_n 1, 1) := by decide +kernel
theorem dX6_chosen_118 : decode cX6_chosen 118 = .ok (.invokevirtual 113, 3) := by decide +kernel
theorem dX6_chosen_121 : decode cX6_chosen 121 = .ok (.goto 20, 3) := by decide +kernel
theorem dX6_chosen_124 : decode cX6_chosen 124 = .ok (.iload_n 3, 1) := by decide +kernel
theorem dX6_chosen_125 : decode cX6_chosen 125 = .ok (.iconst 2, 1) := by decide +kernel
theorem dX6_chosen_126 : decode cX6_chosen 126 = .ok (.if_icmp .ne 8, 3) := by decide +kernel
theorem dX6_chosen_129 : decode cX6_chosen 129 = .ok (.iload 4, 2) := by decide +kernel
theorem dX6_chosen_131 : decode cX6_chosen 131 = .ok (.goto 10, 3) := by decide +kernel
theorem dX6_chosen_134 : decode cX6_chosen 134 = .ok (.aload_n 0, 1) := by decide +kernel
theorem dX6_chosen_135 : decode cX6_chosen 135 = .ok (.iconst 1, 1) := by decide +kernel
theorem dX6_chosen_136 : decode cX6_chosen 136 = .ok (.iload_n 2, 1) := by decide +kernel
theorem dX6_chosen_137 : decode cX6_chosen 137 = .ok (.ishl, 1) := by decide +kernel
theorem dX6_chosen_138 : decode cX6_chosen 138 = .ok (.invokevirtual 116, 3) := by decide +kernel
theorem dX6_chosen_141 : decode cX6_chosen 141 = .ok (.ireturn, 1) := by decide +kernel
set_option maxRecDepth 20000 in
theorem ggX6_image_X6_in : GoodIn wsX6_image wsX6_in := goodIn_r _ [7] (by decide +kernel) (by decide +kernel)
set_option maxRecDepth 20000 in
theorem gX6_image_X6_in : GoodIn wsX6_image (va_wsS RX6 35 yX6_in wsX6_in) := goodIn_app (goodIn_of _ (by decide +kernel)) ggX6_image_X6_in
theorem dX6_image_0 : decode cX6_image 0 = .ok (.iload_n 1, 1) := by decide +kernel
theorem dX6_image_1 : decode cX6_image 1 = .ok (.iconst 0, 1) := by decide +kernel
theorem dX6_image_2 : decode cX6_image 2 = .ok (.iconst 1, 1) := by decide +kernel
theorem dX6_image_3 : decode cX6_image 3 = .ok (.invokestatic 35, 3) := by decide +kernel
theorem dX6_image_6 : decode cX6_image 6 = .ok (.ifCond .ne 6, 3) := by decide +kernel
theorem dX6_image_9 : decode cX6_image 9 = .ok (.bipush (-2), 2) := by decide +kernel
theorem dX6_image_11 : decode cX6_image 11 = .ok (.ireturn, 1) := by decide +kernel
theorem dX6_image_12 : decode cX6_image 12 = .ok (.iconst 0, 1) := by decide +kernel
theorem dX6_image_13 : decode cX6_image 13 = .ok (.istore_n 2, 1) := by decide +kernel
theorem dX6_image_14 : decode cX6_image 14 = .ok (.iload_n 2, 1) := by decide +kernel
theorem dX6_image_15 : decode cX6_image 15 = .ok (.bipush 40, 2) := by decide +kernel
theorem dX6_image_17 : decode cX6_image 17 = .ok (.if_icmp .ge 26, 3) := by decide +kernel
theorem dX6_image_20 : decode cX6_image 20 = .ok (.aload_n 0, 1) := by decide +kernel
theorem dX6_image_21 : decode cX6_image 21 = .ok (.getfield 13, 3) := by decide +kernel
theorem dX6_image_24 : decode cX6_image 24 = .ok (.bipush 40, 2) := by decide +kernel
theorem dX6_image_26 : decode cX6_image 26 = .ok (.iload_n 1, 1) := by decide +kernel
theorem dX6_image_27 : decode cX6_image 27 = .ok (.imul, 1) := by decide +kernel
theorem dX6_image_28 : decode cX6_image 28 = .ok (.iload_n 2, 1) := by decide +kernel
theorem dX6_image_29 : decode cX6_image 29 = .ok (.iadd, 1) := by decide +kernel
theorem dX6_image_30 : decode cX6_image 30 = .ok (.aload_n 0, 1) := by decide +kernel
theorem dX6_image_31 : decode cX6_image 31 = .ok (.getfield 7, 3) := by decide +kernel
theorem dX6_image_34 : decode cX6_image 34 = .ok (.iload_n 2, 1) := by decide +kernel
theorem dX6_image_35 : decode cX6_image 35 = .ok (.iaload, 1) := by decide +kernel
theorem dX6_image_36 : decode cX6_image 36 = .ok (.iastore, 1) := by decide +kernel
theorem dX6_image_37 : decode cX6_image 37 = .ok (.iinc 2 1, 3) := by decide +kernel
theorem dX6_image_40 : decode cX6_image 40 = .ok (.goto (-26), 3) := by decide +kernel
theorem dX6_image_43 : decode cX6_image 43 = .ok (.aload_n 0, 1) := by decide +kernel
theorem dX6_image_44 : decode cX6_image 44 = .ok (.getfield 16, 3) := by decide +kernel
theorem dX6_image_47 : decode cX6_image 47 = .ok (.iload_n 1, 1) := by decide +kernel
theorem dX6_image_48 : decode cX6_image 48 = .ok (.iconst 1, 1) := by decide +kernel
theorem dX6_image_49 : decode cX6_image 49 = .ok (.bastore, 1) := by decide +kernel
theorem dX6_image_50 : decode cX6_image 50 = .ok (.iconst 1, 1) := by decide +kernel
theorem dX6_image_51 : decode cX6_image 51 = .ok (.ireturn, 1) := by decide +kernel
set_option maxRecDepth 20000 in
theorem ggX6_restore_X6_in : GoodIn wsX6_restore wsX6_in := goodIn_r _ [7] (by decide +kernel) (by decide +kernel)
set_option maxRecDepth 20000 in
theorem gX6_restore_X6_in : GoodIn wsX6_restore (va_wsS RX6 35 yX6_in wsX6_in) := goodIn_app (goodIn_of _ (by decide +kernel)) ggX6_restore_X6_in
theorem dX6_restore_0 : decode cX6_restore 0 = .ok (.iload_n 1, 1) := by decide +kernel
theorem dX6_restore_1 : decode cX6_restore 1 = .ok (.iconst 0, 1) := by decide +kernel
theorem dX6_restore_2 : decode cX6_restore 2 = .ok (.iconst 1, 1) := by decide +kernel
theorem dX6_restore_3 : decode cX6_restore 3 = .ok (.invokestatic 35, 3) := by decide +kernel
theorem dX6_restore_6 : decode cX6_restore 6 = .ok (.ifCond .ne 6, 3) := by decide +kernel
theorem dX6_restore_9 : decode cX6_restore 9 = .ok (.bipush (-2), 2) := by decide +kernel
theorem dX6_restore_11 : decode cX6_restore 11 = .ok (.ireturn, 1) := by decide +kernel
theorem dX6_restore_12 : decode cX6_restore 12 = .ok (.aload_n 0, 1) := by decide +kernel
theorem dX6_restore_13 : decode cX6_restore 13 = .ok (.getfield 16, 3) := by decide +kernel
theorem dX6_restore_16 : decode cX6_restore 16 = .ok (.iload_n 1, 1) := by decide +kernel
theorem dX6_restore_17 : decode cX6_restore 17 = .ok (.baload, 1) := by decide +kernel
theorem dX6_restore_18 : decode cX6_restore 18 = .ok (.ifCond .ne 6, 3) := by decide +kernel
theorem dX6_restore_21 : decode cX6_restore 21 = .ok (.bipush (-3), 2) := by decide +kernel
theorem dX6_restore_23 : decode cX6_restore 23 = .ok (.ireturn, 1) := by decide +kernel
theorem dX6_restore_24 : decode cX6_restore 24 = .ok (.iconst 0, 1) := by decide +kernel
theorem dX6_restore_25 : decode cX6_restore 25 = .ok (.istore_n 2, 1) := by decide +kernel
theorem dX6_restore_26 : decode cX6_restore 26 = .ok (.iload_n 2, 1) := by decide +kernel
theorem dX6_restore_27 : decode cX6_restore 27 = .ok (.bipush 40, 2) := by decide +kernel
theorem dX6_restore_29 : decode cX6_restore 29 = .ok (.if_icmp .ge 26, 3) := by decide +kernel
theorem dX6_restore_32 : decode cX6_restore 32 = .ok (.aload_n 0, 1) := by decide +kernel
theorem dX6_restore_33 : decode cX6_restore 33 = .ok (.getfield 7, 3) := by decide +kernel
theorem dX6_restore_36 : decode cX6_restore 36 = .ok (.iload_n 2, 1) := by decide +kernel
theorem dX6_restore_37 : decode cX6_restore 37 = .ok (.aload_n 0, 1) := by decide +kernel
theorem dX6_restore_38 : decode cX6_restore 38 = .ok (.getfield 13, 3) := by decide +kernel
theorem dX6_restore_41 : decode cX6_restore 41 = .ok (.bipush 40, 2) := by decide +kernel
theorem dX6_restore_43 : decode cX6_restore 43 = .ok (.iload_n 1, 1) := by decide +kernel
theorem dX6_restore_44 : decode cX6_restore 44 = .ok (.imul, 1) := by decide +kernel
theorem dX6_restore_45 : decode cX6_restore 45 = .ok (.iload_n 2, 1) := by decide +kernel
theorem dX6_restore_46 : decode cX6_restore 46 = .ok (.iadd, 1) := by decide +kernel
theorem dX6_restore_47 : decode cX6_restore 47 = .ok (.iaload, 1) := by decide +kernel
theorem dX6_restore_48 : decode cX6_restore 48 = .ok (.iastore, 1) := by decide +kernel
theorem dX6_restore_49 : decode cX6_restore 49 = .ok (.iinc 2 1, 3) := by decide +kernel
theorem dX6_restore_52 : decode cX6_restore 52 = .ok (.goto (-26), 3) := by decide +kernel
theorem dX6_restore_55 : decode cX6_restore 55 = .ok (.iconst 1, 1) := by decide +kernel
theorem dX6_restore_56 : decode cX6_restore 56 = .ok (.ireturn, 1) := by decide +kernel
theorem dX6_sureOfAll_0 : decode cX6_sureOfAll 0 = .ok (.iconst 0, 1) := by decide +kernel
theorem dX6_sureOfAll_1 : decode cX6_sureOfAll 1 = .ok (.istore_n 1, 1) := by decide +kernel
theorem dX6_sureOfAll_2 : decode cX6_sureOfAll 2 = .ok (.iconst 0, 1) := by decide +kernel
theorem dX6_sureOfAll_3 : decode cX6_sureOfAll 3 = .ok (.istore_n 2, 1) := by decide +kernel
theorem dX6_sureOfAll_4 : decode cX6_sureOfAll 4 = .ok (.iload_n 2, 1) := by decide +kernel
theorem dX6_sureOfAll_5 : decode cX6_sureOfAll 5 = .ok (.bipush 23, 2) := by decide +kernel
theorem dX6_sureOfAll_7 : decode cX6_sureOfAll 7 = .ok (.if_icmp .ge 21, 3) := by decide +kernel
theorem dX6_sureOfAll_10 : decode cX6_sureOfAll 10 = .ok (.iload_n 1, 1) := by decide +kernel
theorem dX6_sureOfAll_11 : decode cX6_sureOfAll 11 = .ok (.aload_n 0, 1) := by decide +kernel
theorem dX6_sureOfAll_12 : decode cX6_sureOfAll 12 = .ok (.getfield 7, 3) := by decide +kernel
theorem dX6_sureOfAll_15 : decode cX6_sureOfAll 15 = .ok (.bipush 17, 2) := by decide +kernel
theorem dX6_sureOfAll_17 : decode cX6_sureOfAll 17 = .ok (.iload_n 2, 1) := by decide +kernel
theorem dX6_sureOfAll_18 : decode cX6_sureOfAll 18 = .ok (.iadd, 1) := by decide +kernel
theorem dX6_sureOfAll_19 : decode cX6_sureOfAll 19 = .ok (.iaload, 1) := by decide +kernel
theorem dX6_sureOfAll_20 : decode cX6_sureOfAll 20 = .ok (.iadd, 1) := by decide +kernel
end
section
theorem dX6_sureOfAll_21 : decode cX6_sureOfAll 21 = .ok (.istore_n 1, 1) := by decide +kernel
theorem dX6_sureOfAll_22 : decode cX6_sureOfAll 22 = .ok (.iinc 2 1, 3) := by decide +kernel
theorem dX6_sureOfAll_25 : decode cX6_sureOfAll 25 = .ok (.goto (-21), 3) := by decide +kernel
theorem dX6_sureOfAll_28 : decode cX6_sureOfAll 28 = .ok (.iload_n 1, 1) := by decide +kernel
theorem dX6_sureOfAll_29 : decode cX6_sureOfAll 29 = .ok (.ireturn, 1) := by decide +kernel
set_option maxRecDepth 20000 in
theorem ggX6_ofWeight_X6_madeOf : GoodIn wsX6_ofWeight wsX6_madeOf := goodIn_r _ [4, 5, 6, 3, 7] (by decide +kernel) (by decide +kernel)
set_option maxRecDepth 20000 in
theorem gX6_ofWeight_X6_madeOf : GoodIn wsX6_ofWeight (va_wsS RX6 43 yX6_madeOf wsX6_madeOf) := goodIn_app (goodIn_of _ (by decide +kernel)) ggX6_ofWeight_X6_madeOf
set_option maxRecDepth 20000 in
theorem ggX6_ofWeight_X6_weight : GoodIn wsX6_ofWeight wsX6_weight := goodIn_r _ [10] (by decide +kernel) (by decide +kernel)
set_option maxRecDepth 20000 in
theorem gX6_ofWeight_X6_weight : GoodIn wsX6_ofWeight (va_wsS RX6 49 yX6_weight wsX6_weight) := goodIn_app (goodIn_of _ (by decide +kernel)) ggX6_ofWeight_X6_weight
theorem dX6_ofWeight_0 : decode cX6_ofWeight 0 = .ok (.iconst 0, 1) := by decide +kernel
theorem dX6_ofWeight_1 : decode cX6_ofWeight 1 = .ok (.istore_n 1, 1) := by decide +kernel
theorem dX6_ofWeight_2 : decode cX6_ofWeight 2 = .ok (.iconst 0, 1) := by decide +kernel
theorem dX6_ofWeight_3 : decode cX6_ofWeight 3 = .ok (.istore_n 2, 1) := by decide +kernel
theorem dX6_ofWeight_4 : decode cX6_ofWeight 4 = .ok (.iload_n 2, 1) := by decide +kernel
theorem dX6_ofWeight_5 : decode cX6_ofWeight 5 = .ok (.sipush 4096, 3) := by decide +kernel
theorem dX6_ofWeight_8 : decode cX6_ofWeight 8 = .ok (.if_icmp .ge 28, 3) := by decide +kernel
theorem dX6_ofWeight_11 : decode cX6_ofWeight 11 = .ok (.iload_n 1, 1) := by decide +kernel
theorem dX6_ofWeight_12 : decode cX6_ofWeight 12 = .ok (.iload_n 2, 1) := by decide +kernel
theorem dX6_ofWeight_13 : decode cX6_ofWeight 13 = .ok (.invokestatic 43, 3) := by decide +kernel
theorem dX6_ofWeight_16 : decode cX6_ofWeight 16 = .ok (.invokestatic 49, 3) := by decide +kernel
theorem dX6_ofWeight_19 : decode cX6_ofWeight 19 = .ok (.iload_n 0, 1) := by decide +kernel
theorem dX6_ofWeight_20 : decode cX6_ofWeight 20 = .ok (.if_icmp .ne 7, 3) := by decide +kernel
theorem dX6_ofWeight_23 : decode cX6_ofWeight 23 = .ok (.iconst 1, 1) := by decide +kernel
theorem dX6_ofWeight_24 : decode cX6_ofWeight 24 = .ok (.goto 4, 3) := by decide +kernel
theorem dX6_ofWeight_27 : decode cX6_ofWeight 27 = .ok (.iconst 0, 1) := by decide +kernel
theorem dX6_ofWeight_28 : decode cX6_ofWeight 28 = .ok (.iadd, 1) := by decide +kernel
theorem dX6_ofWeight_29 : decode cX6_ofWeight 29 = .ok (.istore_n 1, 1) := by decide +kernel
theorem dX6_ofWeight_30 : decode cX6_ofWeight 30 = .ok (.iinc 2 1, 3) := by decide +kernel
theorem dX6_ofWeight_33 : decode cX6_ofWeight 33 = .ok (.goto (-29), 3) := by decide +kernel
theorem dX6_ofWeight_36 : decode cX6_ofWeight 36 = .ok (.iload_n 1, 1) := by decide +kernel
theorem dX6_ofWeight_37 : decode cX6_ofWeight 37 = .ok (.ireturn, 1) := by decide +kernel
set_option maxRecDepth 20000 in
theorem ggX6_count_X6_in : GoodIn wsX6_count wsX6_in := goodIn_r _ [6] (by decide +kernel) (by decide +kernel)
set_option maxRecDepth 20000 in
theorem gX6_count_X6_in : GoodIn wsX6_count (va_wsS RX6 35 yX6_in wsX6_in) := goodIn_app (goodIn_of _ (by decide +kernel)) ggX6_count_X6_in
set_option maxRecDepth 20000 in
theorem ggX6_count_X6_ofWeight : GoodIn wsX6_count wsX6_ofWeight := goodIn_r _ [9, 10, 11, 5, 12, 13, 14, 15, 16, 17, 18] (by decide +kernel) (by decide +kernel)
set_option maxRecDepth 20000 in
theorem gX6_count_X6_ofWeight : GoodIn wsX6_count (va_wsS RX6 119 yX6_ofWeight wsX6_ofWeight) := goodIn_app (goodIn_of _ (by decide +kernel)) ggX6_count_X6_ofWeight
set_option maxRecDepth 20000 in
theorem ggX6_count_X6_sureOfAll : GoodIn wsX6_count wsX6_sureOfAll := goodIn_r _ [22, 1, 23, 24, 25, 26, 27, 28, 29] (by decide +kernel) (by decide +kernel)
set_option maxRecDepth 20000 in
theorem gX6_count_X6_sureOfAll : GoodIn wsX6_count (wsV RX6 122 RX6 yX6_sureOfAll wsX6_sureOfAll) := goodIn_app (goodIn_of _ (by decide +kernel)) ggX6_count_X6_sureOfAll
theorem dX6_count_0 : decode cX6_count 0 = .ok (.iload_n 1, 1) := by decide +kernel
theorem dX6_count_1 : decode cX6_count 1 = .ok (.bipush 10, 2) := by decide +kernel
theorem dX6_count_3 : decode cX6_count 3 = .ok (.bipush 33, 2) := by decide +kernel
theorem dX6_count_5 : decode cX6_count 5 = .ok (.invokestatic 35, 3) := by decide +kernel
theorem dX6_count_8 : decode cX6_count 8 = .ok (.ifCond .eq 11, 3) := by decide +kernel
theorem dX6_count_11 : decode cX6_count 11 = .ok (.iload_n 1, 1) := by decide +kernel
theorem dX6_count_12 : decode cX6_count 12 = .ok (.bipush 10, 2) := by decide +kernel
theorem dX6_count_14 : decode cX6_count 14 = .ok (.isub, 1) := by decide +kernel
theorem dX6_count_15 : decode cX6_count 15 = .ok (.invokestatic 119, 3) := by decide +kernel
theorem dX6_count_18 : decode cX6_count 18 = .ok (.ireturn, 1) := by decide +kernel
theorem dX6_count_19 : decode cX6_count 19 = .ok (.iload_n 1, 1) := by decide +kernel
theorem dX6_count_20 : decode cX6_count 20 = .ok (.bipush 40, 2) := by decide +kernel
theorem dX6_count_22 : decode cX6_count 22 = .ok (.bipush 62, 2) := by decide +kernel
theorem dX6_count_24 : decode cX6_count 24 = .ok (.invokestatic 35, 3) := by decide +kernel
theorem dX6_count_27 : decode cX6_count 27 = .ok (.ifCond .eq 16, 3) := by decide +kernel
theorem dX6_count_30 : decode cX6_count 30 = .ok (.aload_n 0, 1) := by decide +kernel
theorem dX6_count_31 : decode cX6_count 31 = .ok (.getfield 7, 3) := by decide +kernel
theorem dX6_count_34 : decode cX6_count 34 = .ok (.bipush 17, 2) := by decide +kernel
theorem dX6_count_36 : decode cX6_count 36 = .ok (.iload_n 1, 1) := by decide +kernel
theorem dX6_count_37 : decode cX6_count 37 = .ok (.iadd, 1) := by decide +kernel
theorem dX6_count_38 : decode cX6_count 38 = .ok (.bipush 40, 2) := by decide +kernel
theorem dX6_count_40 : decode cX6_count 40 = .ok (.isub, 1) := by decide +kernel
theorem dX6_count_41 : decode cX6_count 41 = .ok (.iaload, 1) := by decide +kernel
theorem dX6_count_42 : decode cX6_count 42 = .ok (.ireturn, 1) := by decide +kernel
theorem dX6_count_43 : decode cX6_count 43 = .ok (.iload_n 1, 1) := by decide +kernel
theorem dX6_count_44 : decode cX6_count 44 = .ok (.tableswitch 70 0 2 #[28, 35, 40], 28) := by decide +kernel
theorem dX6_count_72 : decode cX6_count 72 = .ok (.aload_n 0, 1) := by decide +kernel
theorem dX6_count_73 : decode cX6_count 73 = .ok (.getfield 7, 3) := by decide +kernel
theorem dX6_count_76 : decode cX6_count 76 = .ok (.iconst 0, 1) := by decide +kernel
theorem dX6_count_77 : decode cX6_count 77 = .ok (.iaload, 1) := by decide +kernel
theorem dX6_count_78 : decode cX6_count 78 = .ok (.ireturn, 1) := by decide +kernel
theorem dX6_count_79 : decode cX6_count 79 = .ok (.aload_n 0, 1) := by decide +kernel
theorem dX6_count_80 : decode cX6_count 80 = .ok (.invokevirtual 122, 3) := by decide +kernel
theorem dX6_count_83 : decode cX6_count 83 = .ok (.ireturn, 1) := by decide +kernel
theorem dX6_count_84 : decode cX6_count 84 = .ok (.aload_n 0, 1) := by decide +kernel
theorem dX6_count_85 : decode cX6_count 85 = .ok (.getfield 16, 3) := by decide +kernel
theorem dX6_count_88 : decode cX6_count 88 = .ok (.iconst 0, 1) := by decide +kernel
theorem dX6_count_89 : decode cX6_count 89 = .ok (.baload, 1) := by decide +kernel
theorem dX6_count_90 : decode cX6_count 90 = .ok (.ifCond .eq 7, 3) := by decide +kernel
theorem dX6_count_93 : decode cX6_count 93 = .ok (.iconst 1, 1) := by decide +kernel
theorem dX6_count_94 : decode cX6_count 94 = .ok (.goto 4, 3) := by decide +kernel
theorem dX6_count_97 : decode cX6_count 97 = .ok (.iconst 0, 1) := by decide +kernel
theorem dX6_count_98 : decode cX6_count 98 = .ok (.aload_n 0, 1) := by decide +kernel
theorem dX6_count_99 : decode cX6_count 99 = .ok (.getfield 16, 3) := by decide +kernel
theorem dX6_count_102 : decode cX6_count 102 = .ok (.iconst 1, 1) := by decide +kernel
theorem dX6_count_103 : decode cX6_count 103 = .ok (.baload, 1) := by decide +kernel
theorem dX6_count_104 : decode cX6_count 104 = .ok (.ifCond .eq 7, 3) := by decide +kernel
theorem dX6_count_107 : decode cX6_count 107 = .ok (.iconst 2, 1) := by decide +kernel
theorem dX6_count_108 : decode cX6_count 108 = .ok (.goto 4, 3) := by decide +kernel
theorem dX6_count_111 : decode cX6_count 111 = .ok (.iconst 0, 1) := by decide +kernel
theorem dX6_count_112 : decode cX6_count 112 = .ok (.iadd, 1) := by decide +kernel
theorem dX6_count_113 : decode cX6_count 113 = .ok (.ireturn, 1) := by decide +kernel
theorem dX6_count_114 : decode cX6_count 114 = .ok (.bipush (-2), 2) := by decide +kernel
theorem dX6_count_116 : decode cX6_count 116 = .ok (.ireturn, 1) := by decide +kernel
theorem dJ6_bitCount_0f7a4_0 : decode cJ6_bitCount_0f7a4 0 = .ok (.iload_n 0, 1) := by decide +kernel
theorem dJ6_bitCount_0f7a4_1 : decode cJ6_bitCount_0f7a4 1 = .ok (.iload_n 0, 1) := by decide +kernel
theorem dJ6_bitCount_0f7a4_2 : decode cJ6_bitCount_0f7a4 2 = .ok (.iconst 1, 1) := by decide +kernel
theorem dJ6_bitCount_0f7a4_3 : decode cJ6_bitCount_0f7a4 3 = .ok (.iushr, 1) := by decide +kernel
theorem dJ6_bitCount_0f7a4_4 : decode cJ6_bitCount_0f7a4 4 = .ok (.ldc_w 265, 3) := by decide +kernel
theorem dJ6_bitCount_0f7a4_7 : decode cJ6_bitCount_0f7a4 7 = .ok (.iand, 1) := by decide +kernel
theorem dJ6_bitCount_0f7a4_8 : decode cJ6_bitCount_0f7a4 8 = .ok (.isub, 1) := by decide +kernel
theorem dJ6_bitCount_0f7a4_9 : decode cJ6_bitCount_0f7a4 9 = .ok (.istore_n 0, 1) := by decide +kernel
theorem dJ6_bitCount_0f7a4_10 : decode cJ6_bitCount_0f7a4 10 = .ok (.iload_n 0, 1) := by decide +kernel
theorem dJ6_bitCount_0f7a4_11 : decode cJ6_bitCount_0f7a4 11 = .ok (.ldc_w 266, 3) := by decide +kernel
theorem dJ6_bitCount_0f7a4_14 : decode cJ6_bitCount_0f7a4 14 = .ok (.iand, 1) := by decide +kernel
theorem dJ6_bitCount_0f7a4_15 : decode cJ6_bitCount_0f7a4 15 = .ok (.iload_n 0, 1) := by decide +kernel
theorem dJ6_bitCount_0f7a4_16 : decode cJ6_bitCount_0f7a4 16 = .ok (.iconst 2, 1) := by decide +kernel
theorem dJ6_bitCount_0f7a4_17 : decode cJ6_bitCount_0f7a4 17 = .ok (.iushr, 1) := by decide +kernel
theorem dJ6_bitCount_0f7a4_18 : decode cJ6_bitCount_0f7a4 18 = .ok (.ldc_w 266, 3) := by decide +kernel
theorem dJ6_bitCount_0f7a4_21 : decode cJ6_bitCount_0f7a4 21 = .ok (.iand, 1) := by decide +kernel
theorem dJ6_bitCount_0f7a4_22 : decode cJ6_bitCount_0f7a4 22 = .ok (.iadd, 1) := by decide +kernel
theorem dJ6_bitCount_0f7a4_23 : decode cJ6_bitCount_0f7a4 23 = .ok (.istore_n 0, 1) := by decide +kernel
theorem dJ6_bitCount_0f7a4_24 : decode cJ6_bitCount_0f7a4 24 = .ok (.iload_n 0, 1) := by decide +kernel
theorem dJ6_bitCount_0f7a4_25 : decode cJ6_bitCount_0f7a4 25 = .ok (.iload_n 0, 1) := by decide +kernel
theorem dJ6_bitCount_0f7a4_26 : decode cJ6_bitCount_0f7a4 26 = .ok (.iconst 4, 1) := by decide +kernel
theorem dJ6_bitCount_0f7a4_27 : decode cJ6_bitCount_0f7a4 27 = .ok (.iushr, 1) := by decide +kernel
theorem dJ6_bitCount_0f7a4_28 : decode cJ6_bitCount_0f7a4 28 = .ok (.iadd, 1) := by decide +kernel
theorem dJ6_bitCount_0f7a4_29 : decode cJ6_bitCount_0f7a4 29 = .ok (.ldc_w 267, 3) := by decide +kernel
theorem dJ6_bitCount_0f7a4_32 : decode cJ6_bitCount_0f7a4 32 = .ok (.iand, 1) := by decide +kernel
theorem dJ6_bitCount_0f7a4_33 : decode cJ6_bitCount_0f7a4 33 = .ok (.istore_n 0, 1) := by decide +kernel
theorem dJ6_bitCount_0f7a4_34 : decode cJ6_bitCount_0f7a4 34 = .ok (.iload_n 0, 1) := by decide +kernel
theorem dJ6_bitCount_0f7a4_35 : decode cJ6_bitCount_0f7a4 35 = .ok (.iload_n 0, 1) := by decide +kernel
theorem dJ6_bitCount_0f7a4_36 : decode cJ6_bitCount_0f7a4 36 = .ok (.bipush 8, 2) := by decide +kernel
theorem dJ6_bitCount_0f7a4_38 : decode cJ6_bitCount_0f7a4 38 = .ok (.iushr, 1) := by decide +kernel
theorem dJ6_bitCount_0f7a4_39 : decode cJ6_bitCount_0f7a4 39 = .ok (.iadd, 1) := by decide +kernel
theorem dJ6_bitCount_0f7a4_40 : decode cJ6_bitCount_0f7a4 40 = .ok (.istore_n 0, 1) := by decide +kernel
theorem dJ6_bitCount_0f7a4_41 : decode cJ6_bitCount_0f7a4 41 = .ok (.iload_n 0, 1) := by decide +kernel
theorem dJ6_bitCount_0f7a4_42 : decode cJ6_bitCount_0f7a4 42 = .ok (.iload_n 0, 1) := by decide +kernel
theorem dJ6_bitCount_0f7a4_43 : decode cJ6_bitCount_0f7a4 43 = .ok (.bipush 16, 2) := by decide +kernel
theorem dJ6_bitCount_0f7a4_45 : decode cJ6_bitCount_0f7a4 45 = .ok (.iushr, 1) := by decide +kernel
theorem dJ6_bitCount_0f7a4_46 : decode cJ6_bitCount_0f7a4 46 = .ok (.iadd, 1) := by decide +kernel
theorem dJ6_bitCount_0f7a4_47 : decode cJ6_bitCount_0f7a4 47 = .ok (.istore_n 0, 1) := by decide +kernel
theorem dJ6_bitCount_0f7a4_48 : decode cJ6_bitCount_0f7a4 48 = .ok (.iload_n 0, 1) := by decide +kernel
theorem dJ6_bitCount_0f7a4_49 : decode cJ6_bitCount_0f7a4 49 = .ok (.bipush 63, 2) := by decide +kernel
theorem dJ6_bitCount_0f7a4_51 : decode cJ6_bitCount_0f7a4 51 = .ok (.iand, 1) := by decide +kernel
theorem dJ6_bitCount_0f7a4_52 : decode cJ6_bitCount_0f7a4 52 = .ok (.ireturn, 1) := by decide +kernel
set_option maxRecDepth 20000 in
theorem ggL_law_X5_init : GoodIn wsL_law wsX5_init := goodIn_r _ [8, 9, 10, 11, 12, 13, 14, 15, 16, 17, 18, 19, 20, 21, 22, 23, 24, 25, 26, 27, 28, 29, 30, 31, 32, 33, 34, 35, 2, 36, 37, 38, 39, 40, 41, 42, 43, 44, 45, 46, 47, 48, 49, 50, 51, 52, 53, 54, 55, 56, 57, 58, 451, 439, 440, 441, 442, 443, 452, 453, 454, 455, 456, 457, 458] (by decide +kernel) (by decide +kernel)
set_option maxRecDepth 20000 in
theorem gL_law_X5_init : GoodIn wsL_law (wsX5_init) := ggL_law_X5_init
set_option maxRecDepth 20000 in
theorem ggL_law_X6_init : GoodIn wsL_law wsX6_init := goodIn_r _ [61, 62, 10, 11, 22, 63, 64, 65, 66, 67, 68, 69, 70, 71, 5, 72, 73, 74, 75, 444, 445, 446, 447, 448, 449, 450] (by decide +kernel) (by decide +kernel)
set_option maxRecDepth 20000 in
theorem gL_law_X6_init : GoodIn wsL_law (wsX6_init) := ggL_law_X6_init
set_option maxRecDepth 20000 in
theorem ggL_law_X5_made : GoodIn wsL_law wsX5_made := goodIn_r _ [79, 80, 35, 2, 36, 81, 29, 82, 83, 28, 30] (by decide +kernel) (by decide +kernel)
set_option maxRecDepth 20000 in
theorem gL_law_X5_made : GoodIn wsL_law (wsV RL 13 RX5 yX5_made wsX5_made) := goodIn_app (goodIn_of _ (by decide +kernel)) ggL_law_X5_made
set_option maxRecDepth 20000 in
theorem ggL_law_X6_made : GoodIn wsL_law wsX6_made := goodIn_r _ [87, 88, 89, 5, 90, 91, 92, 93, 94, 95, 96, 73, 74, 75] (by decide +kernel) (by decide +kernel)
set_option maxRecDepth 20000 in
theorem gL_law_X6_made : GoodIn wsL_law (wsV RL 17 RX6 yX6_made wsX6_made) := goodIn_app (goodIn_of _ (by decide +kernel)) ggL_law_X6_made
set_option maxRecDepth 20000 in
theorem ggL_law_X5_rest : GoodIn wsL_law wsX5_rest := goodIn_r _ [100, 101, 80, 35, 2, 36, 28, 29, 30] (by decide +kernel) (by decide +kernel)
set_option maxRecDepth 20000 in
theorem gL_law_X5_rest : GoodIn wsL_law (wsV RL 18 RX5 yX5_rest wsX5_rest) := goodIn_app (goodIn_of _ (by decide +kernel)) ggL_law_X5_rest
set_option maxRecDepth 20000 in
theorem ggL_law_X6_rest : GoodIn wsL_law wsX6_rest := goodIn_r _ [105, 106, 107, 5, 108, 109, 91, 92, 93, 73, 74, 75] (by decide +kernel) (by decide +kernel)
set_option maxRecDepth 20000 in
theorem gL_law_X6_rest : GoodIn wsL_law (wsV RL 21 RX6 yX6_rest wsX6_rest) := goodIn_app (goodIn_of _ (by decide +kernel)) ggL_law_X6_rest
set_option maxRecDepth 20000 in
theorem ggL_law_X5_of : GoodIn wsL_law wsX5_of := goodIn_r _ [113, 101, 15, 80, 35, 2, 36, 114, 115, 116, 117, 118, 119, 120, 121, 14, 122, 123, 124, 125, 126, 127, 27, 28, 29, 30, 128, 129, 130, 131, 132, 133, 439, 440, 441, 442, 443, 451] (by decide +kernel) (by decide +kernel)
set_option maxRecDepth 20000 in
theorem gL_law_X5_of : GoodIn wsL_law (wsV RL 22 RX5 yX5_of wsX5_of) := goodIn_app (goodIn_of _ (by decide +kernel)) ggL_law_X5_of
set_option maxRecDepth 20000 in
theorem ggL_law_X6_of : GoodIn wsL_law wsX6_of := goodIn_r _ [137, 67, 106, 107, 5, 108, 109, 91, 92, 93, 138, 139, 140, 141, 142, 143, 144, 73, 74, 75, 444, 445, 446, 447, 448, 449, 450] (by decide +kernel) (by decide +kernel)
set_option maxRecDepth 20000 in
theorem gL_law_X6_of : GoodIn wsL_law (wsV RL 26 RX6 yX6_of wsX6_of) := goodIn_app (goodIn_of _ (by decide +kernel)) ggL_law_X6_of
set_option maxRecDepth 20000 in
theorem ggL_law_X5_around : GoodIn wsL_law wsX5_around := goodIn_r _ [148, 101, 15, 80, 35, 2, 36, 128, 14, 129, 130, 124, 125, 126, 127, 27, 28, 29, 30, 131, 115, 116, 117, 118, 119, 120, 149, 150, 151, 152, 439, 440, 441, 442, 443, 451] (by decide +kernel) (by decide +kernel)
set_option maxRecDepth 20000 in
theorem gL_law_X5_around : GoodIn wsL_law (wsV RL 27 RX5 yX5_around wsX5_around) := goodIn_app (goodIn_of _ (by decide +kernel)) ggL_law_X5_around
set_option maxRecDepth 20000 in
theorem ggL_law_X6_around : GoodIn wsL_law wsX6_around := goodIn_r _ [156, 106, 107, 5, 108, 109, 91, 92, 93, 94, 95, 96, 73, 74, 75, 138, 139, 140] (by decide +kernel) (by decide +kernel)
set_option maxRecDepth 20000 in
theorem gL_law_X6_around : GoodIn wsL_law (wsV RL 30 RX6 yX6_around wsX6_around) := goodIn_app (goodIn_of _ (by decide +kernel)) ggL_law_X6_around
set_option maxRecDepth 20000 in
theorem ggL_law_X5_turned : GoodIn wsL_law wsX5_turned := goodIn_r _ [160, 101, 80, 35, 2, 36, 161, 29, 162, 163] (by decide +kernel) (by decide +kernel)
set_option maxRecDepth 20000 in
theorem gL_law_X5_turned : GoodIn wsL_law (wsV RL 31 RX5 yX5_turned wsX5_turned) := goodIn_app (goodIn_of _ (by decide +kernel)) ggL_law_X5_turned
set_option maxRecDepth 20000 in
theorem ggL_law_X6_turned : GoodIn wsL_law wsX6_turned := goodIn_r _ [167, 106, 107, 5, 108, 109, 91, 92, 93, 168, 169, 170] (by decide +kernel) (by decide +kernel)
set_option maxRecDepth 20000 in
theorem gL_law_X6_turned : GoodIn wsL_law (wsV RL 34 RX6 yX6_turned wsX6_turned) := goodIn_app (goodIn_of _ (by decide +kernel)) ggL_law_X6_turned
set_option maxRecDepth 20000 in
theorem ggL_law_X5_trapped : GoodIn wsL_law wsX5_trapped := goodIn_r _ [174, 101, 80, 35, 2, 36, 161, 29, 162, 163, 175, 176, 177, 178, 83, 28, 30, 179, 115, 116, 117, 118, 119, 120, 180, 181, 182] (by decide +kernel) (by decide +kernel)
set_option maxRecDepth 20000 in
theorem gL_law_X5_trapped : GoodIn wsL_law (wsV RL 35 RX5 yX5_trapped wsX5_trapped) := goodIn_app (goodIn_of _ (by decide +kernel)) ggL_law_X5_trapped
set_option maxRecDepth 20000 in
theorem ggL_law_X6_trapped : GoodIn wsL_law wsX6_trapped := goodIn_r _ [186, 106, 107, 5, 108, 109, 91, 92, 93, 168, 169, 170, 187, 188, 189, 73, 74, 75, 138, 139, 140] (by decide +kernel) (by decide +kernel)
set_option maxRecDepth 20000 in
theorem gL_law_X6_trapped : GoodIn wsL_law (wsV RL 38 RX6 yX6_trapped wsX6_trapped) := goodIn_app (goodIn_of _ (by decide +kernel)) ggL_law_X6_trapped
set_option maxRecDepth 20000 in
theorem ggL_law_X5_wide : GoodIn wsL_law wsX5_wide := goodIn_r _ [193, 80, 35, 2, 36, 81, 29, 82, 83, 28, 30, 194, 195, 179, 115, 116, 117, 118, 119, 120] (by decide +kernel) (by decide +kernel)
set_option maxRecDepth 20000 in
theorem gL_law_X5_wide : GoodIn wsL_law (wsV RL 39 RX5 yX5_wide wsX5_wide) := goodIn_app (goodIn_of _ (by decide +kernel)) ggL_law_X5_wide
set_option maxRecDepth 20000 in
theorem ggL_law_X6_wide : GoodIn wsL_law wsX6_wide := goodIn_r _ [199, 88, 89, 5, 90, 91, 92, 93, 94, 95, 96, 73, 74, 75, 200, 201, 202, 138, 139, 140] (by decide +kernel) (by decide +kernel)
set_option maxRecDepth 20000 in
theorem gL_law_X6_wide : GoodIn wsL_law (wsV RL 42 RX6 yX6_wide wsX6_wide) := goodIn_app (goodIn_of _ (by decide +kernel)) ggL_law_X6_wide
set_option maxRecDepth 20000 in
theorem ggL_law_X5_read : GoodIn wsL_law wsX5_read := goodIn_r _ [206, 207, 15, 208, 80, 35, 2, 36, 121, 14, 122, 123, 124, 125, 126, 127, 27, 28, 29, 30, 194, 195, 179, 115, 116, 117, 118, 119, 120, 114, 132, 133, 439, 440, 441, 442, 443, 451] (by decide +kernel) (by decide +kernel)
set_option maxRecDepth 20000 in
theorem gL_law_X5_read : GoodIn wsL_law (wsV RL 43 RX5 yX5_read wsX5_read) := goodIn_app (goodIn_of _ (by decide +kernel)) ggL_law_X5_read
set_option maxRecDepth 20000 in
theorem ggL_law_X6_read : GoodIn wsL_law wsX6_read := goodIn_r _ [212, 213, 214, 91, 92, 5, 93, 141, 142, 143, 144, 67, 73, 74, 75, 200, 201, 202, 138, 139, 140, 444, 445, 446, 447, 448, 449, 450] (by decide +kernel) (by decide +kernel)
set_option maxRecDepth 20000 in
theorem gL_law_X6_read : GoodIn wsL_law (wsV RL 46 RX6 yX6_read wsX6_read) := goodIn_app (goodIn_of _ (by decide +kernel)) ggL_law_X6_read
set_option maxRecDepth 20000 in
theorem ggL_law_X5_keeps : GoodIn wsL_law wsX5_keeps := goodIn_r _ [218, 219, 220, 2, 221, 80, 35, 36, 222, 29, 223, 224, 225, 226, 227, 228, 229, 83, 28, 30] (by decide +kernel) (by decide +kernel)
set_option maxRecDepth 20000 in
theorem gL_law_X5_keeps : GoodIn wsL_law (wsV RL 47 RX5 yX5_keeps wsX5_keeps) := goodIn_app (goodIn_of _ (by decide +kernel)) ggL_law_X5_keeps
set_option maxRecDepth 20000 in
theorem ggL_law_X6_keeps : GoodIn wsL_law wsX6_keeps := goodIn_r _ [233, 234, 235, 5, 236, 91, 92, 93, 237, 238, 239, 94, 95, 96, 73, 74, 75, 240, 241, 242, 243, 244, 245] (by decide +kernel) (by decide +kernel)
set_option maxRecDepth 20000 in
theorem gL_law_X6_keeps : GoodIn wsL_law (wsV RL 50 RX6 yX6_keeps wsX6_keeps) := goodIn_app (goodIn_of _ (by decide +kernel)) ggL_law_X6_keeps
set_option maxRecDepth 20000 in
theorem ggL_law_X5_moved : GoodIn wsL_law wsX5_moved := goodIn_r _ [249, 101, 80, 35, 2, 36, 219, 220, 221, 225, 29, 226, 227, 228, 229] (by decide +kernel) (by decide +kernel)
set_option maxRecDepth 20000 in
theorem gL_law_X5_moved : GoodIn wsL_law (wsV RL 51 RX5 yX5_moved wsX5_moved) := goodIn_app (goodIn_of _ (by decide +kernel)) ggL_law_X5_moved
set_option maxRecDepth 20000 in
theorem ggL_law_X6_moved : GoodIn wsL_law wsX6_moved := goodIn_r _ [253, 106, 107, 5, 108, 109, 91, 92, 93, 234, 235, 236, 240, 241, 242, 243, 244, 245] (by decide +kernel) (by decide +kernel)
set_option maxRecDepth 20000 in
theorem gL_law_X6_moved : GoodIn wsL_law (wsV RL 55 RX6 yX6_moved wsX6_moved) := goodIn_app (goodIn_of _ (by decide +kernel)) ggL_law_X6_moved
set_option maxRecDepth 20000 in
theorem ggL_law_X5_move : GoodIn wsL_law wsX5_move := goodIn_r _ [257, 19, 219, 220, 2, 221, 80, 35, 36, 222, 29, 223, 224, 225, 226, 227, 228, 229, 83, 28, 30, 258, 42, 259, 260, 51, 52, 53, 54, 261, 262, 439, 440, 441, 442, 443, 452, 453, 454, 455, 456, 457] (by decide +kernel) (by decide +kernel)
set_option maxRecDepth 20000 in
theorem gL_law_X5_move : GoodIn wsL_law (wsV RL 56 RX5 yX5_move wsX5_move) := goodIn_app (goodIn_of _ (by decide +kernel)) ggL_law_X5_move
set_option maxRecDepth 20000 in
theorem ggL_law_X6_move : GoodIn wsL_law wsX6_move := goodIn_r _ [266, 63, 234, 235, 5, 236, 91, 92, 93, 237, 238, 239, 94, 95, 96, 73, 74, 75, 240, 241, 242, 243, 244, 245, 444, 445, 446, 447, 448, 449, 450] (by decide +kernel) (by decide +kernel)
set_option maxRecDepth 20000 in
theorem gL_law_X6_move : GoodIn wsL_law (wsV RL 59 RX6 yX6_move wsX6_move) := goodIn_app (goodIn_of _ (by decide +kernel)) ggL_law_X6_move
set_option maxRecDepth 20000 in
theorem ggL_law_X5_drop : GoodIn wsL_law wsX5_drop := goodIn_r _ [270, 19, 80, 35, 2, 36, 271, 42, 272, 273, 51, 52, 53, 54, 439, 440, 441, 442, 443, 452, 453, 454, 455, 456, 457] (by decide +kernel) (by decide +kernel)
set_option maxRecDepth 20000 in
theorem gL_law_X5_drop : GoodIn wsL_law (wsV RL 60 RX5 yX5_drop wsX5_drop) := goodIn_app (goodIn_of _ (by decide +kernel)) ggL_law_X5_drop
set_option maxRecDepth 20000 in
theorem ggL_law_X6_drop : GoodIn wsL_law wsX6_drop := goodIn_r _ [277, 63, 278, 279, 280, 5, 281, 91, 92, 93, 444, 445, 446, 447, 448, 449, 450] (by decide +kernel) (by decide +kernel)
set_option maxRecDepth 20000 in
theorem gL_law_X6_drop : GoodIn wsL_law (wsV RL 63 RX6 yX6_drop wsX6_drop) := goodIn_app (goodIn_of _ (by decide +kernel)) ggL_law_X6_drop
set_option maxRecDepth 20000 in
theorem ggL_law_X5_told : GoodIn wsL_law wsX5_told := goodIn_r _ [285, 19, 80, 35, 2, 36, 286, 42, 287, 288, 289, 290, 291, 292, 51, 54, 293, 115, 116, 117, 118, 119, 120, 439, 440, 441, 442, 443, 452, 453, 454, 455, 456, 457] (by decide +kernel) (by decide +kernel)
set_option maxRecDepth 20000 in
theorem gL_law_X5_told : GoodIn wsL_law (wsV RL 64 RX5 yX5_told wsX5_told) := goodIn_app (goodIn_of _ (by decide +kernel)) ggL_law_X5_told
set_option maxRecDepth 20000 in
theorem ggL_law_X6_told : GoodIn wsL_law wsX6_told := goodIn_r _ [297, 63, 298, 278, 279, 280, 5, 281, 91, 92, 93, 299, 300, 301, 302, 303, 304, 305, 306, 307, 308, 309, 310, 311, 243, 244, 245, 444, 445, 446, 447, 448, 449, 450] (by decide +kernel) (by decide +kernel)
set_option maxRecDepth 20000 in
theorem gL_law_X6_told : GoodIn wsL_law (wsV RL 67 RX6 yX6_told wsX6_told) := goodIn_app (goodIn_of _ (by decide +kernel)) ggL_law_X6_told
set_option maxRecDepth 20000 in
theorem ggL_law_X5_freed : GoodIn wsL_law wsX5_freed := goodIn_r _ [315, 101, 19, 80, 35, 2, 36, 225, 29, 226, 227, 228, 229, 28, 30, 114, 115, 116, 117, 118, 119, 120, 261, 262, 439, 440, 441, 442, 443, 452, 453, 454, 455, 456, 457] (by decide +kernel) (by decide +kernel)
set_option maxRecDepth 20000 in
theorem gL_law_X5_freed : GoodIn wsL_law (wsV RL 68 RX5 yX5_freed wsX5_freed) := goodIn_app (goodIn_of _ (by decide +kernel)) ggL_law_X5_freed
set_option maxRecDepth 20000 in
theorem ggL_law_X6_freed : GoodIn wsL_law wsX6_freed := goodIn_r _ [319, 63, 106, 107, 5, 108, 109, 91, 92, 93, 240, 241, 242, 243, 244, 245, 73, 74, 75, 138, 139, 140, 320, 321, 322, 444, 445, 446, 447, 448, 449, 450] (by decide +kernel) (by decide +kernel)
set_option maxRecDepth 20000 in
theorem gL_law_X6_freed : GoodIn wsL_law (wsV RL 71 RX6 yX6_freed wsX6_freed) := goodIn_app (goodIn_of _ (by decide +kernel)) ggL_law_X6_freed
set_option maxRecDepth 20000 in
theorem ggL_law_X5_open : GoodIn wsL_law wsX5_open := goodIn_r _ [326, 19, 286, 42, 287, 288, 289, 290, 291, 292, 51, 54, 293, 115, 116, 117, 118, 119, 120, 327, 328, 329, 439, 440, 441, 442, 443, 452, 453, 454, 455, 456, 457] (by decide +kernel) (by decide +kernel)
set_option maxRecDepth 20000 in
theorem gL_law_X5_open : GoodIn wsL_law (wsV RL 72 RX5 yX5_open wsX5_open) := goodIn_app (goodIn_of _ (by decide +kernel)) ggL_law_X5_open
set_option maxRecDepth 20000 in
theorem ggL_law_X6_open : GoodIn wsL_law wsX6_open := goodIn_r _ [333, 63, 298, 303, 91, 92, 5, 93, 299, 300, 301, 302, 304, 305, 306, 307, 308, 309, 310, 311, 243, 244, 245, 444, 445, 446, 447, 448, 449, 450] (by decide +kernel) (by decide +kernel)
set_option maxRecDepth 20000 in
theorem gL_law_X6_open : GoodIn wsL_law (wsV RL 75 RX6 yX6_open wsX6_open) := goodIn_app (goodIn_of _ (by decide +kernel)) ggL_law_X6_open
set_option maxRecDepth 20000 in
theorem ggL_law_X5_sure : GoodIn wsL_law wsX5_sure := goodIn_r _ [337, 19, 80, 35, 2, 36, 439, 440, 441, 442, 443, 452, 453, 458] (by decide +kernel) (by decide +kernel)
set_option maxRecDepth 20000 in
theorem gL_law_X5_sure : GoodIn wsL_law (wsV RL 76 RX5 yX5_sure wsX5_sure) := goodIn_app (goodIn_of _ (by decide +kernel)) ggL_law_X5_sure
set_option maxRecDepth 20000 in
theorem ggL_law_X6_sure : GoodIn wsL_law wsX6_sure := goodIn_r _ [341, 63, 342, 343, 5, 344, 91, 92, 93, 444, 445, 446, 447, 448, 449, 450] (by decide +kernel) (by decide +kernel)
set_option maxRecDepth 20000 in
theorem gL_law_X6_sure : GoodIn wsL_law (wsV RL 79 RX6 yX6_sure wsX6_sure) := goodIn_app (goodIn_of _ (by decide +kernel)) ggL_law_X6_sure
set_option maxRecDepth 20000 in
theorem ggL_law_X5_weak : GoodIn wsL_law wsX5_weak := goodIn_r _ [348, 19, 80, 35, 2, 36, 349, 46, 350, 351, 58, 439, 440, 441, 442, 443, 452, 453, 458] (by decide +kernel) (by decide +kernel)
set_option maxRecDepth 20000 in
theorem gL_law_X5_weak : GoodIn wsL_law (wsV RL 80 RX5 yX5_weak wsX5_weak) := goodIn_app (goodIn_of _ (by decide +kernel)) ggL_law_X5_weak
set_option maxRecDepth 20000 in
theorem ggL_law_X6_weak : GoodIn wsL_law wsX6_weak := goodIn_r _ [355, 91, 92, 5, 93, 356, 357, 358, 359, 63, 444, 445, 446, 447, 448, 449, 450] (by decide +kernel) (by decide +kernel)
set_option maxRecDepth 20000 in
theorem gL_law_X6_weak : GoodIn wsL_law (wsV RL 83 RX6 yX6_weak wsX6_weak) := goodIn_app (goodIn_of _ (by decide +kernel)) ggL_law_X6_weak
set_option maxRecDepth 20000 in
theorem ggL_law_X5_chosen : GoodIn wsL_law wsX5_chosen := goodIn_r _ [363, 101, 23, 19, 80, 35, 2, 36, 364, 365, 366, 367, 15, 349, 46, 350, 351, 58, 121, 14, 122, 123, 124, 125, 126, 127, 27, 28, 29, 30, 368, 369, 370, 371, 372, 373, 374, 375, 376, 377, 378, 379, 380, 381, 382, 439, 440, 441, 442, 443, 452, 453, 458, 451] (by decide +kernel) (by decide +kernel)
set_option maxRecDepth 20000 in
theorem gL_law_X5_chosen : GoodIn wsL_law (wsV RL 84 RX5 yX5_chosen wsX5_chosen) := goodIn_app (goodIn_of _ (by decide +kernel)) ggL_law_X5_chosen
set_option maxRecDepth 20000 in
theorem ggL_law_X6_chosen : GoodIn wsL_law wsX6_chosen := goodIn_r _ [386, 68, 106, 107, 5, 108, 109, 91, 92, 93, 387, 388, 389, 390, 356, 357, 358, 359, 63, 141, 142, 143, 144, 67, 73, 74, 75, 391, 392, 393, 394, 395, 396, 397, 398, 444, 445, 446, 447, 448, 449, 450] (by decide +kernel) (by decide +kernel)
set_option maxRecDepth 20000 in
theorem gL_law_X6_chosen : GoodIn wsL_law (wsV RL 87 RX6 yX6_chosen wsX6_chosen) := goodIn_app (goodIn_of _ (by decide +kernel)) ggL_law_X6_chosen
set_option maxRecDepth 20000 in
theorem ggL_law_X5_image : GoodIn wsL_law wsX5_image := goodIn_r _ [402, 20, 19, 21, 80, 35, 2, 36, 403, 18, 404, 405, 43, 47, 406, 42, 407, 408, 51, 52, 53, 54, 409, 46, 410, 411, 58, 439, 440, 441, 442, 443, 452, 453, 454, 455, 456, 457, 458] (by decide +kernel) (by decide +kernel)
set_option maxRecDepth 20000 in
theorem gL_law_X5_image : GoodIn wsL_law (wsV RL 88 RX5 yX5_image wsX5_image) := goodIn_app (goodIn_of _ (by decide +kernel)) ggL_law_X5_image
set_option maxRecDepth 20000 in
theorem ggL_law_X6_image : GoodIn wsL_law wsX6_image := goodIn_r _ [415, 64, 63, 66, 91, 92, 5, 93, 444, 445, 446, 447, 448, 449, 450] (by decide +kernel) (by decide +kernel)
set_option maxRecDepth 20000 in
theorem gL_law_X6_image : GoodIn wsL_law (wsV RL 91 RX6 yX6_image wsX6_image) := goodIn_app (goodIn_of _ (by decide +kernel)) ggL_law_X6_image
set_option maxRecDepth 20000 in
theorem ggL_law_X5_restore : GoodIn wsL_law wsX5_restore := goodIn_r _ [419, 21, 19, 20, 80, 35, 2, 36, 403, 18, 404, 405, 43, 47, 406, 42, 407, 408, 51, 52, 53, 54, 409, 46, 410, 411, 58, 439, 440, 441, 442, 443, 452, 453, 454, 455, 456, 457, 458] (by decide +kernel) (by decide +kernel)
set_option maxRecDepth 20000 in
theorem gL_law_X5_restore : GoodIn wsL_law (wsV RL 92 RX5 yX5_restore wsX5_restore) := goodIn_app (goodIn_of _ (by decide +kernel)) ggL_law_X5_restore
set_option maxRecDepth 20000 in
theorem ggL_law_X6_restore : GoodIn wsL_law wsX6_restore := goodIn_r _ [423, 66, 63, 64, 91, 92, 5, 93, 444, 445, 446, 447, 448, 449, 450] (by decide +kernel) (by decide +kernel)
set_option maxRecDepth 20000 in
theorem gL_law_X6_restore : GoodIn wsL_law (wsV RL 95 RX6 yX6_restore wsX6_restore) := goodIn_app (goodIn_of _ (by decide +kernel)) ggL_law_X6_restore
set_option maxRecDepth 20000 in
theorem ggL_law_X5_count : GoodIn wsL_law wsX5_count := goodIn_r _ [427, 19, 208, 21, 380, 46, 381, 382, 58, 149, 150, 2, 151, 152, 80, 35, 36, 439, 440, 441, 442, 443, 452, 453, 454, 455, 456, 457, 458] (by decide +kernel) (by decide +kernel)
set_option maxRecDepth 20000 in
theorem gL_law_X5_count : GoodIn wsL_law (wsV RL 96 RX5 yX5_count wsX5_count) := goodIn_app (goodIn_of _ (by decide +kernel)) ggL_law_X5_count
set_option maxRecDepth 20000 in
theorem ggL_law_X6_count : GoodIn wsL_law wsX6_count := goodIn_r _ [431, 63, 66, 91, 92, 5, 93, 432, 433, 434, 94, 95, 96, 73, 74, 75, 138, 139, 140, 435, 436, 437, 438, 444, 445, 446, 447, 448, 449, 450] (by decide +kernel) (by decide +kernel)
set_option maxRecDepth 20000 in
theorem gL_law_X6_count : GoodIn wsL_law (wsV RL 99 RX6 yX6_count wsX6_count) := goodIn_app (goodIn_of _ (by decide +kernel)) ggL_law_X6_count
theorem dL_law_0 : decode cL_law 0 = .ok (.new 7, 3) := by decide +kernel
theorem dL_law_3 : decode cL_law 3 = .ok (.dup, 1) := by decide +kernel
theorem dL_law_4 : decode cL_law 4 = .ok (.invokespecial 9, 3) := by decide +kernel
theorem dL_law_7 : decode cL_law 7 = .ok (.astore_n 1, 1) := by decide +kernel
theorem dL_law_8 : decode cL_law 8 = .ok (.new 10, 3) := by decide +kernel
theorem dL_law_11 : decode cL_law 11 = .ok (.dup, 1) := by decide +kernel
theorem dL_law_12 : decode cL_law 12 = .ok (.invokespecial 12, 3) := by decide +kernel
theorem dL_law_15 : decode cL_law 15 = .ok (.astore_n 2, 1) := by decide +kernel
theorem dL_law_16 : decode cL_law 16 = .ok (.iconst 0, 1) := by decide +kernel
theorem dL_law_17 : decode cL_law 17 = .ok (.istore_n 3, 1) := by decide +kernel
theorem dL_law_18 : decode cL_law 18 = .ok (.iload_n 3, 1) := by decide +kernel
theorem dL_law_19 : decode cL_law 19 = .ok (.aload_n 0, 1) := by decide +kernel
theorem dL_law_20 : decode cL_law 20 = .ok (.arraylength, 1) := by decide +kernel
theorem dL_law_21 : decode cL_law 21 = .ok (.iconst 4, 1) := by decide +kernel
theorem dL_law_22 : decode cL_law 22 = .ok (.isub, 1) := by decide +kernel
theorem dL_law_23 : decode cL_law 23 = .ok (.if_icmp .gt 738, 3) := by decide +kernel
theorem dL_law_26 : decode cL_law 26 = .ok (.aload_n 0, 1) := by decide +kernel
theorem dL_law_27 : decode cL_law 27 = .ok (.iload_n 3, 1) := by decide +kernel
theorem dL_law_28 : decode cL_law 28 = .ok (.iaload, 1) := by decide +kernel
theorem dL_law_29 : decode cL_law 29 = .ok (.bipush 31, 2) := by decide +kernel
theorem dL_law_31 : decode cL_law 31 = .ok (.iand, 1) := by decide +kernel
theorem dL_law_32 : decode cL_law 32 = .ok (.tableswitch 723 0 20 #[100, 123, 146, 179, 212, 245, 278, 301, 334, 367, 410, 443, 466, 499, 532, 555, 588, 611, 654, 677, 700], 100) := by decide +kernel
theorem dL_law_132 : decode cL_law 132 = .ok (.aload_n 1, 1) := by decide +kernel
theorem dL_law_133 : decode cL_law 133 = .ok (.aload_n 0, 1) := by decide +kernel
theorem dL_law_134 : decode cL_law 134 = .ok (.iload_n 3, 1) := by decide +kernel
theorem dL_law_135 : decode cL_law 135 = .ok (.iconst 1, 1) := by decide +kernel
theorem dL_law_136 : decode cL_law 136 = .ok (.iadd, 1) := by decide +kernel
theorem dL_law_137 : decode cL_law 137 = .ok (.iaload, 1) := by decide +kernel
theorem dL_law_138 : decode cL_law 138 = .ok (.invokevirtual 13, 3) := by decide +kernel
theorem dL_law_141 : decode cL_law 141 = .ok (.aload_n 2, 1) := by decide +kernel
theorem dL_law_142 : decode cL_law 142 = .ok (.aload_n 0, 1) := by decide +kernel
theorem dL_law_143 : decode cL_law 143 = .ok (.iload_n 3, 1) := by decide +kernel
theorem dL_law_144 : decode cL_law 144 = .ok (.iconst 1, 1) := by decide +kernel
theorem dL_law_145 : decode cL_law 145 = .ok (.iadd, 1) := by decide +kernel
theorem dL_law_146 : decode cL_law 146 = .ok (.iaload, 1) := by decide +kernel
theorem dL_law_147 : decode cL_law 147 = .ok (.invokevirtual 17, 3) := by decide +kernel
theorem dL_law_150 : decode cL_law 150 = .ok (.if_icmp .eq 605, 3) := by decide +kernel
theorem dL_law_153 : decode cL_law 153 = .ok (.iconst 0, 1) := by decide +kernel
theorem dL_law_154 : decode cL_law 154 = .ok (.ireturn, 1) := by decide +kernel
theorem dL_law_155 : decode cL_law 155 = .ok (.aload_n 1, 1) := by decide +kernel
theorem dL_law_156 : decode cL_law 156 = .ok (.aload_n 0, 1) := by decide +kernel
theorem dL_law_157 : decode cL_law 157 = .ok (.iload_n 3, 1) := by decide +kernel
theorem dL_law_158 : decode cL_law 158 = .ok (.iconst 1, 1) := by decide +kernel
theorem dL_law_159 : decode cL_law 159 = .ok (.iadd, 1) := by decide +kernel
theorem dL_law_160 : decode cL_law 160 = .ok (.iaload, 1) := by decide +kernel
theorem dL_law_161 : decode cL_law 161 = .ok (.invokevirtual 18, 3) := by decide +kernel
theorem dL_law_164 : decode cL_law 164 = .ok (.aload_n 2, 1) := by decide +kernel
theorem dL_law_165 : decode cL_law 165 = .ok (.aload_n 0, 1) := by decide +kernel
theorem dL_law_166 : decode cL_law 166 = .ok (.iload_n 3, 1) := by decide +kernel
theorem dL_law_167 : decode cL_law 167 = .ok (.iconst 1, 1) := by decide +kernel
theorem dL_law_168 : decode cL_law 168 = .ok (.iadd, 1) := by decide +kernel
theorem dL_law_169 : decode cL_law 169 = .ok (.iaload, 1) := by decide +kernel
theorem dL_law_170 : decode cL_law 170 = .ok (.invokevirtual 21, 3) := by decide +kernel
theorem dL_law_173 : decode cL_law 173 = .ok (.if_icmp .eq 582, 3) := by decide +kernel
theorem dL_law_176 : decode cL_law 176 = .ok (.iconst 0, 1) := by decide +kernel
theorem dL_law_177 : decode cL_law 177 = .ok (.ireturn, 1) := by decide +kernel
theorem dL_law_178 : decode cL_law 178 = .ok (.aload_n 1, 1) := by decide +kernel
theorem dL_law_179 : decode cL_law 179 = .ok (.aload_n 0, 1) := by decide +kernel
theorem dL_law_180 : decode cL_law 180 = .ok (.iload_n 3, 1) := by decide +kernel
theorem dL_law_181 : decode cL_law 181 = .ok (.iconst 1, 1) := by decide +kernel
theorem dL_law_182 : decode cL_law 182 = .ok (.iadd, 1) := by decide +kernel
theorem dL_law_183 : decode cL_law 183 = .ok (.iaload, 1) := by decide +kernel
theorem dL_law_184 : decode cL_law 184 = .ok (.aload_n 0, 1) := by decide +kernel
theorem dL_law_185 : decode cL_law 185 = .ok (.iload_n 3, 1) := by decide +kernel
theorem dL_law_186 : decode cL_law 186 = .ok (.iconst 2, 1) := by decide +kernel
theorem dL_law_187 : decode cL_law 187 = .ok (.iadd, 1) := by decide +kernel
theorem dL_law_188 : decode cL_law 188 = .ok (.iaload, 1) := by decide +kernel
theorem dL_law_189 : decode cL_law 189 = .ok (.invokevirtual 22, 3) := by decide +kernel
theorem dL_law_192 : decode cL_law 192 = .ok (.aload_n 2, 1) := by decide +kernel
theorem dL_law_193 : decode cL_law 193 = .ok (.aload_n 0, 1) := by decide +kernel
theorem dL_law_194 : decode cL_law 194 = .ok (.iload_n 3, 1) := by decide +kernel
theorem dL_law_195 : decode cL_law 195 = .ok (.iconst 1, 1) := by decide +kernel
theorem dL_law_196 : decode cL_law 196 = .ok (.iadd, 1) := by decide +kernel
theorem dL_law_197 : decode cL_law 197 = .ok (.iaload, 1) := by decide +kernel
theorem dL_law_198 : decode cL_law 198 = .ok (.aload_n 0, 1) := by decide +kernel
theorem dL_law_199 : decode cL_law 199 = .ok (.iload_n 3, 1) := by decide +kernel
theorem dL_law_200 : decode cL_law 200 = .ok (.iconst 2, 1) := by decide +kernel
theorem dL_law_201 : decode cL_law 201 = .ok (.iadd, 1) := by decide +kernel
theorem dL_law_202 : decode cL_law 202 = .ok (.iaload, 1) := by decide +kernel
theorem dL_law_203 : decode cL_law 203 = .ok (.invokevirtual 26, 3) := by decide +kernel
theorem dL_law_206 : decode cL_law 206 = .ok (.if_icmp .eq 549, 3) := by decide +kernel
theorem dL_law_209 : decode cL_law 209 = .ok (.iconst 0, 1) := by decide +kernel
theorem dL_law_210 : decode cL_law 210 = .ok (.ireturn, 1) := by decide +kernel
theorem dL_law_211 : decode cL_law 211 = .ok (.aload_n 1, 1) := by decide +kernel
theorem dL_law_212 : decode cL_law 212 = .ok (.aload_n 0, 1) := by decide +kernel
theorem dL_law_213 : decode cL_law 213 = .ok (.iload_n 3, 1) := by decide +kernel
theorem dL_law_214 : decode cL_law 214 = .ok (.iconst 1, 1) := by decide +kernel
theorem dL_law_215 : decode cL_law 215 = .ok (.iadd, 1) := by decide +kernel
theorem dL_law_216 : decode cL_law 216 = .ok (.iaload, 1) := by decide +kernel
theorem dL_law_217 : decode cL_law 217 = .ok (.aload_n 0, 1) := by decide +kernel
theorem dL_law_218 : decode cL_law 218 = .ok (.iload_n 3, 1) := by decide +kernel
theorem dL_law_219 : decode cL_law 219 = .ok (.iconst 2, 1) := by decide +kernel
theorem dL_law_220 : decode cL_law 220 = .ok (.iadd, 1) := by decide +kernel
theorem dL_law_221 : decode cL_law 221 = .ok (.iaload, 1) := by decide +kernel
theorem dL_law_222 : decode cL_law 222 = .ok (.invokevirtual 27, 3) := by decide +kernel
theorem dL_law_225 : decode cL_law 225 = .ok (.aload_n 2, 1) := by decide +kernel
theorem dL_law_226 : decode cL_law 226 = .ok (.aload_n 0, 1) := by decide +kernel
theorem dL_law_227 : decode cL_law 227 = .ok (.iload_n 3, 1) := by decide +kernel
theorem dL_law_228 : decode cL_law 228 = .ok (.iconst 1, 1) := by decide +kernel
theorem dL_law_229 : decode cL_law 229 = .ok (.iadd, 1) := by decide +kernel
theorem dL_law_230 : decode cL_law 230 = .ok (.iaload, 1) := by decide +kernel
theorem dL_law_231 : decode cL_law 231 = .ok (.aload_n 0, 1) := by decide +kernel
theorem dL_law_232 : decode cL_law 232 = .ok (.iload_n 3, 1) := by decide +kernel
theorem dL_law_233 : decode cL_law 233 = .ok (.iconst 2, 1) := by decide +kernel
theorem dL_law_234 : decode cL_law 234 = .ok (.iadd, 1) := by decide +kernel
theorem dL_law_235 : decode cL_law 235 = .ok (.iaload, 1) := by decide +kernel
theorem dL_law_236 : decode cL_law 236 = .ok (.invokevirtual 30, 3) := by decide +kernel
theorem dL_law_239 : decode cL_law 239 = .ok (.if_icmp .eq 516, 3) := by decide +kernel
theorem dL_law_242 : decode cL_law 242 = .ok (.iconst 0, 1) := by decide +kernel
theorem dL_law_243 : decode cL_law 243 = .ok (.ireturn, 1) := by decide +kernel
theorem dL_law_244 : decode cL_law 244 = .ok (.aload_n 1, 1) := by decide +kernel
end
section
theorem dL_law_245 : decode cL_law 245 = .ok (.aload_n 0, 1) := by decide +kernel
theorem dL_law_246 : decode cL_law 246 = .ok (.iload_n 3, 1) := by decide +kernel
theorem dL_law_247 : decode cL_law 247 = .ok (.iconst 1, 1) := by decide +kernel
theorem dL_law_248 : decode cL_law 248 = .ok (.iadd, 1) := by decide +kernel
theorem dL_law_249 : decode cL_law 249 = .ok (.iaload, 1) := by decide +kernel
theorem dL_law_250 : decode cL_law 250 = .ok (.aload_n 0, 1) := by decide +kernel
theorem dL_law_251 : decode cL_law 251 = .ok (.iload_n 3, 1) := by decide +kernel
theorem dL_law_252 : decode cL_law 252 = .ok (.iconst 2, 1) := by decide +kernel
theorem dL_law_253 : decode cL_law 253 = .ok (.iadd, 1) := by decide +kernel
theorem dL_law_254 : decode cL_law 254 = .ok (.iaload, 1) := by decide +kernel
theorem dL_law_255 : decode cL_law 255 = .ok (.invokevirtual 31, 3) := by decide +kernel
theorem dL_law_258 : decode cL_law 258 = .ok (.aload_n 2, 1) := by decide +kernel
theorem dL_law_259 : decode cL_law 259 = .ok (.aload_n 0, 1) := by decide +kernel
theorem dL_law_260 : decode cL_law 260 = .ok (.iload_n 3, 1) := by decide +kernel
theorem dL_law_261 : decode cL_law 261 = .ok (.iconst 1, 1) := by decide +kernel
theorem dL_law_262 : decode cL_law 262 = .ok (.iadd, 1) := by decide +kernel
theorem dL_law_263 : decode cL_law 263 = .ok (.iaload, 1) := by decide +kernel
theorem dL_law_264 : decode cL_law 264 = .ok (.aload_n 0, 1) := by decide +kernel
theorem dL_law_265 : decode cL_law 265 = .ok (.iload_n 3, 1) := by decide +kernel
theorem dL_law_266 : decode cL_law 266 = .ok (.iconst 2, 1) := by decide +kernel
theorem dL_law_267 : decode cL_law 267 = .ok (.iadd, 1) := by decide +kernel
theorem dL_law_268 : decode cL_law 268 = .ok (.iaload, 1) := by decide +kernel
theorem dL_law_269 : decode cL_law 269 = .ok (.invokevirtual 34, 3) := by decide +kernel
theorem dL_law_272 : decode cL_law 272 = .ok (.if_icmp .eq 483, 3) := by decide +kernel
theorem dL_law_275 : decode cL_law 275 = .ok (.iconst 0, 1) := by decide +kernel
theorem dL_law_276 : decode cL_law 276 = .ok (.ireturn, 1) := by decide +kernel
theorem dL_law_277 : decode cL_law 277 = .ok (.aload_n 1, 1) := by decide +kernel
theorem dL_law_278 : decode cL_law 278 = .ok (.aload_n 0, 1) := by decide +kernel
theorem dL_law_279 : decode cL_law 279 = .ok (.iload_n 3, 1) := by decide +kernel
theorem dL_law_280 : decode cL_law 280 = .ok (.iconst 1, 1) := by decide +kernel
theorem dL_law_281 : decode cL_law 281 = .ok (.iadd, 1) := by decide +kernel
theorem dL_law_282 : decode cL_law 282 = .ok (.iaload, 1) := by decide +kernel
theorem dL_law_283 : decode cL_law 283 = .ok (.aload_n 0, 1) := by decide +kernel
theorem dL_law_284 : decode cL_law 284 = .ok (.iload_n 3, 1) := by decide +kernel
theorem dL_law_285 : decode cL_law 285 = .ok (.iconst 2, 1) := by decide +kernel
theorem dL_law_286 : decode cL_law 286 = .ok (.iadd, 1) := by decide +kernel
theorem dL_law_287 : decode cL_law 287 = .ok (.iaload, 1) := by decide +kernel
theorem dL_law_288 : decode cL_law 288 = .ok (.invokevirtual 35, 3) := by decide +kernel
theorem dL_law_291 : decode cL_law 291 = .ok (.aload_n 2, 1) := by decide +kernel
theorem dL_law_292 : decode cL_law 292 = .ok (.aload_n 0, 1) := by decide +kernel
theorem dL_law_293 : decode cL_law 293 = .ok (.iload_n 3, 1) := by decide +kernel
theorem dL_law_294 : decode cL_law 294 = .ok (.iconst 1, 1) := by decide +kernel
theorem dL_law_295 : decode cL_law 295 = .ok (.iadd, 1) := by decide +kernel
theorem dL_law_296 : decode cL_law 296 = .ok (.iaload, 1) := by decide +kernel
theorem dL_law_297 : decode cL_law 297 = .ok (.aload_n 0, 1) := by decide +kernel
theorem dL_law_298 : decode cL_law 298 = .ok (.iload_n 3, 1) := by decide +kernel
theorem dL_law_299 : decode cL_law 299 = .ok (.iconst 2, 1) := by decide +kernel
theorem dL_law_300 : decode cL_law 300 = .ok (.iadd, 1) := by decide +kernel
theorem dL_law_301 : decode cL_law 301 = .ok (.iaload, 1) := by decide +kernel
theorem dL_law_302 : decode cL_law 302 = .ok (.invokevirtual 38, 3) := by decide +kernel
theorem dL_law_305 : decode cL_law 305 = .ok (.if_icmp .eq 450, 3) := by decide +kernel
theorem dL_law_308 : decode cL_law 308 = .ok (.iconst 0, 1) := by decide +kernel
theorem dL_law_309 : decode cL_law 309 = .ok (.ireturn, 1) := by decide +kernel
theorem dL_law_310 : decode cL_law 310 = .ok (.aload_n 1, 1) := by decide +kernel
theorem dL_law_311 : decode cL_law 311 = .ok (.aload_n 0, 1) := by decide +kernel
theorem dL_law_312 : decode cL_law 312 = .ok (.iload_n 3, 1) := by decide +kernel
theorem dL_law_313 : decode cL_law 313 = .ok (.iconst 1, 1) := by decide +kernel
theorem dL_law_314 : decode cL_law 314 = .ok (.iadd, 1) := by decide +kernel
theorem dL_law_315 : decode cL_law 315 = .ok (.iaload, 1) := by decide +kernel
theorem dL_law_316 : decode cL_law 316 = .ok (.invokevirtual 39, 3) := by decide +kernel
theorem dL_law_319 : decode cL_law 319 = .ok (.aload_n 2, 1) := by decide +kernel
theorem dL_law_320 : decode cL_law 320 = .ok (.aload_n 0, 1) := by decide +kernel
theorem dL_law_321 : decode cL_law 321 = .ok (.iload_n 3, 1) := by decide +kernel
theorem dL_law_322 : decode cL_law 322 = .ok (.iconst 1, 1) := by decide +kernel
theorem dL_law_323 : decode cL_law 323 = .ok (.iadd, 1) := by decide +kernel
theorem dL_law_324 : decode cL_law 324 = .ok (.iaload, 1) := by decide +kernel
theorem dL_law_325 : decode cL_law 325 = .ok (.invokevirtual 42, 3) := by decide +kernel
theorem dL_law_328 : decode cL_law 328 = .ok (.if_icmp .eq 427, 3) := by decide +kernel
theorem dL_law_331 : decode cL_law 331 = .ok (.iconst 0, 1) := by decide +kernel
theorem dL_law_332 : decode cL_law 332 = .ok (.ireturn, 1) := by decide +kernel
theorem dL_law_333 : decode cL_law 333 = .ok (.aload_n 1, 1) := by decide +kernel
theorem dL_law_334 : decode cL_law 334 = .ok (.aload_n 0, 1) := by decide +kernel
theorem dL_law_335 : decode cL_law 335 = .ok (.iload_n 3, 1) := by decide +kernel
theorem dL_law_336 : decode cL_law 336 = .ok (.iconst 1, 1) := by decide +kernel
theorem dL_law_337 : decode cL_law 337 = .ok (.iadd, 1) := by decide +kernel
theorem dL_law_338 : decode cL_law 338 = .ok (.iaload, 1) := by decide +kernel
theorem dL_law_339 : decode cL_law 339 = .ok (.aload_n 0, 1) := by decide +kernel
theorem dL_law_340 : decode cL_law 340 = .ok (.iload_n 3, 1) := by decide +kernel
theorem dL_law_341 : decode cL_law 341 = .ok (.iconst 2, 1) := by decide +kernel
theorem dL_law_342 : decode cL_law 342 = .ok (.iadd, 1) := by decide +kernel
theorem dL_law_343 : decode cL_law 343 = .ok (.iaload, 1) := by decide +kernel
theorem dL_law_344 : decode cL_law 344 = .ok (.invokevirtual 43, 3) := by decide +kernel
theorem dL_law_347 : decode cL_law 347 = .ok (.aload_n 2, 1) := by decide +kernel
theorem dL_law_348 : decode cL_law 348 = .ok (.aload_n 0, 1) := by decide +kernel
theorem dL_law_349 : decode cL_law 349 = .ok (.iload_n 3, 1) := by decide +kernel
theorem dL_law_350 : decode cL_law 350 = .ok (.iconst 1, 1) := by decide +kernel
theorem dL_law_351 : decode cL_law 351 = .ok (.iadd, 1) := by decide +kernel
theorem dL_law_352 : decode cL_law 352 = .ok (.iaload, 1) := by decide +kernel
theorem dL_law_353 : decode cL_law 353 = .ok (.aload_n 0, 1) := by decide +kernel
theorem dL_law_354 : decode cL_law 354 = .ok (.iload_n 3, 1) := by decide +kernel
theorem dL_law_355 : decode cL_law 355 = .ok (.iconst 2, 1) := by decide +kernel
theorem dL_law_356 : decode cL_law 356 = .ok (.iadd, 1) := by decide +kernel
theorem dL_law_357 : decode cL_law 357 = .ok (.iaload, 1) := by decide +kernel
theorem dL_law_358 : decode cL_law 358 = .ok (.invokevirtual 46, 3) := by decide +kernel
theorem dL_law_361 : decode cL_law 361 = .ok (.if_icmp .eq 394, 3) := by decide +kernel
theorem dL_law_364 : decode cL_law 364 = .ok (.iconst 0, 1) := by decide +kernel
theorem dL_law_365 : decode cL_law 365 = .ok (.ireturn, 1) := by decide +kernel
theorem dL_law_366 : decode cL_law 366 = .ok (.aload_n 1, 1) := by decide +kernel
theorem dL_law_367 : decode cL_law 367 = .ok (.aload_n 0, 1) := by decide +kernel
theorem dL_law_368 : decode cL_law 368 = .ok (.iload_n 3, 1) := by decide +kernel
theorem dL_law_369 : decode cL_law 369 = .ok (.iconst 1, 1) := by decide +kernel
theorem dL_law_370 : decode cL_law 370 = .ok (.iadd, 1) := by decide +kernel
theorem dL_law_371 : decode cL_law 371 = .ok (.iaload, 1) := by decide +kernel
theorem dL_law_372 : decode cL_law 372 = .ok (.aload_n 0, 1) := by decide +kernel
theorem dL_law_373 : decode cL_law 373 = .ok (.iload_n 3, 1) := by decide +kernel
theorem dL_law_374 : decode cL_law 374 = .ok (.iconst 2, 1) := by decide +kernel
theorem dL_law_375 : decode cL_law 375 = .ok (.iadd, 1) := by decide +kernel
theorem dL_law_376 : decode cL_law 376 = .ok (.iaload, 1) := by decide +kernel
theorem dL_law_377 : decode cL_law 377 = .ok (.invokevirtual 47, 3) := by decide +kernel
theorem dL_law_380 : decode cL_law 380 = .ok (.aload_n 2, 1) := by decide +kernel
theorem dL_law_381 : decode cL_law 381 = .ok (.aload_n 0, 1) := by decide +kernel
theorem dL_law_382 : decode cL_law 382 = .ok (.iload_n 3, 1) := by decide +kernel
theorem dL_law_383 : decode cL_law 383 = .ok (.iconst 1, 1) := by decide +kernel
theorem dL_law_384 : decode cL_law 384 = .ok (.iadd, 1) := by decide +kernel
theorem dL_law_385 : decode cL_law 385 = .ok (.iaload, 1) := by decide +kernel
theorem dL_law_386 : decode cL_law 386 = .ok (.aload_n 0, 1) := by decide +kernel
theorem dL_law_387 : decode cL_law 387 = .ok (.iload_n 3, 1) := by decide +kernel
theorem dL_law_388 : decode cL_law 388 = .ok (.iconst 2, 1) := by decide +kernel
theorem dL_law_389 : decode cL_law 389 = .ok (.iadd, 1) := by decide +kernel
theorem dL_law_390 : decode cL_law 390 = .ok (.iaload, 1) := by decide +kernel
theorem dL_law_391 : decode cL_law 391 = .ok (.invokevirtual 50, 3) := by decide +kernel
theorem dL_law_394 : decode cL_law 394 = .ok (.if_icmp .eq 361, 3) := by decide +kernel
theorem dL_law_397 : decode cL_law 397 = .ok (.iconst 0, 1) := by decide +kernel
theorem dL_law_398 : decode cL_law 398 = .ok (.ireturn, 1) := by decide +kernel
theorem dL_law_399 : decode cL_law 399 = .ok (.aload_n 1, 1) := by decide +kernel
theorem dL_law_400 : decode cL_law 400 = .ok (.aload_n 0, 1) := by decide +kernel
theorem dL_law_401 : decode cL_law 401 = .ok (.iload_n 3, 1) := by decide +kernel
theorem dL_law_402 : decode cL_law 402 = .ok (.iconst 1, 1) := by decide +kernel
theorem dL_law_403 : decode cL_law 403 = .ok (.iadd, 1) := by decide +kernel
theorem dL_law_404 : decode cL_law 404 = .ok (.iaload, 1) := by decide +kernel
theorem dL_law_405 : decode cL_law 405 = .ok (.aload_n 0, 1) := by decide +kernel
theorem dL_law_406 : decode cL_law 406 = .ok (.iload_n 3, 1) := by decide +kernel
theorem dL_law_407 : decode cL_law 407 = .ok (.iconst 2, 1) := by decide +kernel
theorem dL_law_408 : decode cL_law 408 = .ok (.iadd, 1) := by decide +kernel
theorem dL_law_409 : decode cL_law 409 = .ok (.iaload, 1) := by decide +kernel
theorem dL_law_410 : decode cL_law 410 = .ok (.aload_n 0, 1) := by decide +kernel
theorem dL_law_411 : decode cL_law 411 = .ok (.iload_n 3, 1) := by decide +kernel
theorem dL_law_412 : decode cL_law 412 = .ok (.iconst 3, 1) := by decide +kernel
theorem dL_law_413 : decode cL_law 413 = .ok (.iadd, 1) := by decide +kernel
theorem dL_law_414 : decode cL_law 414 = .ok (.iaload, 1) := by decide +kernel
theorem dL_law_415 : decode cL_law 415 = .ok (.invokevirtual 51, 3) := by decide +kernel
theorem dL_law_418 : decode cL_law 418 = .ok (.aload_n 2, 1) := by decide +kernel
theorem dL_law_419 : decode cL_law 419 = .ok (.aload_n 0, 1) := by decide +kernel
theorem dL_law_420 : decode cL_law 420 = .ok (.iload_n 3, 1) := by decide +kernel
theorem dL_law_421 : decode cL_law 421 = .ok (.iconst 1, 1) := by decide +kernel
theorem dL_law_422 : decode cL_law 422 = .ok (.iadd, 1) := by decide +kernel
theorem dL_law_423 : decode cL_law 423 = .ok (.iaload, 1) := by decide +kernel
theorem dL_law_424 : decode cL_law 424 = .ok (.aload_n 0, 1) := by decide +kernel
theorem dL_law_425 : decode cL_law 425 = .ok (.iload_n 3, 1) := by decide +kernel
theorem dL_law_426 : decode cL_law 426 = .ok (.iconst 2, 1) := by decide +kernel
theorem dL_law_427 : decode cL_law 427 = .ok (.iadd, 1) := by decide +kernel
theorem dL_law_428 : decode cL_law 428 = .ok (.iaload, 1) := by decide +kernel
theorem dL_law_429 : decode cL_law 429 = .ok (.aload_n 0, 1) := by decide +kernel
theorem dL_law_430 : decode cL_law 430 = .ok (.iload_n 3, 1) := by decide +kernel
theorem dL_law_431 : decode cL_law 431 = .ok (.iconst 3, 1) := by decide +kernel
theorem dL_law_432 : decode cL_law 432 = .ok (.iadd, 1) := by decide +kernel
theorem dL_law_433 : decode cL_law 433 = .ok (.iaload, 1) := by decide +kernel
theorem dL_law_434 : decode cL_law 434 = .ok (.invokevirtual 55, 3) := by decide +kernel
theorem dL_law_437 : decode cL_law 437 = .ok (.if_icmp .eq 318, 3) := by decide +kernel
theorem dL_law_440 : decode cL_law 440 = .ok (.iconst 0, 1) := by decide +kernel
theorem dL_law_441 : decode cL_law 441 = .ok (.ireturn, 1) := by decide +kernel
theorem dL_law_442 : decode cL_law 442 = .ok (.aload_n 1, 1) := by decide +kernel
theorem dL_law_443 : decode cL_law 443 = .ok (.aload_n 0, 1) := by decide +kernel
theorem dL_law_444 : decode cL_law 444 = .ok (.iload_n 3, 1) := by decide +kernel
theorem dL_law_445 : decode cL_law 445 = .ok (.iconst 1, 1) := by decide +kernel
theorem dL_law_446 : decode cL_law 446 = .ok (.iadd, 1) := by decide +kernel
theorem dL_law_447 : decode cL_law 447 = .ok (.iaload, 1) := by decide +kernel
theorem dL_law_448 : decode cL_law 448 = .ok (.aload_n 0, 1) := by decide +kernel
theorem dL_law_449 : decode cL_law 449 = .ok (.iload_n 3, 1) := by decide +kernel
theorem dL_law_450 : decode cL_law 450 = .ok (.iconst 2, 1) := by decide +kernel
theorem dL_law_451 : decode cL_law 451 = .ok (.iadd, 1) := by decide +kernel
theorem dL_law_452 : decode cL_law 452 = .ok (.iaload, 1) := by decide +kernel
theorem dL_law_453 : decode cL_law 453 = .ok (.invokevirtual 56, 3) := by decide +kernel
theorem dL_law_456 : decode cL_law 456 = .ok (.aload_n 2, 1) := by decide +kernel
theorem dL_law_457 : decode cL_law 457 = .ok (.aload_n 0, 1) := by decide +kernel
theorem dL_law_458 : decode cL_law 458 = .ok (.iload_n 3, 1) := by decide +kernel
theorem dL_law_459 : decode cL_law 459 = .ok (.iconst 1, 1) := by decide +kernel
theorem dL_law_460 : decode cL_law 460 = .ok (.iadd, 1) := by decide +kernel
theorem dL_law_461 : decode cL_law 461 = .ok (.iaload, 1) := by decide +kernel
theorem dL_law_462 : decode cL_law 462 = .ok (.aload_n 0, 1) := by decide +kernel
theorem dL_law_463 : decode cL_law 463 = .ok (.iload_n 3, 1) := by decide +kernel
theorem dL_law_464 : decode cL_law 464 = .ok (.iconst 2, 1) := by decide +kernel
theorem dL_law_465 : decode cL_law 465 = .ok (.iadd, 1) := by decide +kernel
theorem dL_law_466 : decode cL_law 466 = .ok (.iaload, 1) := by decide +kernel
theorem dL_law_467 : decode cL_law 467 = .ok (.invokevirtual 59, 3) := by decide +kernel
theorem dL_law_470 : decode cL_law 470 = .ok (.if_icmp .eq 285, 3) := by decide +kernel
theorem dL_law_473 : decode cL_law 473 = .ok (.iconst 0, 1) := by decide +kernel
theorem dL_law_474 : decode cL_law 474 = .ok (.ireturn, 1) := by decide +kernel
theorem dL_law_475 : decode cL_law 475 = .ok (.aload_n 1, 1) := by decide +kernel
theorem dL_law_476 : decode cL_law 476 = .ok (.aload_n 0, 1) := by decide +kernel
theorem dL_law_477 : decode cL_law 477 = .ok (.iload_n 3, 1) := by decide +kernel
theorem dL_law_478 : decode cL_law 478 = .ok (.iconst 1, 1) := by decide +kernel
theorem dL_law_479 : decode cL_law 479 = .ok (.iadd, 1) := by decide +kernel
theorem dL_law_480 : decode cL_law 480 = .ok (.iaload, 1) := by decide +kernel
theorem dL_law_481 : decode cL_law 481 = .ok (.invokevirtual 60, 3) := by decide +kernel
theorem dL_law_484 : decode cL_law 484 = .ok (.aload_n 2, 1) := by decide +kernel
theorem dL_law_485 : decode cL_law 485 = .ok (.aload_n 0, 1) := by decide +kernel
theorem dL_law_486 : decode cL_law 486 = .ok (.iload_n 3, 1) := by decide +kernel
theorem dL_law_487 : decode cL_law 487 = .ok (.iconst 1, 1) := by decide +kernel
theorem dL_law_488 : decode cL_law 488 = .ok (.iadd, 1) := by decide +kernel
theorem dL_law_489 : decode cL_law 489 = .ok (.iaload, 1) := by decide +kernel
theorem dL_law_490 : decode cL_law 490 = .ok (.invokevirtual 63, 3) := by decide +kernel
theorem dL_law_493 : decode cL_law 493 = .ok (.if_icmp .eq 262, 3) := by decide +kernel
theorem dL_law_496 : decode cL_law 496 = .ok (.iconst 0, 1) := by decide +kernel
theorem dL_law_497 : decode cL_law 497 = .ok (.ireturn, 1) := by decide +kernel
theorem dL_law_498 : decode cL_law 498 = .ok (.aload_n 1, 1) := by decide +kernel
theorem dL_law_499 : decode cL_law 499 = .ok (.aload_n 0, 1) := by decide +kernel
theorem dL_law_500 : decode cL_law 500 = .ok (.iload_n 3, 1) := by decide +kernel
theorem dL_law_501 : decode cL_law 501 = .ok (.iconst 1, 1) := by decide +kernel
theorem dL_law_502 : decode cL_law 502 = .ok (.iadd, 1) := by decide +kernel
theorem dL_law_503 : decode cL_law 503 = .ok (.iaload, 1) := by decide +kernel
theorem dL_law_504 : decode cL_law 504 = .ok (.aload_n 0, 1) := by decide +kernel
theorem dL_law_505 : decode cL_law 505 = .ok (.iload_n 3, 1) := by decide +kernel
theorem dL_law_506 : decode cL_law 506 = .ok (.iconst 2, 1) := by decide +kernel
theorem dL_law_507 : decode cL_law 507 = .ok (.iadd, 1) := by decide +kernel
theorem dL_law_508 : decode cL_law 508 = .ok (.iaload, 1) := by decide +kernel
theorem dL_law_509 : decode cL_law 509 = .ok (.invokevirtual 64, 3) := by decide +kernel
theorem dL_law_512 : decode cL_law 512 = .ok (.aload_n 2, 1) := by decide +kernel
theorem dL_law_513 : decode cL_law 513 = .ok (.aload_n 0, 1) := by decide +kernel
theorem dL_law_514 : decode cL_law 514 = .ok (.iload_n 3, 1) := by decide +kernel
theorem dL_law_515 : decode cL_law 515 = .ok (.iconst 1, 1) := by decide +kernel
theorem dL_law_516 : decode cL_law 516 = .ok (.iadd, 1) := by decide +kernel
theorem dL_law_517 : decode cL_law 517 = .ok (.iaload, 1) := by decide +kernel
theorem dL_law_518 : decode cL_law 518 = .ok (.aload_n 0, 1) := by decide +kernel
theorem dL_law_519 : decode cL_law 519 = .ok (.iload_n 3, 1) := by decide +kernel
theorem dL_law_520 : decode cL_law 520 = .ok (.iconst 2, 1) := by decide +kernel
theorem dL_law_521 : decode cL_law 521 = .ok (.iadd, 1) := by decide +kernel
theorem dL_law_522 : decode cL_law 522 = .ok (.iaload, 1) := by decide +kernel
theorem dL_law_523 : decode cL_law 523 = .ok (.invokevirtual 67, 3) := by decide +kernel
theorem dL_law_526 : decode cL_law 526 = .ok (.if_icmp .eq 229, 3) := by decide +kernel
theorem dL_law_529 : decode cL_law 529 = .ok (.iconst 0, 1) := by decide +kernel
theorem dL_law_530 : decode cL_law 530 = .ok (.ireturn, 1) := by decide +kernel
theorem dL_law_531 : decode cL_law 531 = .ok (.aload_n 1, 1) := by decide +kernel
theorem dL_law_532 : decode cL_law 532 = .ok (.aload_n 0, 1) := by decide +kernel
theorem dL_law_533 : decode cL_law 533 = .ok (.iload_n 3, 1) := by decide +kernel
theorem dL_law_534 : decode cL_law 534 = .ok (.iconst 1, 1) := by decide +kernel
theorem dL_law_535 : decode cL_law 535 = .ok (.iadd, 1) := by decide +kernel
theorem dL_law_536 : decode cL_law 536 = .ok (.iaload, 1) := by decide +kernel
theorem dL_law_537 : decode cL_law 537 = .ok (.aload_n 0, 1) := by decide +kernel
theorem dL_law_538 : decode cL_law 538 = .ok (.iload_n 3, 1) := by decide +kernel
theorem dL_law_539 : decode cL_law 539 = .ok (.iconst 2, 1) := by decide +kernel
theorem dL_law_540 : decode cL_law 540 = .ok (.iadd, 1) := by decide +kernel
theorem dL_law_541 : decode cL_law 541 = .ok (.iaload, 1) := by decide +kernel
theorem dL_law_542 : decode cL_law 542 = .ok (.invokevirtual 68, 3) := by decide +kernel
theorem dL_law_545 : decode cL_law 545 = .ok (.aload_n 2, 1) := by decide +kernel
theorem dL_law_546 : decode cL_law 546 = .ok (.aload_n 0, 1) := by decide +kernel
theorem dL_law_547 : decode cL_law 547 = .ok (.iload_n 3, 1) := by decide +kernel
theorem dL_law_548 : decode cL_law 548 = .ok (.iconst 1, 1) := by decide +kernel
theorem dL_law_549 : decode cL_law 549 = .ok (.iadd, 1) := by decide +kernel
theorem dL_law_550 : decode cL_law 550 = .ok (.iaload, 1) := by decide +kernel
theorem dL_law_551 : decode cL_law 551 = .ok (.aload_n 0, 1) := by decide +kernel
theorem dL_law_552 : decode cL_law 552 = .ok (.iload_n 3, 1) := by decide +kernel
theorem dL_law_553 : decode cL_law 553 = .ok (.iconst 2, 1) := by decide +kernel
theorem dL_law_554 : decode cL_law 554 = .ok (.iadd, 1) := by decide +kernel
theorem dL_law_555 : decode cL_law 555 = .ok (.iaload, 1) := by decide +kernel
theorem dL_law_556 : decode cL_law 556 = .ok (.invokevirtual 71, 3) := by decide +kernel
theorem dL_law_559 : decode cL_law 559 = .ok (.if_icmp .eq 196, 3) := by decide +kernel
theorem dL_law_562 : decode cL_law 562 = .ok (.iconst 0, 1) := by decide +kernel
theorem dL_law_563 : decode cL_law 563 = .ok (.ireturn, 1) := by decide +kernel
theorem dL_law_564 : decode cL_law 564 = .ok (.aload_n 1, 1) := by decide +kernel
theorem dL_law_565 : decode cL_law 565 = .ok (.aload_n 0, 1) := by decide +kernel
theorem dL_law_566 : decode cL_law 566 = .ok (.iload_n 3, 1) := by decide +kernel
theorem dL_law_567 : decode cL_law 567 = .ok (.iconst 1, 1) := by decide +kernel
theorem dL_law_568 : decode cL_law 568 = .ok (.iadd, 1) := by decide +kernel
theorem dL_law_569 : decode cL_law 569 = .ok (.iaload, 1) := by decide +kernel
theorem dL_law_570 : decode cL_law 570 = .ok (.invokevirtual 72, 3) := by decide +kernel
theorem dL_law_573 : decode cL_law 573 = .ok (.aload_n 2, 1) := by decide +kernel
theorem dL_law_574 : decode cL_law 574 = .ok (.aload_n 0, 1) := by decide +kernel
theorem dL_law_575 : decode cL_law 575 = .ok (.iload_n 3, 1) := by decide +kernel
theorem dL_law_576 : decode cL_law 576 = .ok (.iconst 1, 1) := by decide +kernel
theorem dL_law_577 : decode cL_law 577 = .ok (.iadd, 1) := by decide +kernel
theorem dL_law_578 : decode cL_law 578 = .ok (.iaload, 1) := by decide +kernel
theorem dL_law_579 : decode cL_law 579 = .ok (.invokevirtual 75, 3) := by decide +kernel
theorem dL_law_582 : decode cL_law 582 = .ok (.if_icmp .eq 173, 3) := by decide +kernel
theorem dL_law_585 : decode cL_law 585 = .ok (.iconst 0, 1) := by decide +kernel
theorem dL_law_586 : decode cL_law 586 = .ok (.ireturn, 1) := by decide +kernel
theorem dL_law_587 : decode cL_law 587 = .ok (.aload_n 1, 1) := by decide +kernel
theorem dL_law_588 : decode cL_law 588 = .ok (.aload_n 0, 1) := by decide +kernel
theorem dL_law_589 : decode cL_law 589 = .ok (.iload_n 3, 1) := by decide +kernel
theorem dL_law_590 : decode cL_law 590 = .ok (.iconst 1, 1) := by decide +kernel
theorem dL_law_591 : decode cL_law 591 = .ok (.iadd, 1) := by decide +kernel
theorem dL_law_592 : decode cL_law 592 = .ok (.iaload, 1) := by decide +kernel
theorem dL_law_593 : decode cL_law 593 = .ok (.aload_n 0, 1) := by decide +kernel
theorem dL_law_594 : decode cL_law 594 = .ok (.iload_n 3, 1) := by decide +kernel
theorem dL_law_595 : decode cL_law 595 = .ok (.iconst 2, 1) := by decide +kernel
theorem dL_law_596 : decode cL_law 596 = .ok (.iadd, 1) := by decide +kernel
theorem dL_law_597 : decode cL_law 597 = .ok (.iaload, 1) := by decide +kernel
theorem dL_law_598 : decode cL_law 598 = .ok (.invokevirtual 76, 3) := by decide +kernel
theorem dL_law_601 : decode cL_law 601 = .ok (.aload_n 2, 1) := by decide +kernel
theorem dL_law_602 : decode cL_law 602 = .ok (.aload_n 0, 1) := by decide +kernel
theorem dL_law_603 : decode cL_law 603 = .ok (.iload_n 3, 1) := by decide +kernel
theorem dL_law_604 : decode cL_law 604 = .ok (.iconst 1, 1) := by decide +kernel
theorem dL_law_605 : decode cL_law 605 = .ok (.iadd, 1) := by decide +kernel
theorem dL_law_606 : decode cL_law 606 = .ok (.iaload, 1) := by decide +kernel
theorem dL_law_607 : decode cL_law 607 = .ok (.aload_n 0, 1) := by decide +kernel
theorem dL_law_608 : decode cL_law 608 = .ok (.iload_n 3, 1) := by decide +kernel
theorem dL_law_609 : decode cL_law 609 = .ok (.iconst 2, 1) := by decide +kernel
theorem dL_law_610 : decode cL_law 610 = .ok (.iadd, 1) := by decide +kernel
theorem dL_law_611 : decode cL_law 611 = .ok (.iaload, 1) := by decide +kernel
theorem dL_law_612 : decode cL_law 612 = .ok (.invokevirtual 79, 3) := by decide +kernel
theorem dL_law_615 : decode cL_law 615 = .ok (.if_icmp .eq 140, 3) := by decide +kernel
theorem dL_law_618 : decode cL_law 618 = .ok (.iconst 0, 1) := by decide +kernel
theorem dL_law_619 : decode cL_law 619 = .ok (.ireturn, 1) := by decide +kernel
theorem dL_law_620 : decode cL_law 620 = .ok (.aload_n 1, 1) := by decide +kernel
theorem dL_law_621 : decode cL_law 621 = .ok (.aload_n 0, 1) := by decide +kernel
theorem dL_law_622 : decode cL_law 622 = .ok (.iload_n 3, 1) := by decide +kernel
theorem dL_law_623 : decode cL_law 623 = .ok (.iconst 1, 1) := by decide +kernel
theorem dL_law_624 : decode cL_law 624 = .ok (.iadd, 1) := by decide +kernel
theorem dL_law_625 : decode cL_law 625 = .ok (.iaload, 1) := by decide +kernel
theorem dL_law_626 : decode cL_law 626 = .ok (.invokevirtual 80, 3) := by decide +kernel
theorem dL_law_629 : decode cL_law 629 = .ok (.aload_n 2, 1) := by decide +kernel
theorem dL_law_630 : decode cL_law 630 = .ok (.aload_n 0, 1) := by decide +kernel
theorem dL_law_631 : decode cL_law 631 = .ok (.iload_n 3, 1) := by decide +kernel
theorem dL_law_632 : decode cL_law 632 = .ok (.iconst 1, 1) := by decide +kernel
theorem dL_law_633 : decode cL_law 633 = .ok (.iadd, 1) := by decide +kernel
theorem dL_law_634 : decode cL_law 634 = .ok (.iaload, 1) := by decide +kernel
theorem dL_law_635 : decode cL_law 635 = .ok (.invokevirtual 83, 3) := by decide +kernel
theorem dL_law_638 : decode cL_law 638 = .ok (.if_icmp .eq 117, 3) := by decide +kernel
theorem dL_law_641 : decode cL_law 641 = .ok (.iconst 0, 1) := by decide +kernel
theorem dL_law_642 : decode cL_law 642 = .ok (.ireturn, 1) := by decide +kernel
theorem dL_law_643 : decode cL_law 643 = .ok (.aload_n 1, 1) := by decide +kernel
theorem dL_law_644 : decode cL_law 644 = .ok (.aload_n 0, 1) := by decide +kernel
theorem dL_law_645 : decode cL_law 645 = .ok (.iload_n 3, 1) := by decide +kernel
theorem dL_law_646 : decode cL_law 646 = .ok (.iconst 1, 1) := by decide +kernel
theorem dL_law_647 : decode cL_law 647 = .ok (.iadd, 1) := by decide +kernel
theorem dL_law_648 : decode cL_law 648 = .ok (.iaload, 1) := by decide +kernel
theorem dL_law_649 : decode cL_law 649 = .ok (.aload_n 0, 1) := by decide +kernel
theorem dL_law_650 : decode cL_law 650 = .ok (.iload_n 3, 1) := by decide +kernel
theorem dL_law_651 : decode cL_law 651 = .ok (.iconst 2, 1) := by decide +kernel
theorem dL_law_652 : decode cL_law 652 = .ok (.iadd, 1) := by decide +kernel
theorem dL_law_653 : decode cL_law 653 = .ok (.iaload, 1) := by decide +kernel
theorem dL_law_654 : decode cL_law 654 = .ok (.aload_n 0, 1) := by decide +kernel
theorem dL_law_655 : decode cL_law 655 = .ok (.iload_n 3, 1) := by decide +kernel
theorem dL_law_656 : decode cL_law 656 = .ok (.iconst 3, 1) := by decide +kernel
theorem dL_law_657 : decode cL_law 657 = .ok (.iadd, 1) := by decide +kernel
theorem dL_law_658 : decode cL_law 658 = .ok (.iaload, 1) := by decide +kernel
theorem dL_law_659 : decode cL_law 659 = .ok (.invokevirtual 84, 3) := by decide +kernel
theorem dL_law_662 : decode cL_law 662 = .ok (.aload_n 2, 1) := by decide +kernel
theorem dL_law_663 : decode cL_law 663 = .ok (.aload_n 0, 1) := by decide +kernel
theorem dL_law_664 : decode cL_law 664 = .ok (.iload_n 3, 1) := by decide +kernel
theorem dL_law_665 : decode cL_law 665 = .ok (.iconst 1, 1) := by decide +kernel
theorem dL_law_666 : decode cL_law 666 = .ok (.iadd, 1) := by decide +kernel
theorem dL_law_667 : decode cL_law 667 = .ok (.iaload, 1) := by decide +kernel
theorem dL_law_668 : decode cL_law 668 = .ok (.aload_n 0, 1) := by decide +kernel
theorem dL_law_669 : decode cL_law 669 = .ok (.iload_n 3, 1) := by decide +kernel
theorem dL_law_670 : decode cL_law 670 = .ok (.iconst 2, 1) := by decide +kernel
theorem dL_law_671 : decode cL_law 671 = .ok (.iadd, 1) := by decide +kernel
theorem dL_law_672 : decode cL_law 672 = .ok (.iaload, 1) := by decide +kernel
theorem dL_law_673 : decode cL_law 673 = .ok (.aload_n 0, 1) := by decide +kernel
theorem dL_law_674 : decode cL_law 674 = .ok (.iload_n 3, 1) := by decide +kernel
theorem dL_law_675 : decode cL_law 675 = .ok (.iconst 3, 1) := by decide +kernel
theorem dL_law_676 : decode cL_law 676 = .ok (.iadd, 1) := by decide +kernel
theorem dL_law_677 : decode cL_law 677 = .ok (.iaload, 1) := by decide +kernel
theorem dL_law_678 : decode cL_law 678 = .ok (.invokevirtual 87, 3) := by decide +kernel
theorem dL_law_681 : decode cL_law 681 = .ok (.if_icmp .eq 74, 3) := by decide +kernel
theorem dL_law_684 : decode cL_law 684 = .ok (.iconst 0, 1) := by decide +kernel
theorem dL_law_685 : decode cL_law 685 = .ok (.ireturn, 1) := by decide +kernel
theorem dL_law_686 : decode cL_law 686 = .ok (.aload_n 1, 1) := by decide +kernel
theorem dL_law_687 : decode cL_law 687 = .ok (.aload_n 0, 1) := by decide +kernel
theorem dL_law_688 : decode cL_law 688 = .ok (.iload_n 3, 1) := by decide +kernel
theorem dL_law_689 : decode cL_law 689 = .ok (.iconst 1, 1) := by decide +kernel
theorem dL_law_690 : decode cL_law 690 = .ok (.iadd, 1) := by decide +kernel
theorem dL_law_691 : decode cL_law 691 = .ok (.iaload, 1) := by decide +kernel
theorem dL_law_692 : decode cL_law 692 = .ok (.invokevirtual 88, 3) := by decide +kernel
theorem dL_law_695 : decode cL_law 695 = .ok (.aload_n 2, 1) := by decide +kernel
theorem dL_law_696 : decode cL_law 696 = .ok (.aload_n 0, 1) := by decide +kernel
theorem dL_law_697 : decode cL_law 697 = .ok (.iload_n 3, 1) := by decide +kernel
theorem dL_law_698 : decode cL_law 698 = .ok (.iconst 1, 1) := by decide +kernel
theorem dL_law_699 : decode cL_law 699 = .ok (.iadd, 1) := by decide +kernel
theorem dL_law_700 : decode cL_law 700 = .ok (.iaload, 1) := by decide +kernel
theorem dL_law_701 : decode cL_law 701 = .ok (.invokevirtual 91, 3) := by decide +kernel
theorem dL_law_704 : decode cL_law 704 = .ok (.if_icmp .eq 51, 3) := by decide +kernel
theorem dL_law_707 : decode cL_law 707 = .ok (.iconst 0, 1) := by decide +kernel
theorem dL_law_708 : decode cL_law 708 = .ok (.ireturn, 1) := by decide +kernel
theorem dL_law_709 : decode cL_law 709 = .ok (.aload_n 1, 1) := by decide +kernel
theorem dL_law_710 : decode cL_law 710 = .ok (.aload_n 0, 1) := by decide +kernel
theorem dL_law_711 : decode cL_law 711 = .ok (.iload_n 3, 1) := by decide +kernel
theorem dL_law_712 : decode cL_law 712 = .ok (.iconst 1, 1) := by decide +kernel
theorem dL_law_713 : decode cL_law 713 = .ok (.iadd, 1) := by decide +kernel
theorem dL_law_714 : decode cL_law 714 = .ok (.iaload, 1) := by decide +kernel
theorem dL_law_715 : decode cL_law 715 = .ok (.invokevirtual 92, 3) := by decide +kernel
theorem dL_law_718 : decode cL_law 718 = .ok (.aload_n 2, 1) := by decide +kernel
theorem dL_law_719 : decode cL_law 719 = .ok (.aload_n 0, 1) := by decide +kernel
theorem dL_law_720 : decode cL_law 720 = .ok (.iload_n 3, 1) := by decide +kernel
theorem dL_law_721 : decode cL_law 721 = .ok (.iconst 1, 1) := by decide +kernel
theorem dL_law_722 : decode cL_law 722 = .ok (.iadd, 1) := by decide +kernel
theorem dL_law_723 : decode cL_law 723 = .ok (.iaload, 1) := by decide +kernel
theorem dL_law_724 : decode cL_law 724 = .ok (.invokevirtual 95, 3) := by decide +kernel
theorem dL_law_727 : decode cL_law 727 = .ok (.if_icmp .eq 28, 3) := by decide +kernel
theorem dL_law_730 : decode cL_law 730 = .ok (.iconst 0, 1) := by decide +kernel
theorem dL_law_731 : decode cL_law 731 = .ok (.ireturn, 1) := by decide +kernel
theorem dL_law_732 : decode cL_law 732 = .ok (.aload_n 1, 1) := by decide +kernel
theorem dL_law_733 : decode cL_law 733 = .ok (.aload_n 0, 1) := by decide +kernel
theorem dL_law_734 : decode cL_law 734 = .ok (.iload_n 3, 1) := by decide +kernel
theorem dL_law_735 : decode cL_law 735 = .ok (.iconst 1, 1) := by decide +kernel
theorem dL_law_736 : decode cL_law 736 = .ok (.iadd, 1) := by decide +kernel
theorem dL_law_737 : decode cL_law 737 = .ok (.iaload, 1) := by decide +kernel
theorem dL_law_738 : decode cL_law 738 = .ok (.invokevirtual 96, 3) := by decide +kernel
theorem dL_law_741 : decode cL_law 741 = .ok (.aload_n 2, 1) := by decide +kernel
theorem dL_law_742 : decode cL_law 742 = .ok (.aload_n 0, 1) := by decide +kernel
theorem dL_law_743 : decode cL_law 743 = .ok (.iload_n 3, 1) := by decide +kernel
theorem dL_law_744 : decode cL_law 744 = .ok (.iconst 1, 1) := by decide +kernel
theorem dL_law_745 : decode cL_law 745 = .ok (.iadd, 1) := by decide +kernel
theorem dL_law_746 : decode cL_law 746 = .ok (.iaload, 1) := by decide +kernel
theorem dL_law_747 : decode cL_law 747 = .ok (.invokevirtual 99, 3) := by decide +kernel
theorem dL_law_750 : decode cL_law 750 = .ok (.if_icmp .eq 5, 3) := by decide +kernel
theorem dL_law_753 : decode cL_law 753 = .ok (.iconst 0, 1) := by decide +kernel
theorem dL_law_754 : decode cL_law 754 = .ok (.ireturn, 1) := by decide +kernel
theorem dL_law_755 : decode cL_law 755 = .ok (.iinc 3 4, 3) := by decide +kernel
theorem dL_law_758 : decode cL_law 758 = .ok (.goto (-740), 3) := by decide +kernel
theorem dL_law_761 : decode cL_law 761 = .ok (.iconst 1, 1) := by decide +kernel
theorem dL_law_762 : decode cL_law 762 = .ok (.ireturn, 1) := by decide +kernel
abbrev vwCl : List vw_C := [(RX1, TX1, 2), (RX2, TX2, 1), (RX3, TX3, 4), (RX4, TX4, 1), (RX5, TX5, 5), (RX6, TX6, 7)]
end
section
/-! numbers by Nat: what the machine's int rows give where the ints are nI of a Nat -/
theorem nI_bv (n : Nat) : (nI n).toBitVec = BitVec.ofNat 32 n := rfl
theorem i32_ext {x y : Int32} (h : x.toBitVec.toNat = y.toBitVec.toNat) : x = y := Int32.toBitVec_inj.mp (BitVec.eq_of_toNat_eq h)
theorem nI_and (a b : Nat) : nI a &&& nI b = nI (a &&& b) := by
  apply Int32.toBitVec_inj.mp
  rw [Int32.toBitVec_and, nI_bv, nI_bv, nI_bv]
  apply BitVec.eq_of_toNat_eq
  rw [BitVec.toNat_and, BitVec.toNat_ofNat, BitVec.toNat_ofNat, BitVec.toNat_ofNat, Nat.and_mod_two_pow]
theorem nI_or (a b : Nat) : nI a ||| nI b = nI (a ||| b) := by
  apply Int32.toBitVec_inj.mp
  rw [Int32.toBitVec_or, nI_bv, nI_bv, nI_bv]
  apply BitVec.eq_of_toNat_eq
  rw [BitVec.toNat_or, BitVec.toNat_ofNat, BitVec.toNat_ofNat, BitVec.toNat_ofNat, Nat.or_mod_two_pow]
theorem nI_xor (a b : Nat) : nI a ^^^ nI b = nI (a ^^^ b) := by
  apply Int32.toBitVec_inj.mp
  rw [Int32.toBitVec_xor, nI_bv, nI_bv, nI_bv]
  apply BitVec.eq_of_toNat_eq
  rw [BitVec.toNat_xor, BitVec.toNat_ofNat, BitVec.toNat_ofNat, BitVec.toNat_ofNat, Nat.xor_mod_two_pow]
theorem nI_31 : (31 : Int32) = nI 31 := rfl
theorem nI_m31 {b : Nat} (hb : b < 32) : nI b &&& (31 : Int32) = nI b := by
  rw [nI_31, nI_and, show b &&& 31 = b % 2 ^ 5 from Nat.and_two_pow_sub_one_eq_mod b 5, Nat.mod_eq_of_lt hb]
theorem nI_smod : ∀ b, b < 32 → ((nI b).toBitVec.smod 32).toNat = b := by decide +kernel
theorem nI_umod : ∀ b, b < 32 → (((nI b).toUInt32 &&& Int32.toUInt32 31).toBitVec % 32).toNat = b := by decide +kernel
theorem nI_shl (a : Nat) {b : Nat} (hb : b < 32) : nI a <<< (nI b &&& 31) = nI (a <<< b) := by
  rw [nI_m31 hb]
  apply i32_ext
  rw [pk_shl _ _ b (nI_smod b hb), nI_bv, nI_bv, BitVec.toNat_ofNat, BitVec.toNat_ofNat, Nat.shiftLeft_eq, Nat.mod_mul_mod]
theorem nI_shr {a b : Nat} (ha : a < 2147483648) (hb : b < 32) : nI a >>> (nI b &&& 31) = nI (a >>> b) := by
  rw [nI_m31 hb, pk_shrN ha _ b (nI_smod b hb), Nat.shiftRight_eq_div_pow]
theorem nI_ushr {a b : Nat} (ha : a < 4294967296) (hb : b < 32) : ((nI a).toUInt32 >>> ((nI b).toUInt32 &&& Int32.toUInt32 31)).toInt32 = nI (a >>> b) := by
  rw [pk_ushrN ha _ b (nI_umod b hb), Nat.shiftRight_eq_div_pow]
theorem nI_eqI {a b : Nat} (ha : a < 4294967296) (hb : b < 4294967296) : nI a = nI b ↔ a = b := by
  constructor
  · intro h
    have h1 := congrArg (fun x : Int32 => x.toBitVec.toNat) h
    simpa only [pk_tn ha, pk_tn hb] using h1
  · intro h; rw [h]
theorem bd_and {a c n : Nat} (h : c < n) : a &&& c < n := Nat.lt_of_le_of_lt Nat.and_le_right h
theorem bd_shr {a c n : Nat} (h : a < n) : a >>> c < n := Nat.lt_of_le_of_lt (Nat.shiftRight_le _ _) h
theorem bd_xor {a b : Nat} (k : Nat) (ha : a < 2 ^ k) (hb : b < 2 ^ k) : a ^^^ b < 2 ^ k := Nat.xor_lt_two_pow ha hb
theorem bd_or {a b : Nat} (k : Nat) (ha : a < 2 ^ k) (hb : b < 2 ^ k) : a ||| b < 2 ^ k := Nat.or_lt_two_pow ha hb
section JROWS
variable {p : Program} {l : Launch} {e : Env} {R : Room} {s : State} {m : MethodId} {args : Array Value} {below : List Frame} {meth : Method} {c : Code} {H : Heap} {locs : List Loc} {cells slots : Nat} {Q : State → Prop}
variable {cc : ByteArray} {pc : Nat} {ls : Array Slot} {rest : List Value}
theorem j_add (hx : p.tables.exec = Jvm.exec) (hb : c.code = cc) {a b : Nat} (hdg : decode cc pc = .ok (.iadd, 1)) (k : W p l e R s m args below meth c H locs cells slots Q (F0 m (pc + 1) ls (.int (nI (a + b)) :: rest))) : W p l e R s m args below meth c H locs cells slots Q (F0 m pc ls (.int (nI b) :: .int (nI a) :: rest)) :=
  lv_iadd hx hb hdg (by rw [nI_add]; exact k)
theorem j_sub (hx : p.tables.exec = Jvm.exec) (hb : c.code = cc) {a b : Nat} (hdg : decode cc pc = .ok (.isub, 1)) (k : W p l e R s m args below meth c H locs cells slots Q (F0 m (pc + 1) ls (.int (nI (a - b)) :: rest))) (h : b ≤ a := by omega) : W p l e R s m args below meth c H locs cells slots Q (F0 m pc ls (.int (nI b) :: .int (nI a) :: rest)) :=
  lv_isub hx hb hdg (by rw [pk_sub h]; exact k)
theorem j_mul (hx : p.tables.exec = Jvm.exec) (hb : c.code = cc) {a b : Nat} (hdg : decode cc pc = .ok (.imul, 1)) (k : W p l e R s m args below meth c H locs cells slots Q (F0 m (pc + 1) ls (.int (nI (a * b)) :: rest))) : W p l e R s m args below meth c H locs cells slots Q (F0 m pc ls (.int (nI b) :: .int (nI a) :: rest)) :=
  lv_imul hx hb hdg (by rw [pk_mul]; exact k)
theorem j_and (hx : p.tables.exec = Jvm.exec) (hb : c.code = cc) {a b : Nat} (hdg : decode cc pc = .ok (.iand, 1)) (k : W p l e R s m args below meth c H locs cells slots Q (F0 m (pc + 1) ls (.int (nI (a &&& b)) :: rest))) : W p l e R s m args below meth c H locs cells slots Q (F0 m pc ls (.int (nI b) :: .int (nI a) :: rest)) :=
  lv_iand hx hb hdg (by rw [nI_and]; exact k)
theorem j_or (hx : p.tables.exec = Jvm.exec) (hb : c.code = cc) {a b : Nat} (hdg : decode cc pc = .ok (.ior, 1)) (k : W p l e R s m args below meth c H locs cells slots Q (F0 m (pc + 1) ls (.int (nI (a ||| b)) :: rest))) : W p l e R s m args below meth c H locs cells slots Q (F0 m pc ls (.int (nI b) :: .int (nI a) :: rest)) :=
  lv_ior hx hb hdg (by rw [nI_or]; exact k)
theorem j_xor (hx : p.tables.exec = Jvm.exec) (hb : c.code = cc) {a b : Nat} (hdg : decode cc pc = .ok (.ixor, 1)) (k : W p l e R s m args below meth c H locs cells slots Q (F0 m (pc + 1) ls (.int (nI (a ^^^ b)) :: rest))) : W p l e R s m args below meth c H locs cells slots Q (F0 m pc ls (.int (nI b) :: .int (nI a) :: rest)) :=
  lv_ixor hx hb hdg (by rw [nI_xor]; exact k)
theorem j_shl (hx : p.tables.exec = Jvm.exec) (hb : c.code = cc) {a b : Nat} (hdg : decode cc pc = .ok (.ishl, 1)) (k : W p l e R s m args below meth c H locs cells slots Q (F0 m (pc + 1) ls (.int (nI (a <<< b)) :: rest))) (h : b < 32 := by omega) : W p l e R s m args below meth c H locs cells slots Q (F0 m pc ls (.int (nI b) :: .int (nI a) :: rest)) :=
  lv_ishl hx hb hdg (by rw [nI_shl a h]; exact k)
theorem j_shr (hx : p.tables.exec = Jvm.exec) (hb : c.code = cc) {a b : Nat} (hdg : decode cc pc = .ok (.ishr, 1)) (k : W p l e R s m args below meth c H locs cells slots Q (F0 m (pc + 1) ls (.int (nI (a >>> b)) :: rest))) (ha : a < 2147483648 := by omega) (h : b < 32 := by omega) : W p l e R s m args below meth c H locs cells slots Q (F0 m pc ls (.int (nI b) :: .int (nI a) :: rest)) :=
  lv_ishr hx hb hdg (by rw [nI_shr ha h]; exact k)
theorem j_ushr (hx : p.tables.exec = Jvm.exec) (hb : c.code = cc) {a b : Nat} (hdg : decode cc pc = .ok (.iushr, 1)) (k : W p l e R s m args below meth c H locs cells slots Q (F0 m (pc + 1) ls (.int (nI (a >>> b)) :: rest))) (ha : a < 4294967296 := by omega) (h : b < 32 := by omega) : W p l e R s m args below meth c H locs cells slots Q (F0 m pc ls (.int (nI b) :: .int (nI a) :: rest)) :=
  lv_iushr hx hb hdg (nI_ushr ha h) k
theorem j_rem (hx : p.tables.exec = Jvm.exec) (hb : c.code = cc) {a b : Nat} (hdg : decode cc pc = .ok (.irem, 1)) (k : W p l e R s m args below meth c H locs cells slots Q (F0 m (pc + 1) ls (.int (nI (a % b)) :: rest))) (ha : a < 2147483648 := by omega) (h0 : 0 < b := by omega) (h : b < 2147483648 := by omega) : W p l e R s m args below meth c H locs cells slots Q (F0 m pc ls (.int (nI b) :: .int (nI a) :: rest)) :=
  lv_irem hx hb hdg (nI_ne0 h0 h) (by rw [pk_rem ha h0 h]; exact k)
theorem j_icmp_eq (hx : p.tables.exec = Jvm.exec) (hb : c.code = cc) {a b : Nat} {off : Int} {tgt : Nat} (hdg : decode cc pc = .ok (.if_icmp .eq off, 3)) (ht : (pc : Int) + off = (tgt : Int)) (kt : a = b → W p l e R s m args below meth c H locs cells slots Q (F0 m tgt ls rest)) (kf : ¬ a = b → W p l e R s m args below meth c H locs cells slots Q (F0 m (pc + 3) ls rest)) (h1 : a < 4294967296 := by omega) (h2 : b < 4294967296 := by omega) : W p l e R s m args below meth c H locs cells slots Q (F0 m pc ls (.int (nI b) :: .int (nI a) :: rest)) :=
  lv_icmp_eq hx hb hdg ht (fun h => kt ((nI_eqI h1 h2).mp h)) (fun h => kf (fun q => h ((nI_eqI h1 h2).mpr q)))
theorem j_icmp_ne (hx : p.tables.exec = Jvm.exec) (hb : c.code = cc) {a b : Nat} {off : Int} {tgt : Nat} (hdg : decode cc pc = .ok (.if_icmp .ne off, 3)) (ht : (pc : Int) + off = (tgt : Int)) (kt : ¬ a = b → W p l e R s m args below meth c H locs cells slots Q (F0 m tgt ls rest)) (kf : a = b → W p l e R s m args below meth c H locs cells slots Q (F0 m (pc + 3) ls rest)) (h1 : a < 4294967296 := by omega) (h2 : b < 4294967296 := by omega) : W p l e R s m args below meth c H locs cells slots Q (F0 m pc ls (.int (nI b) :: .int (nI a) :: rest)) :=
  lv_icmp_ne hx hb hdg ht (fun h => kt (fun q => h ((nI_eqI h1 h2).mpr q))) (fun h => kf ((nI_eqI h1 h2).mp h))
theorem j_icmp_lt (hx : p.tables.exec = Jvm.exec) (hb : c.code = cc) {a b : Nat} {off : Int} {tgt : Nat} (hdg : decode cc pc = .ok (.if_icmp .lt off, 3)) (ht : (pc : Int) + off = (tgt : Int)) (kt : a < b → W p l e R s m args below meth c H locs cells slots Q (F0 m tgt ls rest)) (kf : b ≤ a → W p l e R s m args below meth c H locs cells slots Q (F0 m (pc + 3) ls rest)) (h1 : a < 2147483648 := by omega) (h2 : b < 2147483648 := by omega) : W p l e R s m args below meth c H locs cells slots Q (F0 m pc ls (.int (nI b) :: .int (nI a) :: rest)) :=
  lv_icmp_lt hx hb hdg ht (fun h => kt ((nI_ltI h1 h2).mp h)) (fun h => kf (Nat.le_of_not_lt (fun q => h ((nI_ltI h1 h2).mpr q))))
theorem j_icmp_ge (hx : p.tables.exec = Jvm.exec) (hb : c.code = cc) {a b : Nat} {off : Int} {tgt : Nat} (hdg : decode cc pc = .ok (.if_icmp .ge off, 3)) (ht : (pc : Int) + off = (tgt : Int)) (kt : b ≤ a → W p l e R s m args below meth c H locs cells slots Q (F0 m tgt ls rest)) (kf : a < b → W p l e R s m args below meth c H locs cells slots Q (F0 m (pc + 3) ls rest)) (h1 : a < 2147483648 := by omega) (h2 : b < 2147483648 := by omega) : W p l e R s m args below meth c H locs cells slots Q (F0 m pc ls (.int (nI b) :: .int (nI a) :: rest)) :=
  lv_icmp_ge hx hb hdg ht (fun h => kt ((nI_leI h2 h1).mp h)) (fun h => kf (Nat.lt_of_not_le (fun q => h ((nI_leI h2 h1).mpr q))))
theorem j_icmp_gt (hx : p.tables.exec = Jvm.exec) (hb : c.code = cc) {a b : Nat} {off : Int} {tgt : Nat} (hdg : decode cc pc = .ok (.if_icmp .gt off, 3)) (ht : (pc : Int) + off = (tgt : Int)) (kt : b < a → W p l e R s m args below meth c H locs cells slots Q (F0 m tgt ls rest)) (kf : a ≤ b → W p l e R s m args below meth c H locs cells slots Q (F0 m (pc + 3) ls rest)) (h1 : a < 2147483648 := by omega) (h2 : b < 2147483648 := by omega) : W p l e R s m args below meth c H locs cells slots Q (F0 m pc ls (.int (nI b) :: .int (nI a) :: rest)) :=
  lv_icmp_gt hx hb hdg ht (fun h => kt ((nI_ltI h2 h1).mp h)) (fun h => kf (Nat.le_of_not_lt (fun q => h ((nI_ltI h2 h1).mpr q))))
theorem j_icmp_le (hx : p.tables.exec = Jvm.exec) (hb : c.code = cc) {a b : Nat} {off : Int} {tgt : Nat} (hdg : decode cc pc = .ok (.if_icmp .le off, 3)) (ht : (pc : Int) + off = (tgt : Int)) (kt : a ≤ b → W p l e R s m args below meth c H locs cells slots Q (F0 m tgt ls rest)) (kf : b < a → W p l e R s m args below meth c H locs cells slots Q (F0 m (pc + 3) ls rest)) (h1 : a < 2147483648 := by omega) (h2 : b < 2147483648 := by omega) : W p l e R s m args below meth c H locs cells slots Q (F0 m pc ls (.int (nI b) :: .int (nI a) :: rest)) :=
  lv_icmp_le hx hb hdg ht (fun h => kt ((nI_leI h1 h2).mp h)) (fun h => kf (Nat.lt_of_not_le (fun q => h ((nI_leI h1 h2).mpr q))))
theorem j_if_eq (hx : p.tables.exec = Jvm.exec) (hb : c.code = cc) {a : Nat} {off : Int} {tgt : Nat} (hdg : decode cc pc = .ok (.ifCond .eq off, 3)) (ht : (pc : Int) + off = (tgt : Int)) (kt : a = 0 → W p l e R s m args below meth c H locs cells slots Q (F0 m tgt ls rest)) (kf : ¬ a = 0 → W p l e R s m args below meth c H locs cells slots Q (F0 m (pc + 3) ls rest)) (h1 : a < 4294967296 := by omega) : W p l e R s m args below meth c H locs cells slots Q (F0 m pc ls (.int (nI a) :: rest)) :=
  lv_if_eq hx hb hdg ht (fun h => kt ((nI_eqI h1 (Nat.le_of_ble_eq_true rfl)).mp (h.trans nI_0.symm))) (fun h => kf (fun q => h (by rw [q]; rfl)))
theorem j_if_ne (hx : p.tables.exec = Jvm.exec) (hb : c.code = cc) {a : Nat} {off : Int} {tgt : Nat} (hdg : decode cc pc = .ok (.ifCond .ne off, 3)) (ht : (pc : Int) + off = (tgt : Int)) (kt : ¬ a = 0 → W p l e R s m args below meth c H locs cells slots Q (F0 m tgt ls rest)) (kf : a = 0 → W p l e R s m args below meth c H locs cells slots Q (F0 m (pc + 3) ls rest)) (h1 : a < 4294967296 := by omega) : W p l e R s m args below meth c H locs cells slots Q (F0 m pc ls (.int (nI a) :: rest)) :=
  lv_if_ne hx hb hdg ht (fun h => kt (fun q => h (by rw [q]; rfl))) (fun h => kf ((nI_eqI h1 (Nat.le_of_ble_eq_true rfl)).mp (h.trans nI_0.symm)))
end JROWS
end
section
def nestW : List Cond := [.methodLinkNest "TripleTrap" 11 yX2_init "TripleTrap", .methodLinkNest "TripleTrap$Mender" 15 yX0_remainder "TripleTrap", .methodLinkNest "TripleTrap$Mender" 25 yX5_isBelow "TripleTrap", .methodLinkNest "TripleTrap" 18 yX1_init "TripleTrap", .methodLinkNest "TripleTrap$Held" 9 yX3_init "TripleTrap", .fieldLinkNest "TripleTrap" 95 "TripleTrap$Moves" "size" "I" "TripleTrap", .fieldLinkNest "TripleTrap" 108 "TripleTrap$Moves" "factors" "[I" "TripleTrap", .fieldLinkNest "TripleTrap" 111 "TripleTrap$Moves" "shifts" "[I" "TripleTrap", .methodLinkNest "TripleTrap$Held" 18 yX4_init "TripleTrap", .fieldLinkNest "TripleTrap" 128 "TripleTrap$Trust" "levels" "[I" "TripleTrap", .fieldLinkNest "TripleTrap" 91 "TripleTrap$Held" "moves" "LTripleTrap$Moves;" "TripleTrap", .fieldLinkNest "TripleTrap" 124 "TripleTrap$Held" "trust" "LTripleTrap$Trust;" "TripleTrap", .methodLinkNest "TripleTrap" 39 yX0_coded "TripleTrap", .methodLinkNest "TripleTrap" 46 yX0_remainder "TripleTrap", .methodLinkNest "TripleTrap" 54 yX2_nearest "TripleTrap", .methodLinkNest "TripleTrap" 57 yX2_distance "TripleTrap", .methodLinkNest "TripleTrap" 60 yX0_message "TripleTrap", .methodLinkNest "TripleTrap" 67 yX0_turn "TripleTrap", .methodLinkNest "TripleTrap" 70 yX0_trapErrors "TripleTrap", .methodLinkNest "TripleTrap" 73 yX0_turnBack "TripleTrap", .methodLinkNest "TripleTrap" 76 yX0_widen "TripleTrap", .methodLinkNest "TripleTrap" 84 yX0_staysInCode "TripleTrap", .methodLinkNest "TripleTrap" 87 yX0_carry "TripleTrap", .methodLinkNest "TripleTrap" 100 yX3_append "TripleTrap", .methodLinkNest "TripleTrap$Moves" 25 yX0_carryBack "TripleTrap", .methodLinkNest "TripleTrap" 104 yX3_removeAt "TripleTrap", .methodLinkNest "TripleTrap$Moves" 31 yX5_isBelow "TripleTrap", .methodLinkNest "TripleTrap" 114 yX3_coveredByFirst "TripleTrap", .methodLinkNest "TripleTrap" 117 yX0_carryBack "TripleTrap", .methodLinkNest "TripleTrap" 120 yX3_firstNotCovered "TripleTrap", .methodLinkNest "TripleTrap" 133 yX4_weakestBut "TripleTrap", .methodLinkNest "TripleTrap" 145 yX4_sum "TripleTrap", .methodLinkNest "TripleTrap" 148 yX1_copyFrom "TripleTrap", .methodLinkNest "TripleTrap$Held" 23 yX3_copyFrom "TripleTrap", .methodLinkNest "TripleTrap$Held" 27 yX4_copyFrom "TripleTrap"]
def isNest : Cond → Bool
  | .methodLinkNest _ _ _ _ => true
  | .fieldLinkNest _ _ _ _ _ _ => true
  | _ => false
theorem nestW_ok : nestW.all isNest = true := rfl
theorem nest_warm {w : Cond} (h : isNest w = true) {s U : State} (hW : s.WarmedH U.vm) (hZ : va_Nw w s) : va_Nw w U := by
  cases w <;> first | exact hZ.warmM hW | exact hZ.warmF hW | (simp [isNest] at h; done) | exact va_Nw.warmM hW hZ | exact va_Nw.warmF hW hZ
theorem nest_same {w : Cond} (h : isNest w = true) {s U : State} (hW : s.vm = U.vm) (hZ : va_Nw w s) : va_Nw w U := by
  refine va_Nw.same ?_ hW hZ
  cases w <;> first | rfl | (simp [isNest] at h; done)
abbrev EG : Type := va_G × ClassId × ClassId × ClassId
abbrev tyL (G : EG) : List (ClassId × FieldType) := [(G.2.1, .int), (G.2.2.1, .boolean), (G.2.2.2, .object "TripleTrap$Held")]
/-- what the tables say, for every method: the classes, the array classes, the links among nest mates -/
def Ev (G : EG) (U : State) : Prop := va_K G.1 vwCl (tyL G) U ∧ (∀ w ∈ nestW, va_Nw w U) ∧ va_AO "TripleTrap$Held" U
theorem Ev.warm {G : EG} {s U : State} (hW : s.WarmedH U.vm) (h : Ev G s) : Ev G U := ⟨va_K.moved hW.alike h.1, fun w hw => nest_warm (List.all_eq_true.mp nestW_ok w hw) hW (h.2.1 w hw), va_AO.moved hW.alike h.2.2⟩
theorem Ev.calling {G : EG} {U : State} (g : JFrame) (mk : MethodId) (a : Array Value) (h : Ev G U) : Ev G (U.calling g mk a) := ⟨va_K.moved (u := U) (U := U.calling g mk a) (Vm.Alike.refl U.vm) h.1, fun w hw => nest_same (s := U) (U := U.calling g mk a) (List.all_eq_true.mp nestW_ok w hw) rfl (h.2.1 w hw), va_AO.moved (u := U) (U := U.calling g mk a) (Vm.Alike.refl U.vm) h.2.2⟩
theorem Ev.nest {G : EG} {U : State} (h : Ev G U) {w : Cond} (i : Nat) (hi : nestW[i]? = some w) : va_Nw w U := h.2.1 w (List.mem_of_getElem? hi)
theorem Ev.nestB {G : EG} {U : State} (h : Ev G U) {args : Array Value} {w : Cond} (i : Nat) (hi : nestW[i]? = some w) (hw : w.onTables = true) : w.before args U = true := va_Nw.use hw (h.2.1 w (List.mem_of_getElem? hi))
/-- an int array of Nats, a boolean one, one of references -/
abbrev aI (G : EG) (n : Nat) (F : Nat → Nat) : va_E := .inl (G.2.1, n, .inl (fun i => nI (F i)))
abbrev aZ (G : EG) (n : Nat) (F : Nat → Nat) : va_E := .inl (G.2.2.1, n, .inl (fun i => nI (F i)))
abbrev aO (G : EG) (n : Nat) (F : Nat → Option Nat) : va_E := .inl (G.2.2.2, n, .inr (.inr (.inr (.inr F))))
theorem upd_nI (F : Nat → Nat) {k : Nat} (x : Nat) (hk : k < 2147483648) : upd (fun i => nI (F i)) (nI k).toNatClampNeg (nI x) = fun i => nI (va_up F k x i) := by
  rw [nI_clamp hk]
  funext j
  by_cases h : j = k
  · simp [upd, va_up, h]
  · simp [upd, va_up, h]
section JW
variable {p : Program} {l : Launch} {e : Env} {R : Room} {s : State} {m : MethodId} {args : Array Value} {below : List Frame} {meth : Method} {c : Code} {H : Heap} {locs : List Loc} {cells slots : Nat} {Q : State → Prop}
variable {cc : ByteArray} {pc : Nat} {ls : Array Slot} {rest : List Value} {G : EG} {A : Nat → Prop} {a : Nat} {ws : va_W} {H0 : Heap}
theorem j_iald (hx : p.tables.exec = Jvm.exec) (hb : c.code = cc) (hE : Ev G s) (hP : va_P G.1 vwCl ws H) (q0 : Nat) {n k : Nat} {F : Nat → Nat} (ha : ws[q0]? = some (a, aI G n F)) (hdg : decode cc pc = .ok (.iaload, 1)) (kk : W p l e R s m args below meth c H locs cells slots Q (F0 m (pc + 1) ls (.int (nI (F k)) :: rest))) (hk : k < n := by omega) (hn : n < 2147483648 := by omega) : W p l e R s m args below meth c H locs cells slots Q (F0 m pc ls (.int (nI k) :: .ref a :: rest)) :=
  va_iald hx hb hE.1 hP q0 0 ha rfl (vp_in_nI hk hn) hdg (by rw [nI_clamp (Nat.lt_trans hk hn)]; exact kk)
theorem j_zald (hx : p.tables.exec = Jvm.exec) (hb : c.code = cc) (hE : Ev G s) (hP : va_P G.1 vwCl ws H) (q0 : Nat) {n k : Nat} {F : Nat → Nat} (ha : ws[q0]? = some (a, aZ G n F)) (hdg : decode cc pc = .ok (.baload, 1)) (kk : W p l e R s m args below meth c H locs cells slots Q (F0 m (pc + 1) ls (.int (nI (F k)) :: rest))) (hk : k < n := by omega) (hn : n < 2147483648 := by omega) : W p l e R s m args below meth c H locs cells slots Q (F0 m pc ls (.int (nI k) :: .ref a :: rest)) :=
  va_zald hx hb hE.1 hP q0 1 ha rfl (vp_in_nI hk hn) hdg (by rw [nI_clamp (Nat.lt_trans hk hn)]; exact kk)
theorem j_iast (hx : p.tables.exec = Jvm.exec) (hb : c.code = cc) (hE : Ev G s) (hP : va_P G.1 vwCl ws H) (hD : va_D A ws) (hS : va_S A H0 H locs) (q0 : Nat) {n k x : Nat} {F : Nat → Nat} (ha : ws[q0]? = some (a, aI G n F)) (hdg : decode cc pc = .ok (.iastore, 1)) (kk : ∀ (H1 : Heap) (locs1 : List Loc), va_P G.1 vwCl (ws.set q0 (a, aI G n (va_up F k x))) H1 → va_D A (ws.set q0 (a, aI G n (va_up F k x))) → va_S A H0 H1 locs1 → W p l e R s m args below meth c H1 locs1 cells slots Q (F0 m (pc + 1) ls rest)) (hk : k < n := by omega) (hn : n < 2147483648 := by omega) : W p l e R s m args below meth c H locs cells slots Q (F0 m pc ls (.int (nI x) :: .int (nI k) :: .ref a :: rest)) :=
  va_iast hx hb hE.1 hP hD hS q0 0 ha rfl (vp_in_nI hk hn) hdg (by rw [upd_nI F x (Nat.lt_trans hk hn)]; exact kk)
theorem j_zast (hx : p.tables.exec = Jvm.exec) (hb : c.code = cc) (hE : Ev G s) (hP : va_P G.1 vwCl ws H) (hD : va_D A ws) (hS : va_S A H0 H locs) (q0 : Nat) {n k : Nat} {F : Nat → Nat} (ha : ws[q0]? = some (a, aZ G n F)) (hdg : decode cc pc = .ok (.bastore, 1)) (kk : ∀ (H1 : Heap) (locs1 : List Loc), va_P G.1 vwCl (ws.set q0 (a, aZ G n (va_up F k 1))) H1 → va_D A (ws.set q0 (a, aZ G n (va_up F k 1))) → va_S A H0 H1 locs1 → W p l e R s m args below meth c H1 locs1 cells slots Q (F0 m (pc + 1) ls rest)) (hk : k < n := by omega) (hn : n < 2147483648 := by omega) : W p l e R s m args below meth c H locs cells slots Q (F0 m pc ls (.int (nI 1) :: .int (nI k) :: .ref a :: rest)) :=
  va_zast hx hb hE.1 hP hD hS q0 1 ha rfl (vp_in_nI hk hn) hdg (by rw [show vp_nar .boolean (nI 1) = nI 1 from rfl, upd_nI F 1 (Nat.lt_trans hk hn)]; exact kk)
end JW
/-! methods that only read: what they answer, the heap as it was -/
def preR (G : EG) (w : va_W) (av : List Value) : Array Value → State → Prop := va_Pc av (fun U => va_P G.1 vwCl w U.heap ∧ Ev G U)
theorem preR_blind (G : EG) (w : va_W) (av : List Value) : FrameBlind (preR G w av) := fun a U g mk h => ⟨h.1, h.2.1, h.2.2.calling g mk a⟩
abbrev rmR (f n : Nat) : Room := { frames := f, cells := 0, slots := 0, locals := n }
abbrev RO (l : Launch) (y : MethodName) (ws : List Cond) (rm : Room) (G : EG) (w : va_W) (av : List Value) (r : Value) : Prop := Met l y ws rm (preR G w av) (k2_QcV r) 0 0 (fun _ => False)
theorem RO.start {l : Launch} {y : MethodName} {ws ws' : List Cond} {rm : Room} {G : EG} {w : va_W} {av : List Value} {r : Value} {cc : ByteArray} {maxL : Nat} {ret : Option FieldType} (hy : plainName y.cls = true) (hw : ws = Cond.code y cc maxL ret :: ws') (hn : (lg_sl av).length ≤ maxL)
    (body : ∀ (p : Program) (e : Env) (s : State) (m : MethodId) (below : List Frame) (meth : Method) (c : Code), p.tables.exec = Jvm.exec → c.code = cc → meth.sig.returnType = ret → c.maxLocals = maxL → (∀ w ∈ ws, w.before av.toArray s = true) → s.vm.findClass y.cls = some m.cls → meth.locks = false → va_P G.1 vwCl w s.heap → Ev G s → ∀ ls : Array Slot, lv_has ls maxL (lv_args 0 av) → W p l e rm s m av.toArray below meth c s.heap [] 0 0 (MQ below (k2_QcV r) av.toArray s 0 0 (fun _ => False)) (F0 m 0 ls [])) : RO l y ws rm G w av r := by
  refine Met.ofW hy hw ?_
  intro p e s m args below meth c s₁ B hml hv
  obtain ⟨rfl, hP, hE⟩ := hv
  have hl := lv_entry av hn
  rw [lg_entry_eq]
  exact body p e s m below meth c B.exec B.bytes B.returns hml (atoms_spec (ws := ws) B.pre) (findClass_of_methodNamed B.named) B.notSynchronized hP hE _ hl
section ROK
variable {p : Program} {l : Launch} {e : Env} {R : Room} {s : State} {m : MethodId} {args : Array Value} {below : List Frame} {meth : Method} {c : Code} {H : Heap} {locs : List Loc} {cells slots : Nat} {Q : State → Prop}
variable {cc bytes : ByteArray} {pc nL maxL n index ci q0 b : Nat} {ls : Array Slot} {rest As : List Value} {G : EG} {w wc : va_W} {ws Ts : List Cond} {own host C : String} {y : MethodName} {ret : Option FieldType} {rm : Room} {r : Value}
theorem ro_ret {v : Int32} (hx : p.tables.exec = Jvm.exec) (hb : c.code = cc) (hr : meth.sig.returnType = some .int) (hlocks : meth.locks = false) (hdg : decode cc pc = .ok (.ireturn, 1)) (hv : r = .int v) : W p l e R s m args below meth c s.heap [] 0 0 (MQ below (k2_QcV r) args s 0 0 (fun _ => False)) (F0 m pc ls [.int v]) :=
  W.iret hx hb hr (fun t ht _ => ⟨by rw [hv], ht⟩) (fun _ h => by cases h) hdg hlocks
theorem ro_zret {v : Int32} (hx : p.tables.exec = Jvm.exec) (hb : c.code = cc) (hr : meth.sig.returnType = some .boolean) (hlocks : meth.locks = false) (hdg : decode cc pc = .ok (.ireturn, 1)) (hv : r = .int v) (hn : narrow .boolean (.int v) = .int v) : W p l e R s m args below meth c s.heap [] 0 0 (MQ below (k2_QcV r) args s 0 0 (fun _ => False)) (F0 m pc ls [.int v]) :=
  W.zret hx hb hr hn (fun t ht _ => ⟨by rw [hv], ht⟩) (fun _ h => by cases h) hdg hlocks
theorem preR_S (hE : Ev G s) (hP : va_P G.1 vwCl wc H) : PreS s H (preR G wc As) As := ⟨preR_blind G wc As, fun U hU hW => ⟨rfl, by rw [hU]; exact hP, hE.warm hW⟩⟩
theorem preR_V {q : vw_C} {fs : List Value} (hE : Ev G s) (hP : va_P G.1 vwCl wc H) (hc : vwCl[ci]? = some q) (he : wc[q0]? = some (b, .inr (ci, fs))) : PreV s H q.1 b (preR G wc (.ref b :: As)) As := ⟨preR_blind G wc _, va_recv hE.1 hP hc he, fun U hU hW => ⟨rfl, by rw [hU]; exact hP, hE.warm hW⟩⟩
theorem ro_S (S : CallFix p m c cc nL s args Ts own) (hM : RO l y ws rm G wc As r) (cw : CallB R s args own index y bytes maxL ret ws rm 0 0 n ∧ (Cond.static y).before args s = true) (hE : Ev G s) (hP : va_P G.1 vwCl wc H) (hn : As.length = n) (hsize : ls.size = nL) {st : List Value} (hst : st = As.reverse ++ rest) (hW : (rest.map fun v => v.category).sum ≤ 8) (hdg : decode cc pc = .ok (.invokestatic index, 3)) (hf : cells ≤ R.cells ∧ slots ≤ R.slots)
    (kk : W p l e R s m args below meth c H locs cells slots Q (F0 m (pc + 3) ls (r :: rest))) : W p l e R s m args below meth c H locs cells slots Q (F0 m pc ls st) :=
  W.callV (va_runS S hM cw (preR_S hE hP) rfl hn hsize hst (lv_room hW) hdg hf).run kk
theorem ro_SN (S : CallFix p m c cc nL s args Ts own) (hM : RO l y ws rm G wc As r) (cw : va_CN R s args own index y host bytes maxL ret ws rm 0 0 n ∧ (Cond.static y).before args s = true ∧ True) (hE : Ev G s) (hP : va_P G.1 vwCl wc H) (hn : As.length = n) (hsize : ls.size = nL) {st : List Value} (hst : st = As.reverse ++ rest) (hW : (rest.map fun v => v.category).sum ≤ 8) (hdg : decode cc pc = .ok (.invokestatic index, 3)) (hf : cells ≤ R.cells ∧ slots ≤ R.slots)
    (kk : W p l e R s m args below meth c H locs cells slots Q (F0 m (pc + 3) ls (r :: rest))) : W p l e R s m args below meth c H locs cells slots Q (F0 m pc ls st) :=
  W.callV (va_runSN S hM cw (preR_S hE hP) rfl hn hsize hst (lv_room hW) hdg hf).run kk
theorem ro_V (ci q0 : Nat) {q : vw_C} {fs : List Value} (S : CallFix p m c cc nL s args Ts own) (hM : RO l y ws rm G wc (.ref b :: As) r) (cw : CallW R s args own q.1 index y bytes maxL ret ws rm 0 0 n) (hE : Ev G s) (hP : va_P G.1 vwCl wc H) (hc : vwCl[ci]? = some q) (he : wc[q0]? = some (b, .inr (ci, fs))) (hn : As.length = n) (hsize : ls.size = nL) {st : List Value} (hst : st = As.reverse ++ .ref b :: rest) (hW : (rest.map fun v => v.category).sum ≤ 8) (hdg : decode cc pc = .ok (.invokevirtual index, 3)) (hf : cells ≤ R.cells ∧ slots ≤ R.slots)
    (kk : W p l e R s m args below meth c H locs cells slots Q (F0 m (pc + 3) ls (r :: rest))) : W p l e R s m args below meth c H locs cells slots Q (F0 m pc ls st) :=
  W.callV (va_runV S hM cw (preR_V hE hP hc he) rfl hn hsize hst (lv_room hW) hdg hf).run kk
theorem ro_VN (ci q0 : Nat) {q : vw_C} {fs : List Value} (S : CallFix p m c cc nL s args Ts own) (hM : RO l y ws rm G wc (.ref b :: As) r) (cw : va_CN R s args own index y host bytes maxL ret ws rm 0 0 n ∧ (Cond.instanceMethod y).before args s = true ∧ (Cond.selects q.1 y y).before args s = true) (hE : Ev G s) (hP : va_P G.1 vwCl wc H) (hc : vwCl[ci]? = some q) (he : wc[q0]? = some (b, .inr (ci, fs))) (hn : As.length = n) (hsize : ls.size = nL) {st : List Value} (hst : st = As.reverse ++ .ref b :: rest) (hW : (rest.map fun v => v.category).sum ≤ 8) (hdg : decode cc pc = .ok (.invokevirtual index, 3)) (hf : cells ≤ R.cells ∧ slots ≤ R.slots)
    (kk : W p l e R s m args below meth c H locs cells slots Q (F0 m (pc + 3) ls (r :: rest))) : W p l e R s m args below meth c H locs cells slots Q (F0 m pc ls st) :=
  W.callV (va_runVN S hM cw (preR_V hE hP hc he) rfl hn hsize hst (lv_room hW) hdg hf).run kk
end ROK
end
section
/-! rows that the generator uses beside the j_ rows -/
section JT
variable {p : Program} {l : Launch} {e : Env} {R : Room} {s : State} {m : MethodId} {args : Array Value} {below : List Frame} {meth : Method} {c : Code} {H : Heap} {locs : List Loc} {cells slots : Nat} {Q : State → Prop}
variable {pc : Nat} {ls : Array Slot} {rest : List Value}
theorem j_top {a : Nat} (k : ∀ y : Nat, y = a → W p l e R s m args below meth c H locs cells slots Q (F0 m pc ls (.int (nI y) :: rest))) : W p l e R s m args below meth c H locs cells slots Q (F0 m pc ls (.int (nI a) :: rest)) := k a rfl
theorem j_bool {b : Bool} (kt : b = true → W p l e R s m args below meth c H locs cells slots Q (F0 m pc ls (.int (nI 1) :: rest))) (kf : b = false → W p l e R s m args below meth c H locs cells slots Q (F0 m pc ls (.int (nI 0) :: rest))) : W p l e R s m args below meth c H locs cells slots Q (F0 m pc ls (.int (nI b.toNat) :: rest)) := by
  cases b
  · exact kf rfl
  · exact kt rfl
theorem j_opt {P : Prop} [Decidable P] {x y : Int32} (kt : P → W p l e R s m args below meth c H locs cells slots Q (F0 m pc ls (.int x :: rest))) (kf : ¬ P → W p l e R s m args below meth c H locs cells slots Q (F0 m pc ls (.int y :: rest))) : W p l e R s m args below meth c H locs cells slots Q (F0 m pc ls (.int (if P then x else y) :: rest)) := by
  by_cases h : P
  · rw [if_pos h]; exact kt h
  · rw [if_neg h]; exact kf h
end JT
theorem i32_ne {x : Int32} {k : Nat} (h : ¬ x = nI k) (hk : k < 2147483648) : x.toInt ≠ (k : Int) := fun q => h (Int32.toInt_inj.mp (by rw [nI_toInt hk]; exact q))
def blw (x : Int32) (N : Nat) : Bool := decide (¬ x < 0 ∧ ¬ nI N ≤ x)
theorem blw_t {x : Int32} {N : Nat} (h1 : ¬ x < 0) (h2 : ¬ nI N ≤ x) : blw x N = true := decide_eq_true ⟨h1, h2⟩
theorem blw_f1 {x : Int32} {N : Nat} (h1 : x < 0) : blw x N = false := decide_eq_false (fun h => h.1 h1)
theorem blw_f2 {x : Int32} {N : Nat} (h1 : nI N ≤ x) : blw x N = false := decide_eq_false (fun h => h.2 h1)
theorem blw_ex {x : Int32} {N : Nat} (h : blw x N = true) (hN : N < 2147483648) : ∃ j : Nat, j < N ∧ x = nI j := by
  obtain ⟨h1, h2⟩ := of_decide_eq_true h
  obtain ⟨j, hj, rfl⟩ := nI_of h1
  exact ⟨j, Nat.lt_of_not_le (fun q => h2 (nI_le q hj)), rfl⟩
theorem blw_nI {j N : Nat} (hj : j < 2147483648) (hN : N < 2147483648) : blw (nI j) N = decide (j < N) := by
  unfold blw
  rw [decide_eq_decide]
  constructor
  · intro h
    exact Nat.lt_of_not_le (fun q => h.2 (nI_le q hj))
  · intro h
    exact ⟨nI_pos hj, nI_ge h hN⟩
theorem blw_j {j N : Nat} (hj : j < N) (hN : N < 2147483648) : blw (nI j) N = true := by
  rw [blw_nI (Nat.lt_trans hj hN) hN]; exact decide_eq_true hj
def mvOk (a b : Int32) : Bool := decide (a ≠ 0 ∧ blw a 23 = true ∧ blw b 23 = true)
/-! the mirrors of the static methods, over Nat -/
def bcN (x : Nat) : Nat :=
  let a := x - (x >>> 1 &&& 1431655765)
  let b := (a &&& 858993459) + (a >>> 2 &&& 858993459)
  let c := (b + b >>> 4) &&& 252645135
  let d := c + c >>> 8
  let e := d + d >>> 16
  e &&& 63
def remStep (v p : Nat) : Nat := if (v >>> p &&& 1) = 1 then v ^^^ (3189 <<< (p - 11)) else v
def remL : Nat → Nat → Nat
  | 0, v => v
  | n + 1, v => remL n (remStep v (n + 11))
def remN (v : Nat) : Nat := remL 12 v
def codedN (m : Nat) : Nat := (m <<< 11) ||| remN (m <<< 11)
def widenN (w : Nat) : Nat := w ||| ((bcN w &&& 1) <<< 23)
def turnN (w n : Nat) : Nat := ((w <<< n) ||| (w >>> (23 - n))) &&& 8388607
def chgN (way : Nat) : Nat := if way = 0 then 0 else if way = 1 then 65536 else 131072
def errN (w way : Nat) : Nat := remN (w ^^^ chgN way) ||| chgN way
def tgtN (p a b : Nat) : Nat := (a * p + b) % 23
def carL (w a b : Nat) : Nat → Nat
  | 0 => 0
  | p + 1 => carL w a b p ||| ((w >>> p &&& 1) <<< tgtN p a b)
def carN (w a b : Nat) : Nat := carL w a b 23
def bakL (w a b : Nat) : Nat → Nat
  | 0 => 0
  | p + 1 => bakL w a b p ||| ((w >>> tgtN p a b &&& 1) <<< p)
def bakN (w a b : Nat) : Nat := bakL w a b 23
def stayN (a b : Nat) : Bool := (List.range 12).all (fun i => decide (remN (carN (3189 <<< i) a b) = 0))
theorem remStep_lt {v p : Nat} (hv : v < 16777216) (hp : p ≤ 22) : remStep v p < 16777216 := by
  unfold remStep
  split
  · refine bd_xor 24 hv ?_
    rw [Nat.shiftLeft_eq]
    have : 2 ^ (p - 11) ≤ 2 ^ 11 := Nat.pow_le_pow_right (by decide) (by omega)
    omega
  · exact hv
theorem shl1_lt {x t n : Nat} (ht : t < n) : (x &&& 1) <<< t < 2 ^ n := by
  rw [Nat.shiftLeft_eq]
  have h1 : x &&& 1 ≤ 1 := Nat.and_le_right
  have h2 : 2 ^ t * 2 ≤ 2 ^ n := by rw [← Nat.pow_succ]; exact Nat.pow_le_pow_right (by decide) ht
  have h3 : (x &&& 1) * 2 ^ t ≤ 1 * 2 ^ t := Nat.mul_le_mul_right _ h1
  have h4 : 0 < 2 ^ t := Nat.two_pow_pos t
  omega
theorem tgtN_lt (p a b : Nat) : tgtN p a b < 23 := Nat.mod_lt _ (by decide)
theorem carL_lt (w a b : Nat) : ∀ k, carL w a b k < 8388608
  | 0 => Nat.le_of_ble_eq_true rfl
  | k + 1 => bd_or 23 (carL_lt w a b k) (shl1_lt (tgtN_lt k a b))
theorem bakL_lt (w a b : Nat) : ∀ k, k ≤ 23 → bakL w a b k < 8388608
  | 0, _ => Nat.le_of_ble_eq_true rfl
  | k + 1, h => bd_or 23 (bakL_lt w a b k (by omega)) (shl1_lt (by omega))
theorem tg_bd {p a b : Nat} (hp : p < 24) (ha : a < 24) (hb : b < 24) : a * p + b < 2147483648 := by
  have : a * p ≤ 23 * 23 := Nat.mul_le_mul (by omega) (by omega)
  omega
theorem remL_succ (n v : Nat) : remL (n + 1) v = remL n (remStep v (n + 11)) := rfl
theorem remL_lt : ∀ n v, n ≤ 12 → v < 16777216 → remL n v < 16777216
  | 0, v, _, h => h
  | n + 1, v, hn, h => remL_lt n _ (by omega) (remStep_lt h (by omega))
theorem remN_lt {v : Nat} (h : v < 16777216) : remN v < 16777216 := remL_lt 12 v (by decide) h
theorem remStep_t {v p : Nat} (h : v >>> p &&& 1 = 1) : remStep v p = v ^^^ (3189 <<< (p - 11)) := if_pos h
theorem remStep_f {v p : Nat} (h : ¬ v >>> p &&& 1 = 1) : remStep v p = v := if_neg h
theorem stay_f {a b i : Nat} (hi : i < 12) (h : ¬ remN (carN (3189 <<< i) a b) = 0) : stayN a b = false := Bool.eq_false_iff.mpr (fun q => h (of_decide_eq_true (List.all_eq_true.mp q i (List.mem_range.mpr hi))))
theorem stay_t {a b : Nat} (h : ∀ i, i < 12 → remN (carN (3189 <<< i) a b) = 0) : stayN a b = true := List.all_eq_true.mpr (fun i hi => decide_eq_true (h i (List.mem_range.mp hi)))
theorem bcN_le (x : Nat) : bcN x ≤ 63 := Nat.and_le_right
theorem key_lt {k : Nat} (h : k ≤ 12) : 3189 <<< k < 16777216 := by
  have : 2 ^ k ≤ 2 ^ 12 := Nat.pow_le_pow_right (by decide) h
  rw [Nat.shiftLeft_eq]
  omega
end
section
/-! the mirrors of the reference's methods -/
def inI (x lo hi : Int32) : Bool := decide (lo ≤ x ∧ x ≤ hi)
theorem inI_f1 {x lo hi : Int32} (h : x < lo) : inI x lo hi = false := decide_eq_false (fun q => by
  have h1 := Int32.lt_iff_toInt_lt.mp h
  have h2 := Int32.le_iff_toInt_le.mp q.1
  omega)
theorem inI_f2 {x lo hi : Int32} (h : hi < x) : inI x lo hi = false := decide_eq_false (fun q => by
  have h1 := Int32.lt_iff_toInt_lt.mp h
  have h2 := Int32.le_iff_toInt_le.mp q.2
  omega)
theorem inI_t {x lo hi : Int32} (h1 : ¬ x < lo) (h2 : ¬ hi < x) : inI x lo hi = true := decide_eq_true (by
  have g1 : ¬ x.toInt < lo.toInt := fun q => h1 (Int32.lt_iff_toInt_lt.mpr q)
  have g2 : ¬ hi.toInt < x.toInt := fun q => h2 (Int32.lt_iff_toInt_lt.mpr q)
  exact ⟨Int32.le_iff_toInt_le.mpr (by omega), Int32.le_iff_toInt_le.mpr (by omega)⟩)
theorem inI_toInt (x lo hi : Int32) : inI x lo hi = decide (lo.toInt ≤ x.toInt ∧ x.toInt ≤ hi.toInt) := by
  unfold inI
  rw [decide_eq_decide, Int32.le_iff_toInt_le, Int32.le_iff_toInt_le]
theorem blw_toInt (x : Int32) {N : Nat} (hN : N < 2147483648) : blw x N = decide (0 ≤ x.toInt ∧ x.toInt < N) := by
  unfold blw
  rw [decide_eq_decide, Int32.lt_iff_toInt_lt, Int32.le_iff_toInt_le, nI_toInt hN, Int32.toInt_zero]
  omega
theorem inI_blw (x : Int32) {N : Nat} (h0 : 0 < N) (hN : N < 2147483648) : inI x (nI 0) (nI (N - 1)) = blw x N := by
  rw [inI_toInt, blw_toInt x hN, decide_eq_decide, nI_toInt (by omega), nI_toInt (by omega)]
  omega
theorem inI_sub (x : Int32) {N : Nat} (hN : N < 1073741824) : inI x (nI 0) (nI N - nI 1) = blw x N := by
  rw [inI_toInt, blw_toInt x (by omega), decide_eq_decide, nI_toInt (by omega), pk_sub_toInt hN (by decide)]
  omega
theorem inI_mv (x : Int32) : inI x (nI 1) (nI 22) = true ↔ (x ≠ 0 ∧ blw x 23 = true) := by
  rw [inI_toInt, blw_toInt x (by decide), decide_eq_true_iff, decide_eq_true_iff, nI_toInt (by decide), nI_toInt (by decide)]
  have : x ≠ 0 ↔ x.toInt ≠ 0 := by
    constructor
    · intro h q; exact h (Int32.toInt_inj.mp (by rw [q]; rfl))
    · intro h q; exact h (by rw [q]; rfl)
  rw [this]
  omega
theorem inI_ex {x : Int32} {N : Nat} {y : Int32} (hy : y = nI N) (h : inI x (nI 0) y = true) (hN : N < 2147483647) : ∃ j : Nat, j < N + 1 ∧ x = nI j := by
  rw [hy, show N = (N + 1) - 1 from rfl, inI_blw x (Nat.succ_pos N) (by omega)] at h
  exact blw_ex h (by omega)
def wtL (v : Nat) : Nat → Nat
  | 0 => 0
  | k + 1 => wtL v k + (v >>> k &&& 1)
def wtN (v : Nat) : Nat := wtL v 24
theorem wtL_le (v : Nat) : ∀ k, wtL v k ≤ k
  | 0 => Nat.le_refl 0
  | k + 1 => Nat.add_le_add (wtL_le v k) Nat.and_le_right
theorem wtN_le (v : Nat) : wtN v ≤ 24 := wtL_le v 24
def madeN (k : Nat) : Nat := (k <<< 11) + remN (k <<< 11)
/-- REST stays below 2 to the 11 -/
theorem remStep_lt2 {v n : Nat} (h : v < 2 ^ (n + 12)) : remStep v (n + 11) < 2 ^ (n + 11) := by
  refine Nat.lt_pow_two_of_testBit _ (fun i hi => ?_)
  have hz : ∀ j, n + 12 ≤ j → v.testBit j = false := fun j hj => Nat.testBit_lt_two_pow (Nat.lt_of_lt_of_le h (Nat.pow_le_pow_right (by decide) hj))
  have hb : (v >>> (n + 11) &&& 1 = 1) ↔ v.testBit (n + 11) = true := by
    rw [Nat.testBit, Nat.and_comm]
    have : v >>> (n + 11) &&& 1 < 2 := Nat.lt_of_le_of_lt Nat.and_le_right (by decide)
    rw [Nat.and_comm] at this
    rw [bne_iff_ne]
    omega
  have hk : ∀ j, 12 ≤ j → (3189 : Nat).testBit j = false := fun j hj => Nat.testBit_lt_two_pow (Nat.lt_of_lt_of_le (by decide : (3189 : Nat) < 2 ^ 12) (Nat.pow_le_pow_right (by decide) hj))
  unfold remStep
  split
  · rename_i hc
    rw [Nat.testBit_xor, Nat.testBit_shiftLeft, show n + 11 - 11 = n by omega]
    rcases Nat.eq_or_lt_of_le hi with e | e
    · subst e
      rw [hb.mp hc, show n + 11 - n = 11 by omega]
      have : decide (n + 11 ≥ n) = true := decide_eq_true (by omega)
      rw [this]
      decide
    · rw [hz i (by omega), hk (i - n) (by omega)]
      simp
  · rename_i hc
    rcases Nat.eq_or_lt_of_le hi with e | e
    · subst e
      exact Bool.eq_false_iff.mpr (fun q => hc (hb.mpr q))
    · exact hz i (by omega)
theorem remL_lt2 : ∀ n v, v < 2 ^ (n + 11) → remL n v < 2 ^ 11
  | 0, v, h => by rw [Nat.zero_add] at h; exact h
  | n + 1, v, h => by
    rw [remL_succ]
    exact remL_lt2 n _ (remStep_lt2 (by rw [show n + 12 = n + 1 + 11 by omega]; exact h))
theorem remN_lt11 {v : Nat} (h : v < 8388608) : remN v < 2048 := remL_lt2 12 v h
theorem shl11_lt {k : Nat} (h : k < 4096) : k <<< 11 < 8388608 := by rw [Nat.shiftLeft_eq]; omega
theorem made_lt {k : Nat} (h : k < 4096) : madeN k < 8388608 := by
  have h1 := remN_lt11 (shl11_lt h)
  unfold madeN
  rw [Nat.shiftLeft_eq] at h1 ⊢
  omega
def nearE (E : Nat → Nat) (w : Nat) : Nat := w ^^^ E (remN w)
theorem near_lt {E : Nat → Nat} {w : Nat} (hE : ∀ i, i < 2048 → E i < 8388608) (hw : w < 8388608) : nearE E w < 8388608 := bd_xor 23 hw (hE _ (remN_lt11 hw))
abbrev cl (x : Int32) : Nat := x.toNatClampNeg
theorem cl_nI {j N : Nat} (h : j < N) (hN : N ≤ 2147483648) : cl (nI j) = j := nI_clamp (Nat.lt_of_lt_of_le h hN)
def mMade (x : Int32) : Int32 := if blw x 4096 = true then nI (madeN (cl x)) else -2
def mRest (x : Int32) : Int32 := if blw x 8388608 = true then nI (remN (cl x)) else -2
def mOf (E : Nat → Nat) (x y : Int32) : Int32 := if blw x 8388608 = true then (if y = nI 0 then nI (wtN (cl x)) else if y = nI 1 then nI (nearE E (cl x)) else if y = nI 2 then nI (wtN (E (remN (cl x)))) else if y = nI 3 then nI (nearE E (cl x) >>> 11) else -2) else -2
def aroL (w d : Nat) : Nat → Nat
  | 0 => 0
  | k + 1 => aroL w d k + (if wtN (madeN k ^^^ w) = d then 1 else 0)
def mAround (x y : Int32) : Int32 := if blw x 8388608 = true ∧ blw y 24 = true then nI (aroL (cl x) (cl y) 4096) else -2
theorem aroL_le (w d : Nat) : ∀ k, aroL w d k ≤ k
  | 0 => Nat.le_refl 0
  | k + 1 => Nat.add_le_add (aroL_le w d k) (by split <;> decide)
def trnL (w r : Nat) : Nat → Nat
  | 0 => 0
  | k + 1 => trnL w r k ||| ((w >>> k &&& 1) <<< ((k + r) % 23))
def trnN (w r : Nat) : Nat := trnL w r 23
theorem trnL_lt (w r : Nat) : ∀ k, trnL w r k < 8388608
  | 0 => Nat.le_of_ble_eq_true rfl
  | k + 1 => bd_or 23 (trnL_lt w r k) (shl1_lt (Nat.mod_lt _ (by decide)))
def mTurned (x y : Int32) : Int32 := if blw x 8388608 = true ∧ blw y 23 = true then nI (trnN (cl x) (cl y)) else -2
def catB (way : Nat) : Nat := if way = 0 then 0 else 1 <<< (15 + way)
def catR (w way : Nat) : Nat := remN (w ^^^ catB way)
def catOk (w way : Nat) : Bool := decide (wtN (catR w way) ≤ (if way = 0 then 3 else 2))
def catE (w way : Nat) : Nat := catR w way ||| catB way
theorem catB_lt {way : Nat} (h : way < 3) : catB way < 8388608 := by
  have : way = 0 ∨ way = 1 ∨ way = 2 := by omega
  rcases this with rfl | rfl | rfl <;> decide
theorem catR_lt {w way : Nat} (hw : w < 8388608) (h : way < 3) : catR w way < 2048 := remN_lt11 (bd_xor 23 hw (catB_lt h))
theorem catE_lt {w way : Nat} (hw : w < 8388608) (h : way < 3) : catE w way < 8388608 := bd_or 23 (Nat.lt_trans (catR_lt hw h) (by decide)) (catB_lt h)
def trpV (w j r way : Nat) : Int32 := if j = 0 then nI r else if j = 1 then nI way else nI (trnN (catE (trnN w r) way) (23 - r))
def trpW (w j r : Nat) (d : Int32) : Nat → Int32
  | 0 => d
  | k + 1 => if catOk (trnN w r) (2 - k) = true then trpV w j r (2 - k) else trpW w j r d k
def trpT (w j : Nat) : Nat → Int32
  | 0 => -6
  | k + 1 => trpW w j (22 - k) (trpT w j k) 3
def mTrapped (x y : Int32) : Int32 := if blw x 8388608 = true ∧ blw y 3 = true then trpT (cl x) (cl y) 23 else -2
def wdnN (w : Nat) : Nat := w ||| ((wtN w % 2) <<< 23)
def mWide (x : Int32) : Int32 := if blw x 4096 = true then nI (wdnN (madeN (cl x))) else -2
theorem wdn_lt {w : Nat} (h : w < 8388608) : wdnN w < 16777216 := by
  refine bd_or 24 (Nat.lt_trans h (by decide)) ?_
  rw [Nat.shiftLeft_eq]
  have := Nat.mod_lt (wtN w) (show 2 > 0 by decide)
  omega
def mRead (E : Nat → Nat) (x y : Int32) : Int32 := if blw x 16777216 = true ∧ blw y 2 = true then (if wtN (wdnN (nearE E (cl x % 8388608)) ^^^ cl x) ≤ 3 then (if cl y = 0 then nI (nearE E (cl x % 8388608) >>> 11) else nI (wtN (wdnN (nearE E (cl x % 8388608)) ^^^ cl x))) else -6) else -2
def kepN (a b : Nat) : Bool := (List.range 12).all (fun i => decide (remN (carN (madeN (1 <<< i)) a b) = 0))
theorem kep_f {a b i : Nat} (hi : i < 12) (h : ¬ remN (carN (madeN (1 <<< i)) a b) = 0) : kepN a b = false := Bool.eq_false_iff.mpr (fun q => h (of_decide_eq_true (List.all_eq_true.mp q i (List.mem_range.mpr hi))))
theorem kep_t {a b : Nat} (h : ∀ i, i < 12 → remN (carN (madeN (1 <<< i)) a b) = 0) : kepN a b = true := List.all_eq_true.mpr (fun i hi => decide_eq_true (h i (List.mem_range.mp hi)))
theorem shl_4096 {k : Nat} (h : k < 12) : 1 <<< k < 4096 := by
  rw [Nat.shiftLeft_eq, Nat.one_mul]
  exact Nat.pow_lt_pow_right (by decide) h
def mKeeps (x y : Int32) : Int32 := if mvOk x y = true then (if kepN (cl x) (cl y) = true then nI 1 else nI 0) else -2
def mMoved (x y z : Int32) : Int32 := if blw x 8388608 = true ∧ mvOk y z = true then nI (carN (cl x) (cl y) (cl z)) else -2
theorem mv_ex {x y : Int32} (h : mvOk x y = true) : ∃ a b : Nat, 0 < a ∧ a < 23 ∧ b < 23 ∧ x = nI a ∧ y = nI b := by
  obtain ⟨h1, h2, h3⟩ := of_decide_eq_true h
  obtain ⟨a, ha, rfl⟩ := blw_ex h2 (by decide)
  obtain ⟨b, hb, rfl⟩ := blw_ex h3 (by decide)
  refine ⟨a, b, Nat.pos_of_ne_zero (fun q => h1 (by rw [q]; rfl)), ha, hb, rfl, rfl⟩
theorem mv_nI {a b : Nat} (h0 : 0 < a) (ha : a < 23) (hb : b < 23) : mvOk (nI a) (nI b) = true := decide_eq_true ⟨nI_ne0 h0 (by omega), blw_j ha (by decide), blw_j hb (by decide)⟩
end
section
/-! methods that write cells of their world, and make none -/
def preW (G : EG) (sz : Nat) (w : va_W) (av : List Value) : Array Value → State → Prop := va_Pc av (fun U => U.heap.size = sz ∧ va_P G.1 vwCl w U.heap ∧ Ev G U ∧ va_D (fun _ => True) w)
theorem preW_blind (G : EG) (sz : Nat) (w : va_W) (av : List Value) : FrameBlind (preW G sz w av) := fun a U g mk h => ⟨h.1, h.2.1, h.2.2.1, h.2.2.2.1.calling g mk a, h.2.2.2.2⟩
def postW (G : EG) (w : va_W) (r : Option Value) (A : Nat → Prop) : Array Value → State → Outcome → State → Prop := fun _ st oc t => (oc = .returned r ∧ va_P G.1 vwCl w t.heap ∧ va_D A w) ∧ va_F A st t
abbrev WR (l : Launch) (y : MethodName) (ws : List Cond) (rm : Room) (G : EG) (sz : Nat) (w : va_W) (av : List Value) (w1 : va_W) (r : Option Value) : Prop := Met l y ws rm (preW G sz w av) (postW G w1 r (va_A w sz)) 0 0 (va_A w sz)
theorem WR.start {l : Launch} {y : MethodName} {ws ws' : List Cond} {rm : Room} {G : EG} {sz : Nat} {w w1 : va_W} {av : List Value} {r : Option Value} {cc : ByteArray} {maxL : Nat} {ret : Option FieldType} (hy : plainName y.cls = true) (hw : ws = Cond.code y cc maxL ret :: ws') (hn : (lg_sl av).length ≤ maxL)
    (body : ∀ (p : Program) (e : Env) (s : State) (m : MethodId) (below : List Frame) (meth : Method) (c : Code), p.tables.exec = Jvm.exec → c.code = cc → meth.sig.returnType = ret → c.maxLocals = maxL → (∀ w ∈ ws, w.before av.toArray s = true) → s.vm.findClass y.cls = some m.cls → meth.locks = false → Ev G s → ∀ A : Nat → Prop, (∀ q, s.heap.size ≤ q → A q) → ∀ (H : Heap) (locs : List Loc), va_P G.1 vwCl w H → va_D A w → va_S A s.heap H locs → ∀ ls : Array Slot, lv_has ls maxL (lv_args 0 av) → W p l e rm s m av.toArray below meth c H locs 0 0 (MQ below (postW G w1 r A) av.toArray s 0 0 A) (F0 m 0 ls [])) : WR l y ws rm G sz w av w1 r := by
  refine Met.ofW hy hw ?_
  intro p e s m args below meth c s₁ B hml hv
  obtain ⟨rfl, hsz, hP, hE, hD⟩ := hv
  subst hsz
  have hl := lv_entry av hn
  rw [lg_entry_eq]
  exact body p e s m below meth c B.exec B.bytes B.returns hml (atoms_spec (ws := ws) B.pre) (findClass_of_methodNamed B.named) B.notSynchronized hE _ (fun q h => Or.inr h) _ _ hP hD.self va_S.rf _ hl
theorem P_pick {D : va_G} {cl : List vw_C} {w wc : va_W} {H : Heap} (h : va_P D cl w H) (is : List Nat) (hs : is.map (fun i => w[i]?) = wc.map some) : va_P D cl wc H := by
  intro k q hk
  have h1 : (is.map (fun i => w[i]?))[k]? = some (some q) := by rw [hs, List.getElem?_map, hk]; rfl
  rw [List.getElem?_map] at h1
  cases hi : is[k]? with
  | none => rw [hi] at h1; cases h1
  | some i => rw [hi] at h1; exact h i q (Option.some.inj h1)
section WRK
variable {p : Program} {l : Launch} {e : Env} {R : Room} {s : State} {m : MethodId} {args : Array Value} {below : List Frame} {meth : Method} {c : Code} {H H0 : Heap} {locs : List Loc} {cells slots : Nat} {Q : State → Prop}
variable {cc bytes : ByteArray} {pc nL maxL n index ci q0 b : Nat} {ls : Array Slot} {rest As : List Value} {G : EG} {w wc w1 : va_W} {ws Ts : List Cond} {own host C : String} {y : MethodName} {ret : Option FieldType} {rm : Room} {r : Option Value} {A : Nat → Prop}
theorem wr_ret {v : Int32} (hx : p.tables.exec = Jvm.exec) (hb : c.code = cc) (hr : meth.sig.returnType = some .int) (hlocks : meth.locks = false) (hdg : decode cc pc = .ok (.ireturn, 1)) (hP : va_P G.1 vwCl w H) (hD : va_D A w) (hS : va_S A s.heap H locs) (hv : r = some (.int v)) : W p l e R s m args below meth c H locs 0 0 (MQ below (postW G w r A) args s 0 0 A) (F0 m pc ls [.int v]) :=
  W.iret hx hb hr (fun t ht _ => ⟨⟨by rw [hv], by rw [ht]; exact hP, hD⟩, hS.F ht⟩) hS.2.2 hdg hlocks
theorem wr_vret (hx : p.tables.exec = Jvm.exec) (hb : c.code = cc) (hr : meth.sig.returnType = none) (hlocks : meth.locks = false) (hdg : decode cc pc = .ok (.return_, 1)) (hP : va_P G.1 vwCl w H) (hD : va_D A w) (hS : va_S A s.heap H locs) : W p l e R s m args below meth c H locs 0 0 (MQ below (postW G w none A) args s 0 0 A) (F0 m pc ls []) :=
  W.vret hx hb hr (fun t ht _ => ⟨⟨rfl, by rw [ht]; exact hP, hD⟩, hS.F ht⟩) hS.2.2 hdg hlocks
theorem preW_S (hE : Ev G s) (hP : va_P G.1 vwCl wc H) (hD : va_D A wc) : PreS s H (preW G H.size wc As) As := ⟨preW_blind G _ wc As, fun U hU hW => ⟨rfl, by rw [hU], by rw [hU]; exact hP, hE.warm hW, hD.weaken (fun _ _ _ _ => trivial)⟩⟩
theorem preW_V {q : vw_C} {fs : List Value} (hE : Ev G s) (hP : va_P G.1 vwCl wc H) (hD : va_D A wc) (hc : vwCl[ci]? = some q) (he : wc[q0]? = some (b, .inr (ci, fs))) : PreV s H q.1 b (preW G H.size wc (.ref b :: As)) As := ⟨preW_blind G _ wc _, va_recv hE.1 hP hc he, fun U hU hW => ⟨rfl, by rw [hU], by rw [hU]; exact hP, hE.warm hW, hD.weaken (fun _ _ _ _ => trivial)⟩⟩
theorem wr_cont {wr : va_W} {a : Array Value} {st0 : List Value} (hr : va_Run p l e R s m args below meth c H locs cells slots 0 0 (F0 m pc ls st0) rest (postW G w1 r (va_A wc H.size) a) (va_A wc H.size)) (hP : va_P G.1 vwCl w H) (hD : va_D A w) (hS : va_S A H0 H locs) (hA : ∀ q, H0.size ≤ q → A q) (isC isR : List Nat) (hC : isC.map (fun i => w[i]?) = wc.map some) (hR : isR.map (fun i => w[i]?) = wr.map some) (hn : va_nd isR = true) (hdis : ∀ i ∈ isR, i ∉ isC)
    (kk : ∀ (H1 : Heap) (locs1 : List Loc), va_P G.1 vwCl (wr ++ w1) H1 → va_D A (wr ++ w1) → va_S A H0 H1 locs1 → W p l e R s m args below meth c H1 locs1 cells slots Q (F0 m (pc + 3) ls (r.toList ++ rest))) : W p l e R s m args below meth c H locs cells slots Q (F0 m pc ls st0) := by
  intro T hT X
  have hF := va_free hD hS hA isC hC
  obtain ⟨v, st₀, t, T', L, h0, X', hL, e1, e2, ⟨⟨hv, hP1, hD1⟩, hz, hk⟩, st⟩ := hr T hT X
  cases hv
  rw [h0] at hz hk
  rw [← e1] at hP1 hz hk
  obtain ⟨g1, g2⟩ := va_join hP hD isC isR hC hR hn hdis hk hF hP1 hD1
  obtain ⟨t2, a1, b1⟩ := kk T'.heap (locs ++ L) g1 g2
    ⟨Nat.le_trans hS.1 hz, fun q h1 h2 => by rw [hk q (Nat.lt_of_lt_of_le h1 hS.1) (fun z => h2 (hF q z))]; exact hS.2.1 q h1 h2, fun q hq => by
      rcases List.mem_append.mp hq with h | h
      · exact hS.2.2 q h
      · exact hF _ (hL q h)⟩ T' rfl X'
  exact ⟨t2, st t2 a1, b1⟩
theorem wr_V {wr : va_W} (ci q0 : Nat) {q : vw_C} {fs : List Value} (S : CallFix p m c cc nL s args Ts own) (hM : WR l y ws rm G H.size wc (.ref b :: As) w1 r) (cw : CallW R s args own q.1 index y bytes maxL ret ws rm 0 0 n) (hE : Ev G s) (hP : va_P G.1 vwCl w H) (hD : va_D A w) (hS : va_S A H0 H locs) (hA : ∀ q, H0.size ≤ q → A q) (isC isR : List Nat) (hC : isC.map (fun i => w[i]?) = wc.map some) (hR : isR.map (fun i => w[i]?) = wr.map some) (hnC : va_nd isC = true) (hn' : va_nd isR = true) (hdis : ∀ i ∈ isR, i ∉ isC) (hc : vwCl[ci]? = some q) (he : wc[q0]? = some (b, .inr (ci, fs))) (hn : As.length = n) (hsize : ls.size = nL) {st : List Value} (hst : st = As.reverse ++ .ref b :: rest) (hW : (rest.map fun v => v.category).sum ≤ 8) (hdg : decode cc pc = .ok (.invokevirtual index, 3)) (hf : cells ≤ R.cells ∧ slots ≤ R.slots)
    (kk : ∀ (H1 : Heap) (locs1 : List Loc), va_P G.1 vwCl (wr ++ w1) H1 → va_D A (wr ++ w1) → va_S A H0 H1 locs1 → W p l e R s m args below meth c H1 locs1 cells slots Q (F0 m (pc + 3) ls (r.toList ++ rest))) : W p l e R s m args below meth c H locs cells slots Q (F0 m pc ls st) :=
  wr_cont (va_runV S hM cw (preW_V hE (P_pick hP isC hC) (hD.sub isC hnC hC) hc he) rfl hn hsize hst (lv_room hW) hdg hf) hP hD hS hA isC isR hC hR hn' hdis kk
theorem wr_VN {wr : va_W} (ci q0 : Nat) {q : vw_C} {fs : List Value} (S : CallFix p m c cc nL s args Ts own) (hM : WR l y ws rm G H.size wc (.ref b :: As) w1 r) (cw : va_CN R s args own index y host bytes maxL ret ws rm 0 0 n ∧ (Cond.instanceMethod y).before args s = true ∧ (Cond.selects q.1 y y).before args s = true) (hE : Ev G s) (hP : va_P G.1 vwCl w H) (hD : va_D A w) (hS : va_S A H0 H locs) (hA : ∀ q, H0.size ≤ q → A q) (isC isR : List Nat) (hC : isC.map (fun i => w[i]?) = wc.map some) (hR : isR.map (fun i => w[i]?) = wr.map some) (hnC : va_nd isC = true) (hn' : va_nd isR = true) (hdis : ∀ i ∈ isR, i ∉ isC) (hc : vwCl[ci]? = some q) (he : wc[q0]? = some (b, .inr (ci, fs))) (hn : As.length = n) (hsize : ls.size = nL) {st : List Value} (hst : st = As.reverse ++ .ref b :: rest) (hW : (rest.map fun v => v.category).sum ≤ 8) (hdg : decode cc pc = .ok (.invokevirtual index, 3)) (hf : cells ≤ R.cells ∧ slots ≤ R.slots)
    (kk : ∀ (H1 : Heap) (locs1 : List Loc), va_P G.1 vwCl (wr ++ w1) H1 → va_D A (wr ++ w1) → va_S A H0 H1 locs1 → W p l e R s m args below meth c H1 locs1 cells slots Q (F0 m (pc + 3) ls (r.toList ++ rest))) : W p l e R s m args below meth c H locs cells slots Q (F0 m pc ls st) :=
  wr_cont (va_runVN S hM cw (preW_V hE (P_pick hP isC hC) (hD.sub isC hnC hC) hc he) rfl hn hsize hst (lv_room hW) hdg hf) hP hD hS hA isC isR hC hR hn' hdis kk
end WRK
/-- an array by what it holds inside -/
theorem arrV_ext {cA : ClassId} {n : Nat} {f g : Nat → Value} (h : ∀ i, i < n → f i = g i) : arrV cA n f = arrV cA n g := by
  unfold arrV
  congr 1
  apply Array.ext
  · simp
  · intro i h1 h2
    simp at h1
    simp [h i h1]
theorem aI_ext {G : EG} {H : Heap} {a n : Nat} {F F' : Nat → Nat} (h : ∀ i, i < n → F i = F' i) (hv : va_at G.1 vwCl (a, aI G n F) H) : va_at G.1 vwCl (a, aI G n F') H := by
  show H[a]? = some (vp_cell _ _)
  have h1 : H[a]? = some (vp_cell G.2.1 (n, .inl (fun i => nI (F i)))) := hv
  rw [h1]
  congr 1
  show arrV G.2.1 n (fun j => .int (nI (F j))) = arrV G.2.1 n (fun j => .int (nI (F' j)))
  exact arrV_ext (fun i hi => by rw [h i hi])
theorem aZ_ext {G : EG} {H : Heap} {a n : Nat} {F F' : Nat → Nat} (h : ∀ i, i < n → F i = F' i) (hv : va_at G.1 vwCl (a, aZ G n F) H) : va_at G.1 vwCl (a, aZ G n F') H := by
  show H[a]? = some (vp_cell _ _)
  have h1 : H[a]? = some (vp_cell G.2.2.1 (n, .inl (fun i => nI (F i)))) := hv
  rw [h1]
  congr 1
  show arrV G.2.2.1 n (fun j => .int (nI (F j))) = arrV G.2.2.1 n (fun j => .int (nI (F' j)))
  exact arrV_ext (fun i hi => by rw [h i hi])
end
section
set_option maxHeartbeats 4000000 in
set_option maxRecDepth 100000 in
/-- Integer.bitCount, for ints that are not negative -/
theorem c_J6_bitCount_0f7a4 (l : Launch) (G : EG) (x : Nat) (hx0 : x < 2147483648) : RO l yJ6_bitCount_0f7a4 wsJ6_bitCount_0f7a4 (rmR 0 0) G [] [.int (nI x)] (.int (nI (bcN x))) := by
  refine RO.start (by decide) rfl (Nat.le_of_ble_eq_true rfl) ?_
  intro p e s m below meth c hx hb hr hml hts hown hlocks hP hE ls hl
  have hown : s.vm.findClass RJ6 = some m.cls := hown
  have hl : lv_has ls 1 [(0, .int (nI x))] := hl
  refine lv_iload_n hx hb dJ6_bitCount_0f7a4_0 rfl (lv_at hl 0 rfl) ?_
  refine lv_iload_n hx hb dJ6_bitCount_0f7a4_1 rfl (lv_at hl 0 rfl) ?_
  refine lv_iconst (v := nI 1) hx hb dJ6_bitCount_0f7a4_2 (by decide) ?_
  refine j_ushr hx hb dJ6_bitCount_0f7a4_3 ?_
  refine lv_ldcw (v := nI 1431655765) hx hb hown (hts (.constant RJ6 265 (nI 1431655765)) (List.mem_of_getElem? (i := 1) rfl)) dJ6_bitCount_0f7a4_4 ?_
  refine j_and hx hb dJ6_bitCount_0f7a4_7 ?_
  refine j_sub hx hb dJ6_bitCount_0f7a4_8 ?_ (h := Nat.le_trans Nat.and_le_left (Nat.shiftRight_le _ _))
  refine j_top (fun x9 ex9 => ?_)
  refine lv_istore_n (lv' := [(0, .int (nI x9))]) hx hb dJ6_bitCount_0f7a4_9 rfl hl (by decide) rfl (fun ls hl => ?_)
  have b1 : x9 ≤ x := by rw [ex9]; exact Nat.sub_le _ _
  refine lv_iload_n hx hb dJ6_bitCount_0f7a4_10 rfl (lv_at hl 0 rfl) ?_
  refine lv_ldcw (v := nI 858993459) hx hb hown (hts (.constant RJ6 266 (nI 858993459)) (List.mem_of_getElem? (i := 2) rfl)) dJ6_bitCount_0f7a4_11 ?_
  refine j_and hx hb dJ6_bitCount_0f7a4_14 ?_
  refine lv_iload_n hx hb dJ6_bitCount_0f7a4_15 rfl (lv_at hl 0 rfl) ?_
  refine lv_iconst (v := nI 2) hx hb dJ6_bitCount_0f7a4_16 (by decide) ?_
  refine j_ushr hx hb dJ6_bitCount_0f7a4_17 ?_
  refine lv_ldcw (v := nI 858993459) hx hb hown (hts (.constant RJ6 266 (nI 858993459)) (List.mem_of_getElem? (i := 2) rfl)) dJ6_bitCount_0f7a4_18 ?_
  refine j_and hx hb dJ6_bitCount_0f7a4_21 ?_
  refine j_add hx hb dJ6_bitCount_0f7a4_22 ?_
  refine j_top (fun x23 ex23 => ?_)
  refine lv_istore_n (lv' := [(0, .int (nI x23))]) hx hb dJ6_bitCount_0f7a4_23 rfl hl (by decide) rfl (fun ls hl => ?_)
  have b2 : x23 ≤ 1717986918 := by rw [ex23]; exact Nat.add_le_add (b := 858993459) (d := 858993459) Nat.and_le_right Nat.and_le_right
  have b3 : x23 >>> 4 ≤ x23 := Nat.shiftRight_le _ _
  refine lv_iload_n hx hb dJ6_bitCount_0f7a4_24 rfl (lv_at hl 0 rfl) ?_
  refine lv_iload_n hx hb dJ6_bitCount_0f7a4_25 rfl (lv_at hl 0 rfl) ?_
  refine lv_iconst (v := nI 4) hx hb dJ6_bitCount_0f7a4_26 (by decide) ?_
  refine j_ushr hx hb dJ6_bitCount_0f7a4_27 ?_
  refine j_add hx hb dJ6_bitCount_0f7a4_28 ?_
  refine lv_ldcw (v := nI 252645135) hx hb hown (hts (.constant RJ6 267 (nI 252645135)) (List.mem_of_getElem? (i := 3) rfl)) dJ6_bitCount_0f7a4_29 ?_
  refine j_and hx hb dJ6_bitCount_0f7a4_32 ?_
  refine j_top (fun x33 ex33 => ?_)
  refine lv_istore_n (lv' := [(0, .int (nI x33))]) hx hb dJ6_bitCount_0f7a4_33 rfl hl (by decide) rfl (fun ls hl => ?_)
  have b4 : x33 ≤ 252645135 := by rw [ex33]; exact Nat.and_le_right
  have b5 : x33 >>> 8 ≤ x33 := Nat.shiftRight_le _ _
  refine lv_iload_n hx hb dJ6_bitCount_0f7a4_34 rfl (lv_at hl 0 rfl) ?_
  refine lv_iload_n hx hb dJ6_bitCount_0f7a4_35 rfl (lv_at hl 0 rfl) ?_
  refine lv_bipush (v := nI 8) hx hb dJ6_bitCount_0f7a4_36 (by decide) ?_
  refine j_ushr hx hb dJ6_bitCount_0f7a4_38 ?_
  refine j_add hx hb dJ6_bitCount_0f7a4_39 ?_
  refine j_top (fun x40 ex40 => ?_)
  refine lv_istore_n (lv' := [(0, .int (nI x40))]) hx hb dJ6_bitCount_0f7a4_40 rfl hl (by decide) rfl (fun ls hl => ?_)
  refine lv_iload_n hx hb dJ6_bitCount_0f7a4_41 rfl (lv_at hl 0 rfl) ?_
  refine lv_iload_n hx hb dJ6_bitCount_0f7a4_42 rfl (lv_at hl 0 rfl) ?_
  refine lv_bipush (v := nI 16) hx hb dJ6_bitCount_0f7a4_43 (by decide) ?_
  refine j_ushr hx hb dJ6_bitCount_0f7a4_45 ?_
  refine j_add hx hb dJ6_bitCount_0f7a4_46 ?_
  refine j_top (fun x47 ex47 => ?_)
  refine lv_istore_n (lv' := [(0, .int (nI x47))]) hx hb dJ6_bitCount_0f7a4_47 rfl hl (by decide) rfl (fun ls hl => ?_)
  refine lv_iload_n hx hb dJ6_bitCount_0f7a4_48 rfl (lv_at hl 0 rfl) ?_
  refine lv_bipush (v := nI 63) hx hb dJ6_bitCount_0f7a4_49 (by decide) ?_
  refine j_and hx hb dJ6_bitCount_0f7a4_51 ?_
  exact ro_ret hx hb hr hlocks dJ6_bitCount_0f7a4_52 (by rw [ex47, ex40, ex33, ex23, ex9]; rfl)
set_option maxHeartbeats 4000000 in
set_option maxRecDepth 100000 in
/-- Bits.remainder -/
theorem c_X0_remainder (l : Launch) (G : EG) (w : Nat) (hw : w < 16777216) : RO l yX0_remainder wsX0_remainder (rmR 0 0) G [] [.int (nI w)] (.int (nI (remN w))) := by
  refine RO.start (by decide) rfl (Nat.le_of_ble_eq_true rfl) ?_
  intro p e s m below meth c hx hb hr hml hts hown hlocks hP hE ls hl
  have hown : s.vm.findClass RX0 = some m.cls := hown
  have hl : lv_has ls 3 [(0, .int (nI w))] := hl
  refine lv_iload_n hx hb dX0_remainder_0 rfl (lv_at hl 0 rfl) ?_
  refine lv_istore_n (lv' := [(1, .int (nI w)), (0, .int (nI w))]) hx hb dX0_remainder_1 rfl hl (by decide) rfl (fun ls hl => ?_)
  refine lv_bipush (v := nI 22) hx hb dX0_remainder_2 (by decide) ?_
  refine lv_istore_n (lv' := [(2, .int (nI 22)), (1, .int (nI w)), (0, .int (nI w))]) hx hb dX0_remainder_4 rfl hl (by decide) rfl (fun ls hl => ?_)
  have loop5 : ∀ (fuel : Nat) (v : Nat) (q : Nat), (10 ≤ q) → (q ≤ 22) → (v < 16777216) → (remL (q - 10) v = remN w) → q < fuel → ∀ ls : Array Slot, lv_has ls 3 [(2, .int (nI q)), (1, .int (nI v)), (0, .int (nI w))] → W p l e (rmR 0 0) s m ([.int (nI w)] : List Value).toArray below meth c s.heap [] 0 0 (MQ below (k2_QcV (.int (nI (remN w)))) ([.int (nI w)] : List Value).toArray s 0 0 (fun _ => False)) (F0 m 5 ls []) := by
    intro fuel
    induction fuel with
    | zero => intro v q h1 h2 h3 h4 hf; exact absurd hf (Nat.not_lt_zero _)
    | succ fuel ih5 =>
      intro v q h1 h2 h3 h4 hf ls hl
      refine lv_iload_n hx hb dX0_remainder_5 rfl (lv_at hl 0 rfl) ?_
      refine lv_bipush (v := nI 11) hx hb dX0_remainder_6 (by decide) ?_
      refine j_icmp_lt (tgt := 37) hx hb dX0_remainder_8 (by decide) (fun c8 => ?_) (fun c8 => ?_)
      · skip
        refine lv_iload_n hx hb dX0_remainder_37 rfl (lv_at hl 1 rfl) ?_
        exact ro_ret hx hb hr hlocks dX0_remainder_38 (by rw [← h4, show q - 10 = 0 by omega]; rfl)
      · skip
        refine lv_iload_n hx hb dX0_remainder_11 rfl (lv_at hl 1 rfl) ?_
        refine lv_iload_n hx hb dX0_remainder_12 rfl (lv_at hl 0 rfl) ?_
        refine j_ushr hx hb dX0_remainder_13 ?_
        refine lv_iconst (v := nI 1) hx hb dX0_remainder_14 (by decide) ?_
        refine j_and hx hb dX0_remainder_15 ?_
        refine lv_iconst (v := nI 1) hx hb dX0_remainder_16 (by decide) ?_
        refine j_icmp_ne (tgt := 31) hx hb dX0_remainder_17 (by decide) (fun c17 => ?_) (fun c17 => ?_) (h1 := bd_and (by decide)) (h2 := by decide)
        · skip
          obtain ⟨x31, ex31⟩ : ∃ y : Nat, y = q - 1 := ⟨_, rfl⟩
          refine lv_iinc (v := nI x31) (lv' := [(2, .int (nI x31)), (1, .int (nI v)), (0, .int (nI w))]) hx hb dX0_remainder_31 hl (k := 0) rfl (by rw [ex31]; exact sb_m1 (by omega)) (by decide) rfl (fun ls hl => ?_)
          refine lv_goto (tgt := 5) hx hb dX0_remainder_34 (by decide) ?_
          exact ih5 v x31 (by omega) (by omega) h3 (by rw [← h4, show q - 10 = (x31 - 10) + 1 by omega, remL_succ, show x31 - 10 + 11 = q by omega, remStep_f c17]) (by omega) ls (lv_sub hl [0, 1, 2] rfl)
        · skip
          refine lv_iload_n hx hb dX0_remainder_20 rfl (lv_at hl 1 rfl) ?_
          refine lv_sipush (v := nI 3189) hx hb dX0_remainder_21 (by decide) ?_
          refine lv_iload_n hx hb dX0_remainder_24 rfl (lv_at hl 0 rfl) ?_
          refine lv_bipush (v := nI 11) hx hb dX0_remainder_25 (by decide) ?_
          refine j_sub hx hb dX0_remainder_27 ?_
          refine j_shl hx hb dX0_remainder_28 ?_
          refine j_xor hx hb dX0_remainder_29 ?_
          refine j_top (fun x30 ex30 => ?_)
          refine lv_istore_n (lv' := [(1, .int (nI x30)), (2, .int (nI q)), (0, .int (nI w))]) hx hb dX0_remainder_30 rfl hl (by decide) rfl (fun ls hl => ?_)
          obtain ⟨x31, ex31⟩ : ∃ y : Nat, y = q - 1 := ⟨_, rfl⟩
          refine lv_iinc (v := nI x31) (lv' := [(2, .int (nI x31)), (1, .int (nI x30)), (0, .int (nI w))]) hx hb dX0_remainder_31 hl (k := 1) rfl (by rw [ex31]; exact sb_m1 (by omega)) (by decide) rfl (fun ls hl => ?_)
          refine lv_goto (tgt := 5) hx hb dX0_remainder_34 (by decide) ?_
          exact ih5 x30 x31 (by omega) (by omega) (by rw [ex30, ← remStep_t c17]; exact remStep_lt h3 h2) (by rw [← h4, show q - 10 = (x31 - 10) + 1 by omega, remL_succ, show x31 - 10 + 11 = q by omega, remStep_t c17, ex30]) (by omega) ls (lv_sub hl [0, 1, 2] rfl)
  exact loop5 _ w 22 (by omega) (by omega) hw rfl (Nat.lt_succ_self _) ls (lv_sub hl [0, 1, 2] rfl)
set_option maxHeartbeats 4000000 in
set_option maxRecDepth 100000 in
/-- Bits.coded -/
theorem c_X0_coded (l : Launch) (G : EG) (w : Nat) (hw : w < 4096) : RO l yX0_coded wsX0_coded (rmR 1 22) G [] [.int (nI w)] (.int (nI (codedN w))) := by
  refine RO.start (by decide) rfl (Nat.le_of_ble_eq_true rfl) ?_
  intro p e s m below meth c hx hb hr hml hts hown hlocks hP hE ls hl
  have hown : s.vm.findClass RX0 = some m.cls := hown
  have hl : lv_has ls 2 [(0, .int (nI w))] := hl
  refine lv_iload_n hx hb dX0_coded_0 rfl (lv_at hl 0 rfl) ?_
  refine lv_bipush (v := nI 11) hx hb dX0_coded_1 (by decide) ?_
  refine j_shl hx hb dX0_coded_3 ?_
  refine j_top (fun x4 ex4 => ?_)
  refine lv_istore_n (lv' := [(1, .int (nI x4)), (0, .int (nI w))]) hx hb dX0_coded_4 rfl hl (by decide) rfl (fun ls hl => ?_)
  refine lv_iload_n hx hb dX0_coded_5 rfl (lv_at hl 0 rfl) ?_
  refine lv_iload_n hx hb dX0_coded_6 rfl (lv_at hl 0 rfl) ?_
  refine ro_S (rest := [.int (nI x4)]) ⟨hx, hb, hml, hown, hts⟩ (c_X0_remainder l G x4 (by rw [ex4, Nat.shiftLeft_eq]; omega)) (va_cwS 1 hts gX0_coded_X0_remainder rfl rfl rfl (by decide +kernel) ⟨Nat.le_of_ble_eq_true rfl, Nat.le_of_ble_eq_true rfl⟩) hE (hP.sub [] rfl) rfl hl.1 rfl (Nat.le_of_ble_eq_true rfl) dX0_coded_7 ⟨Nat.zero_le _, Nat.zero_le _⟩ ?_
  refine j_or hx hb dX0_coded_10 ?_
  exact ro_ret hx hb hr hlocks dX0_coded_11 (by rw [ex4]; rfl)
set_option maxHeartbeats 4000000 in
set_option maxRecDepth 100000 in
/-- Bits.message -/
theorem c_X0_message (l : Launch) (G : EG) (w : Nat) (hw : w < 2147483648) : RO l yX0_message wsX0_message (rmR 0 0) G [] [.int (nI w)] (.int (nI (w >>> 11))) := by
  refine RO.start (by decide) rfl (Nat.le_of_ble_eq_true rfl) ?_
  intro p e s m below meth c hx hb hr hml hts hown hlocks hP hE ls hl
  have hown : s.vm.findClass RX0 = some m.cls := hown
  have hl : lv_has ls 1 [(0, .int (nI w))] := hl
  refine lv_iload_n hx hb dX0_message_0 rfl (lv_at hl 0 rfl) ?_
  refine lv_bipush (v := nI 11) hx hb dX0_message_1 (by decide) ?_
  refine j_ushr hx hb dX0_message_3 ?_
  exact ro_ret hx hb hr hlocks dX0_message_4 (rfl)
set_option maxHeartbeats 4000000 in
set_option maxRecDepth 100000 in
/-- Bits.widen -/
theorem c_X0_widen (l : Launch) (G : EG) (w : Nat) (hw : w < 16777216) : RO l yX0_widen wsX0_widen (rmR 1 20) G [] [.int (nI w)] (.int (nI (widenN w))) := by
  refine RO.start (by decide) rfl (Nat.le_of_ble_eq_true rfl) ?_
  intro p e s m below meth c hx hb hr hml hts hown hlocks hP hE ls hl
  have hown : s.vm.findClass RX0 = some m.cls := hown
  have hl : lv_has ls 1 [(0, .int (nI w))] := hl
  refine lv_iload_n hx hb dX0_widen_0 rfl (lv_at hl 0 rfl) ?_
  refine lv_iload_n hx hb dX0_widen_1 rfl (lv_at hl 0 rfl) ?_
  refine ro_S (rest := [.int (nI w)]) ⟨hx, hb, hml, hown, hts⟩ (c_J6_bitCount_0f7a4 l G w (by omega)) (va_cwS 1 hts gX0_widen_J6_bitCount_0f7a4 rfl rfl rfl (by decide +kernel) ⟨Nat.le_of_ble_eq_true rfl, Nat.le_of_ble_eq_true rfl⟩) hE (hP.sub [] rfl) rfl hl.1 rfl (Nat.le_of_ble_eq_true rfl) dX0_widen_2 ⟨Nat.zero_le _, Nat.zero_le _⟩ ?_
  refine lv_iconst (v := nI 1) hx hb dX0_widen_5 (by decide) ?_
  refine j_and hx hb dX0_widen_6 ?_
  refine lv_bipush (v := nI 23) hx hb dX0_widen_7 (by decide) ?_
  refine j_shl hx hb dX0_widen_9 ?_
  refine j_or hx hb dX0_widen_10 ?_
  exact ro_ret hx hb hr hlocks dX0_widen_11 (rfl)
set_option maxHeartbeats 4000000 in
set_option maxRecDepth 100000 in
/-- Bits.turn -/
theorem c_X0_turn (l : Launch) (G : EG) (w : Nat) (k : Nat) (hw : w < 16777216) (hk : k ≤ 23) : RO l yX0_turn wsX0_turn (rmR 0 0) G [] [.int (nI w), .int (nI k)] (.int (nI (turnN w k))) := by
  refine RO.start (by decide) rfl (Nat.le_of_ble_eq_true rfl) ?_
  intro p e s m below meth c hx hb hr hml hts hown hlocks hP hE ls hl
  have hown : s.vm.findClass RX0 = some m.cls := hown
  have hl : lv_has ls 2 [(0, .int (nI w)), (1, .int (nI k))] := hl
  refine lv_iload_n hx hb dX0_turn_0 rfl (lv_at hl 0 rfl) ?_
  refine lv_iload_n hx hb dX0_turn_1 rfl (lv_at hl 1 rfl) ?_
  refine j_shl hx hb dX0_turn_2 ?_
  refine lv_iload_n hx hb dX0_turn_3 rfl (lv_at hl 0 rfl) ?_
  refine lv_bipush (v := nI 23) hx hb dX0_turn_4 (by decide) ?_
  refine lv_iload_n hx hb dX0_turn_6 rfl (lv_at hl 1 rfl) ?_
  refine j_sub hx hb dX0_turn_7 ?_
  refine j_ushr hx hb dX0_turn_8 ?_
  refine j_or hx hb dX0_turn_9 ?_
  refine lv_ldc (v := nI 8388607) hx hb hown (hts (.constant RX0 20 (nI 8388607)) (List.mem_of_getElem? (i := 1) rfl)) dX0_turn_10 ?_
  refine j_and hx hb dX0_turn_12 ?_
  exact ro_ret hx hb hr hlocks dX0_turn_13 (rfl)
set_option maxHeartbeats 4000000 in
set_option maxRecDepth 100000 in
/-- Bits.turnBack -/
theorem c_X0_turnBack (l : Launch) (G : EG) (w : Nat) (k : Nat) (hw : w < 16777216) (hk : k ≤ 23) : RO l yX0_turnBack wsX0_turnBack (rmR 1 21) G [] [.int (nI w), .int (nI k)] (.int (nI (turnN w (23 - k)))) := by
  refine RO.start (by decide) rfl (Nat.le_of_ble_eq_true rfl) ?_
  intro p e s m below meth c hx hb hr hml hts hown hlocks hP hE ls hl
  have hown : s.vm.findClass RX0 = some m.cls := hown
  have hl : lv_has ls 2 [(0, .int (nI w)), (1, .int (nI k))] := hl
  refine lv_iload_n hx hb dX0_turnBack_0 rfl (lv_at hl 0 rfl) ?_
  refine lv_bipush (v := nI 23) hx hb dX0_turnBack_1 (by decide) ?_
  refine lv_iload_n hx hb dX0_turnBack_3 rfl (lv_at hl 1 rfl) ?_
  refine j_sub hx hb dX0_turnBack_4 ?_
  refine ro_S (rest := []) ⟨hx, hb, hml, hown, hts⟩ (c_X0_turn l G w (23 - k) (by omega) (by omega)) (va_cwS 2 hts gX0_turnBack_X0_turn rfl rfl rfl (by decide +kernel) ⟨Nat.le_of_ble_eq_true rfl, Nat.le_of_ble_eq_true rfl⟩) hE (hP.sub [] rfl) rfl hl.1 rfl (Nat.le_of_ble_eq_true rfl) dX0_turnBack_5 ⟨Nat.zero_le _, Nat.zero_le _⟩ ?_
  exact ro_ret hx hb hr hlocks dX0_turnBack_8 (rfl)
set_option maxHeartbeats 4000000 in
set_option maxRecDepth 100000 in
/-- Bits.trapErrors -/
theorem c_X0_trapErrors (l : Launch) (G : EG) (w : Nat) (k : Nat) (hw : w < 8388608) (hk : k < 3) : RO l yX0_trapErrors wsX0_trapErrors (rmR 1 22) G [] [.int (nI w), .int (nI k)] (.int (if bcN (errN w k) ≤ 3 then (nI (errN w k)) else (-6))) := by
  refine RO.start (by decide) rfl (Nat.le_of_ble_eq_true rfl) ?_
  intro p e s m below meth c hx hb hr hml hts hown hlocks hP hE ls hl
  have hown : s.vm.findClass RX0 = some m.cls := hown
  have hl : lv_has ls 4 [(0, .int (nI w)), (1, .int (nI k))] := hl
  refine lv_iload_n hx hb dX0_trapErrors_0 rfl (lv_at hl 1 rfl) ?_
  refine j_if_ne (tgt := 8) hx hb dX0_trapErrors_1 (by decide) (fun c1 => ?_) (fun c1 => ?_)
  · skip
    refine lv_iload_n hx hb dX0_trapErrors_8 rfl (lv_at hl 1 rfl) ?_
    refine lv_iconst (v := nI 1) hx hb dX0_trapErrors_9 (by decide) ?_
    refine j_icmp_ne (tgt := 18) hx hb dX0_trapErrors_10 (by decide) (fun c10 => ?_) (fun c10 => ?_)
    · skip
      obtain rfl : k = 2 := by omega
      refine lv_ldc (v := nI 131072) hx hb hown (hts (.constant RX0 26 (nI 131072)) (List.mem_of_getElem? (i := 2) rfl)) dX0_trapErrors_18 ?_
      refine lv_istore_n (lv' := [(2, .int (nI 131072)), (0, .int (nI w)), (1, .int (nI 2))]) hx hb dX0_trapErrors_20 rfl hl (by decide) rfl (fun ls hl => ?_)
      refine lv_iload_n hx hb dX0_trapErrors_21 rfl (lv_at hl 1 rfl) ?_
      refine lv_iload_n hx hb dX0_trapErrors_22 rfl (lv_at hl 0 rfl) ?_
      refine j_xor hx hb dX0_trapErrors_23 ?_
      refine ro_S (rest := []) ⟨hx, hb, hml, hown, hts⟩ (c_X0_remainder l G (w ^^^ 131072) (Nat.lt_trans (bd_xor 23 hw (by decide)) (by decide))) (va_cwS 1 hts gX0_trapErrors_X0_remainder rfl rfl rfl (by decide +kernel) ⟨Nat.le_of_ble_eq_true rfl, Nat.le_of_ble_eq_true rfl⟩) hE (hP.sub [] rfl) rfl hl.1 rfl (Nat.le_of_ble_eq_true rfl) dX0_trapErrors_24 ⟨Nat.zero_le _, Nat.zero_le _⟩ ?_
      refine lv_iload_n hx hb dX0_trapErrors_27 rfl (lv_at hl 0 rfl) ?_
      refine j_or hx hb dX0_trapErrors_28 ?_
      refine j_top (fun x29 ex29 => ?_)
      refine lv_istore_n (lv' := [(3, .int (nI x29)), (2, .int (nI 131072)), (0, .int (nI w)), (1, .int (nI 2))]) hx hb dX0_trapErrors_29 rfl hl (by decide) rfl (fun ls hl => ?_)
      refine lv_iload_n hx hb dX0_trapErrors_30 rfl (lv_at hl 0 rfl) ?_
      refine ro_S (rest := []) ⟨hx, hb, hml, hown, hts⟩ (c_J6_bitCount_0f7a4 l G x29 (by rw [ex29]; exact Nat.lt_trans (bd_or 24 (remN_lt (Nat.lt_trans (bd_xor 23 hw (by decide)) (by decide))) (by decide)) (by decide))) (va_cwS 1 hts gX0_trapErrors_J6_bitCount_0f7a4 rfl rfl rfl (by decide +kernel) ⟨Nat.le_of_ble_eq_true rfl, Nat.le_of_ble_eq_true rfl⟩) hE (hP.sub [] rfl) rfl hl.1 rfl (Nat.le_of_ble_eq_true rfl) dX0_trapErrors_31 ⟨Nat.zero_le _, Nat.zero_le _⟩ ?_
      refine lv_iconst (v := nI 3) hx hb dX0_trapErrors_34 (by decide) ?_
      refine j_icmp_gt (tgt := 42) hx hb dX0_trapErrors_35 (by decide) (fun c35 => ?_) (fun c35 => ?_) (h1 := Nat.lt_of_le_of_lt (bcN_le _) (by decide)) (h2 := by decide)
      · skip
        refine lv_bipush (v := (-6)) hx hb dX0_trapErrors_42 (by decide) ?_
        exact ro_ret hx hb hr hlocks dX0_trapErrors_44 (by rw [ex29] at c35; exact congrArg Value.int (if_neg (Nat.not_le.mpr c35)))
      · skip
        refine lv_iload_n hx hb dX0_trapErrors_38 rfl (lv_at hl 0 rfl) ?_
        refine lv_goto (tgt := 44) hx hb dX0_trapErrors_39 (by decide) ?_
        exact ro_ret hx hb hr hlocks dX0_trapErrors_44 (by rw [ex29] at c35 ⊢; exact congrArg Value.int (if_pos c35))
    · skip
      subst c10
      refine lv_ldc (v := nI 65536) hx hb hown (hts (.constant RX0 25 (nI 65536)) (List.mem_of_getElem? (i := 1) rfl)) dX0_trapErrors_13 ?_
      refine lv_goto (tgt := 20) hx hb dX0_trapErrors_15 (by decide) ?_
      refine lv_istore_n (lv' := [(2, .int (nI 65536)), (0, .int (nI w)), (1, .int (nI 1))]) hx hb dX0_trapErrors_20 rfl hl (by decide) rfl (fun ls hl => ?_)
      refine lv_iload_n hx hb dX0_trapErrors_21 rfl (lv_at hl 1 rfl) ?_
      refine lv_iload_n hx hb dX0_trapErrors_22 rfl (lv_at hl 0 rfl) ?_
      refine j_xor hx hb dX0_trapErrors_23 ?_
      refine ro_S (rest := []) ⟨hx, hb, hml, hown, hts⟩ (c_X0_remainder l G (w ^^^ 65536) (Nat.lt_trans (bd_xor 23 hw (by decide)) (by decide))) (va_cwS 1 hts gX0_trapErrors_X0_remainder rfl rfl rfl (by decide +kernel) ⟨Nat.le_of_ble_eq_true rfl, Nat.le_of_ble_eq_true rfl⟩) hE (hP.sub [] rfl) rfl hl.1 rfl (Nat.le_of_ble_eq_true rfl) dX0_trapErrors_24 ⟨Nat.zero_le _, Nat.zero_le _⟩ ?_
      refine lv_iload_n hx hb dX0_trapErrors_27 rfl (lv_at hl 0 rfl) ?_
      refine j_or hx hb dX0_trapErrors_28 ?_
      refine j_top (fun x29 ex29 => ?_)
      refine lv_istore_n (lv' := [(3, .int (nI x29)), (2, .int (nI 65536)), (0, .int (nI w)), (1, .int (nI 1))]) hx hb dX0_trapErrors_29 rfl hl (by decide) rfl (fun ls hl => ?_)
      refine lv_iload_n hx hb dX0_trapErrors_30 rfl (lv_at hl 0 rfl) ?_
      refine ro_S (rest := []) ⟨hx, hb, hml, hown, hts⟩ (c_J6_bitCount_0f7a4 l G x29 (by rw [ex29]; exact Nat.lt_trans (bd_or 24 (remN_lt (Nat.lt_trans (bd_xor 23 hw (by decide)) (by decide))) (by decide)) (by decide))) (va_cwS 1 hts gX0_trapErrors_J6_bitCount_0f7a4 rfl rfl rfl (by decide +kernel) ⟨Nat.le_of_ble_eq_true rfl, Nat.le_of_ble_eq_true rfl⟩) hE (hP.sub [] rfl) rfl hl.1 rfl (Nat.le_of_ble_eq_true rfl) dX0_trapErrors_31 ⟨Nat.zero_le _, Nat.zero_le _⟩ ?_
      refine lv_iconst (v := nI 3) hx hb dX0_trapErrors_34 (by decide) ?_
      refine j_icmp_gt (tgt := 42) hx hb dX0_trapErrors_35 (by decide) (fun c35 => ?_) (fun c35 => ?_) (h1 := Nat.lt_of_le_of_lt (bcN_le _) (by decide)) (h2 := by decide)
      · skip
        refine lv_bipush (v := (-6)) hx hb dX0_trapErrors_42 (by decide) ?_
        exact ro_ret hx hb hr hlocks dX0_trapErrors_44 (by rw [ex29] at c35; exact congrArg Value.int (if_neg (Nat.not_le.mpr c35)))
      · skip
        refine lv_iload_n hx hb dX0_trapErrors_38 rfl (lv_at hl 0 rfl) ?_
        refine lv_goto (tgt := 44) hx hb dX0_trapErrors_39 (by decide) ?_
        exact ro_ret hx hb hr hlocks dX0_trapErrors_44 (by rw [ex29] at c35 ⊢; exact congrArg Value.int (if_pos c35))
  · skip
    subst c1
    refine lv_iconst (v := nI 0) hx hb dX0_trapErrors_4 (by decide) ?_
    refine lv_goto (tgt := 20) hx hb dX0_trapErrors_5 (by decide) ?_
    refine lv_istore_n (lv' := [(2, .int (nI 0)), (0, .int (nI w)), (1, .int (nI 0))]) hx hb dX0_trapErrors_20 rfl hl (by decide) rfl (fun ls hl => ?_)
    refine lv_iload_n hx hb dX0_trapErrors_21 rfl (lv_at hl 1 rfl) ?_
    refine lv_iload_n hx hb dX0_trapErrors_22 rfl (lv_at hl 0 rfl) ?_
    refine j_xor hx hb dX0_trapErrors_23 ?_
    refine ro_S (rest := []) ⟨hx, hb, hml, hown, hts⟩ (c_X0_remainder l G (w ^^^ 0) (Nat.lt_trans (bd_xor 23 hw (by decide)) (by decide))) (va_cwS 1 hts gX0_trapErrors_X0_remainder rfl rfl rfl (by decide +kernel) ⟨Nat.le_of_ble_eq_true rfl, Nat.le_of_ble_eq_true rfl⟩) hE (hP.sub [] rfl) rfl hl.1 rfl (Nat.le_of_ble_eq_true rfl) dX0_trapErrors_24 ⟨Nat.zero_le _, Nat.zero_le _⟩ ?_
    refine lv_iload_n hx hb dX0_trapErrors_27 rfl (lv_at hl 0 rfl) ?_
    refine j_or hx hb dX0_trapErrors_28 ?_
    refine j_top (fun x29 ex29 => ?_)
    refine lv_istore_n (lv' := [(3, .int (nI x29)), (2, .int (nI 0)), (0, .int (nI w)), (1, .int (nI 0))]) hx hb dX0_trapErrors_29 rfl hl (by decide) rfl (fun ls hl => ?_)
    refine lv_iload_n hx hb dX0_trapErrors_30 rfl (lv_at hl 0 rfl) ?_
    refine ro_S (rest := []) ⟨hx, hb, hml, hown, hts⟩ (c_J6_bitCount_0f7a4 l G x29 (by rw [ex29]; exact Nat.lt_trans (bd_or 24 (remN_lt (Nat.lt_trans (bd_xor 23 hw (by decide)) (by decide))) (by decide)) (by decide))) (va_cwS 1 hts gX0_trapErrors_J6_bitCount_0f7a4 rfl rfl rfl (by decide +kernel) ⟨Nat.le_of_ble_eq_true rfl, Nat.le_of_ble_eq_true rfl⟩) hE (hP.sub [] rfl) rfl hl.1 rfl (Nat.le_of_ble_eq_true rfl) dX0_trapErrors_31 ⟨Nat.zero_le _, Nat.zero_le _⟩ ?_
    refine lv_iconst (v := nI 3) hx hb dX0_trapErrors_34 (by decide) ?_
    refine j_icmp_gt (tgt := 42) hx hb dX0_trapErrors_35 (by decide) (fun c35 => ?_) (fun c35 => ?_) (h1 := Nat.lt_of_le_of_lt (bcN_le _) (by decide)) (h2 := by decide)
    · skip
      refine lv_bipush (v := (-6)) hx hb dX0_trapErrors_42 (by decide) ?_
      exact ro_ret hx hb hr hlocks dX0_trapErrors_44 (by rw [ex29] at c35; exact congrArg Value.int (if_neg (Nat.not_le.mpr c35)))
    · skip
      refine lv_iload_n hx hb dX0_trapErrors_38 rfl (lv_at hl 0 rfl) ?_
      refine lv_goto (tgt := 44) hx hb dX0_trapErrors_39 (by decide) ?_
      exact ro_ret hx hb hr hlocks dX0_trapErrors_44 (by rw [ex29] at c35 ⊢; exact congrArg Value.int (if_pos c35))
set_option maxHeartbeats 4000000 in
set_option maxRecDepth 100000 in
/-- Bits.target -/
theorem c_X0_target (l : Launch) (G : EG) (q : Nat) (a : Nat) (b : Nat) (h : a * q + b < 2147483648) : RO l yX0_target wsX0_target (rmR 0 0) G [] [.int (nI q), .int (nI a), .int (nI b)] (.int (nI (tgtN q a b))) := by
  refine RO.start (by decide) rfl (Nat.le_of_ble_eq_true rfl) ?_
  intro p e s m below meth c hx hb hr hml hts hown hlocks hP hE ls hl
  have hown : s.vm.findClass RX0 = some m.cls := hown
  have hl : lv_has ls 3 [(0, .int (nI q)), (1, .int (nI a)), (2, .int (nI b))] := hl
  refine lv_iload_n hx hb dX0_target_0 rfl (lv_at hl 1 rfl) ?_
  refine lv_iload_n hx hb dX0_target_1 rfl (lv_at hl 0 rfl) ?_
  refine j_mul hx hb dX0_target_2 ?_
  refine lv_iload_n hx hb dX0_target_3 rfl (lv_at hl 2 rfl) ?_
  refine j_add hx hb dX0_target_4 ?_
  refine lv_bipush (v := nI 23) hx hb dX0_target_5 (by decide) ?_
  refine j_rem hx hb dX0_target_7 ?_ (ha := h)
  exact ro_ret hx hb hr hlocks dX0_target_8 (rfl)
set_option maxHeartbeats 4000000 in
set_option maxRecDepth 100000 in
/-- Bits.carry -/
theorem c_X0_carry (l : Launch) (G : EG) (w : Nat) (a : Nat) (b : Nat) (hw : w < 4294967296) (ha : a < 23) (hb0 : b < 23) : RO l yX0_carry wsX0_carry (rmR 1 22) G [] [.int (nI w), .int (nI a), .int (nI b)] (.int (nI (carN w a b))) := by
  refine RO.start (by decide) rfl (Nat.le_of_ble_eq_true rfl) ?_
  intro p e s m below meth c hx hb hr hml hts hown hlocks hP hE ls hl
  have hown : s.vm.findClass RX0 = some m.cls := hown
  have hl : lv_has ls 5 [(0, .int (nI w)), (1, .int (nI a)), (2, .int (nI b))] := hl
  refine lv_iconst (v := nI 0) hx hb dX0_carry_0 (by decide) ?_
  refine lv_istore_n (lv' := [(3, .int (nI 0)), (0, .int (nI w)), (1, .int (nI a)), (2, .int (nI b))]) hx hb dX0_carry_1 rfl hl (by decide) rfl (fun ls hl => ?_)
  refine lv_iconst (v := nI 0) hx hb dX0_carry_2 (by decide) ?_
  refine lv_istore (lv' := [(4, .int (nI 0)), (3, .int (nI 0)), (0, .int (nI w)), (1, .int (nI a)), (2, .int (nI b))]) hx hb dX0_carry_3 hl (by decide) rfl (fun ls hl => ?_)
  have loop5 : ∀ (fuel : Nat) (v : Nat) (q : Nat), (q ≤ 23) → (v = carL w a b q) → 23 - q < fuel → ∀ ls : Array Slot, lv_has ls 5 [(4, .int (nI q)), (3, .int (nI v)), (0, .int (nI w)), (1, .int (nI a)), (2, .int (nI b))] → W p l e (rmR 1 22) s m ([.int (nI w), .int (nI a), .int (nI b)] : List Value).toArray below meth c s.heap [] 0 0 (MQ below (k2_QcV (.int (nI (carN w a b)))) ([.int (nI w), .int (nI a), .int (nI b)] : List Value).toArray s 0 0 (fun _ => False)) (F0 m 5 ls []) := by
    intro fuel
    induction fuel with
    | zero => intro v q h1 h2 hf; exact absurd hf (Nat.not_lt_zero _)
    | succ fuel ih5 =>
      intro v q h1 h2 hf ls hl
      refine lv_iload hx hb dX0_carry_5 (lv_at hl 0 rfl) ?_
      refine lv_bipush (v := nI 23) hx hb dX0_carry_7 (by decide) ?_
      refine j_icmp_ge (tgt := 35) hx hb dX0_carry_9 (by decide) (fun c9 => ?_) (fun c9 => ?_)
      · skip
        refine lv_iload_n hx hb dX0_carry_35 rfl (lv_at hl 1 rfl) ?_
        exact ro_ret hx hb hr hlocks dX0_carry_36 (by rw [h2, show q = 23 by omega]; rfl)
      · skip
        refine lv_iload_n hx hb dX0_carry_12 rfl (lv_at hl 1 rfl) ?_
        refine lv_iload_n hx hb dX0_carry_13 rfl (lv_at hl 2 rfl) ?_
        refine lv_iload hx hb dX0_carry_14 (lv_at hl 0 rfl) ?_
        refine j_ushr hx hb dX0_carry_16 ?_
        refine lv_iconst (v := nI 1) hx hb dX0_carry_17 (by decide) ?_
        refine j_and hx hb dX0_carry_18 ?_
        refine lv_iload hx hb dX0_carry_19 (lv_at hl 0 rfl) ?_
        refine lv_iload_n hx hb dX0_carry_21 rfl (lv_at hl 3 rfl) ?_
        refine lv_iload_n hx hb dX0_carry_22 rfl (lv_at hl 4 rfl) ?_
        refine ro_S (rest := [.int (nI ((w >>> q) &&& 1)), .int (nI v)]) ⟨hx, hb, hml, hown, hts⟩ (c_X0_target l G q a b (tg_bd (by omega) (by omega) (by omega))) (va_cwS 3 hts gX0_carry_X0_target rfl rfl rfl (by decide +kernel) ⟨Nat.le_of_ble_eq_true rfl, Nat.le_of_ble_eq_true rfl⟩) hE (hP.sub [] rfl) rfl hl.1 rfl (Nat.le_of_ble_eq_true rfl) dX0_carry_23 ⟨Nat.zero_le _, Nat.zero_le _⟩ ?_
        refine j_shl hx hb dX0_carry_26 ?_ (h := Nat.lt_trans (tgtN_lt _ _ _) (by decide))
        refine j_or hx hb dX0_carry_27 ?_
        refine j_top (fun x28 ex28 => ?_)
        refine lv_istore_n (lv' := [(3, .int (nI x28)), (4, .int (nI q)), (0, .int (nI w)), (1, .int (nI a)), (2, .int (nI b))]) hx hb dX0_carry_28 rfl hl (by decide) rfl (fun ls hl => ?_)
        obtain ⟨x29, ex29⟩ : ∃ y : Nat, y = q + 1 := ⟨_, rfl⟩
        refine lv_iinc (v := nI x29) (lv' := [(4, .int (nI x29)), (3, .int (nI x28)), (0, .int (nI w)), (1, .int (nI a)), (2, .int (nI b))]) hx hb dX0_carry_29 hl (k := 1) rfl (by rw [ex29]; exact nI_add _ _) (by decide) rfl (fun ls hl => ?_)
        refine lv_goto (tgt := 5) hx hb dX0_carry_32 (by decide) ?_
        exact ih5 x28 x29 (by omega) (by rw [ex28, ex29, h2]; rfl) (by omega) ls (lv_sub hl [0, 1, 2, 3, 4] rfl)
  exact loop5 _ 0 0 (by omega) rfl (Nat.lt_succ_self _) ls (lv_sub hl [0, 1, 2, 3, 4] rfl)
set_option maxHeartbeats 4000000 in
set_option maxRecDepth 100000 in
/-- Bits.carryBack -/
theorem c_X0_carryBack (l : Launch) (G : EG) (w : Nat) (a : Nat) (b : Nat) (hw : w < 4294967296) (ha : a < 23) (hb0 : b < 23) : RO l yX0_carryBack wsX0_carryBack (rmR 1 22) G [] [.int (nI w), .int (nI a), .int (nI b)] (.int (nI (bakN w a b))) := by
  refine RO.start (by decide) rfl (Nat.le_of_ble_eq_true rfl) ?_
  intro p e s m below meth c hx hb hr hml hts hown hlocks hP hE ls hl
  have hown : s.vm.findClass RX0 = some m.cls := hown
  have hl : lv_has ls 5 [(0, .int (nI w)), (1, .int (nI a)), (2, .int (nI b))] := hl
  refine lv_iconst (v := nI 0) hx hb dX0_carryBack_0 (by decide) ?_
  refine lv_istore_n (lv' := [(3, .int (nI 0)), (0, .int (nI w)), (1, .int (nI a)), (2, .int (nI b))]) hx hb dX0_carryBack_1 rfl hl (by decide) rfl (fun ls hl => ?_)
  refine lv_iconst (v := nI 0) hx hb dX0_carryBack_2 (by decide) ?_
  refine lv_istore (lv' := [(4, .int (nI 0)), (3, .int (nI 0)), (0, .int (nI w)), (1, .int (nI a)), (2, .int (nI b))]) hx hb dX0_carryBack_3 hl (by decide) rfl (fun ls hl => ?_)
  have loop5 : ∀ (fuel : Nat) (v : Nat) (q : Nat), (q ≤ 23) → (v = bakL w a b q) → 23 - q < fuel → ∀ ls : Array Slot, lv_has ls 5 [(4, .int (nI q)), (3, .int (nI v)), (0, .int (nI w)), (1, .int (nI a)), (2, .int (nI b))] → W p l e (rmR 1 22) s m ([.int (nI w), .int (nI a), .int (nI b)] : List Value).toArray below meth c s.heap [] 0 0 (MQ below (k2_QcV (.int (nI (bakN w a b)))) ([.int (nI w), .int (nI a), .int (nI b)] : List Value).toArray s 0 0 (fun _ => False)) (F0 m 5 ls []) := by
    intro fuel
    induction fuel with
    | zero => intro v q h1 h2 hf; exact absurd hf (Nat.not_lt_zero _)
    | succ fuel ih5 =>
      intro v q h1 h2 hf ls hl
      refine lv_iload hx hb dX0_carryBack_5 (lv_at hl 0 rfl) ?_
      refine lv_bipush (v := nI 23) hx hb dX0_carryBack_7 (by decide) ?_
      refine j_icmp_ge (tgt := 35) hx hb dX0_carryBack_9 (by decide) (fun c9 => ?_) (fun c9 => ?_)
      · skip
        refine lv_iload_n hx hb dX0_carryBack_35 rfl (lv_at hl 1 rfl) ?_
        exact ro_ret hx hb hr hlocks dX0_carryBack_36 (by rw [h2, show q = 23 by omega]; rfl)
      · skip
        refine lv_iload_n hx hb dX0_carryBack_12 rfl (lv_at hl 1 rfl) ?_
        refine lv_iload_n hx hb dX0_carryBack_13 rfl (lv_at hl 2 rfl) ?_
        refine lv_iload hx hb dX0_carryBack_14 (lv_at hl 0 rfl) ?_
        refine lv_iload_n hx hb dX0_carryBack_16 rfl (lv_at hl 3 rfl) ?_
        refine lv_iload_n hx hb dX0_carryBack_17 rfl (lv_at hl 4 rfl) ?_
        refine ro_S (rest := [.int (nI w), .int (nI v)]) ⟨hx, hb, hml, hown, hts⟩ (c_X0_target l G q a b (tg_bd (by omega) (by omega) (by omega))) (va_cwS 3 hts gX0_carryBack_X0_target rfl rfl rfl (by decide +kernel) ⟨Nat.le_of_ble_eq_true rfl, Nat.le_of_ble_eq_true rfl⟩) hE (hP.sub [] rfl) rfl hl.1 rfl (Nat.le_of_ble_eq_true rfl) dX0_carryBack_18 ⟨Nat.zero_le _, Nat.zero_le _⟩ ?_
        refine j_ushr hx hb dX0_carryBack_21 ?_ (h := Nat.lt_trans (tgtN_lt _ _ _) (by decide))
        refine lv_iconst (v := nI 1) hx hb dX0_carryBack_22 (by decide) ?_
        refine j_and hx hb dX0_carryBack_23 ?_
        refine lv_iload hx hb dX0_carryBack_24 (lv_at hl 0 rfl) ?_
        refine j_shl hx hb dX0_carryBack_26 ?_
        refine j_or hx hb dX0_carryBack_27 ?_
        refine j_top (fun x28 ex28 => ?_)
        refine lv_istore_n (lv' := [(3, .int (nI x28)), (4, .int (nI q)), (0, .int (nI w)), (1, .int (nI a)), (2, .int (nI b))]) hx hb dX0_carryBack_28 rfl hl (by decide) rfl (fun ls hl => ?_)
        obtain ⟨x29, ex29⟩ : ∃ y : Nat, y = q + 1 := ⟨_, rfl⟩
        refine lv_iinc (v := nI x29) (lv' := [(4, .int (nI x29)), (3, .int (nI x28)), (0, .int (nI w)), (1, .int (nI a)), (2, .int (nI b))]) hx hb dX0_carryBack_29 hl (k := 1) rfl (by rw [ex29]; exact nI_add _ _) (by decide) rfl (fun ls hl => ?_)
        refine lv_goto (tgt := 5) hx hb dX0_carryBack_32 (by decide) ?_
        exact ih5 x28 x29 (by omega) (by rw [ex28, ex29, h2]; rfl) (by omega) ls (lv_sub hl [0, 1, 2, 3, 4] rfl)
  exact loop5 _ 0 0 (by omega) rfl (Nat.lt_succ_self _) ls (lv_sub hl [0, 1, 2, 3, 4] rfl)
set_option maxHeartbeats 4000000 in
set_option maxRecDepth 100000 in
/-- Bits.staysInCode -/
theorem c_X0_staysInCode (l : Launch) (G : EG) (a : Nat) (b : Nat) (ha : a < 23) (hb0 : b < 23) : RO l yX0_staysInCode wsX0_staysInCode (rmR 2 46) G [] [.int (nI a), .int (nI b)] (.int (nI (stayN a b).toNat)) := by
  refine RO.start (by decide) rfl (Nat.le_of_ble_eq_true rfl) ?_
  intro p e s m below meth c hx hb hr hml hts hown hlocks hP hE ls hl
  have hown : s.vm.findClass RX0 = some m.cls := hown
  have hl : lv_has ls 3 [(0, .int (nI a)), (1, .int (nI b))] := hl
  refine lv_iconst (v := nI 0) hx hb dX0_staysInCode_0 (by decide) ?_
  refine lv_istore_n (lv' := [(2, .int (nI 0)), (0, .int (nI a)), (1, .int (nI b))]) hx hb dX0_staysInCode_1 rfl hl (by decide) rfl (fun ls hl => ?_)
  have loop2 : ∀ (fuel : Nat) (k : Nat), (k ≤ 12) → (∀ i, i < k → remN (carN (3189 <<< i) a b) = 0) → 12 - k < fuel → ∀ ls : Array Slot, lv_has ls 3 [(2, .int (nI k)), (0, .int (nI a)), (1, .int (nI b))] → W p l e (rmR 2 46) s m ([.int (nI a), .int (nI b)] : List Value).toArray below meth c s.heap [] 0 0 (MQ below (k2_QcV (.int (nI (stayN a b).toNat))) ([.int (nI a), .int (nI b)] : List Value).toArray s 0 0 (fun _ => False)) (F0 m 2 ls []) := by
    intro fuel
    induction fuel with
    | zero => intro k h1 h2 hf; exact absurd hf (Nat.not_lt_zero _)
    | succ fuel ih2 =>
      intro k h1 h2 hf ls hl
      refine lv_iload_n hx hb dX0_staysInCode_2 rfl (lv_at hl 0 rfl) ?_
      refine lv_bipush (v := nI 12) hx hb dX0_staysInCode_3 (by decide) ?_
      refine j_icmp_ge (tgt := 32) hx hb dX0_staysInCode_5 (by decide) (fun c5 => ?_) (fun c5 => ?_)
      · skip
        refine lv_iconst (v := nI 1) hx hb dX0_staysInCode_32 (by decide) ?_
        exact ro_zret hx hb hr hlocks dX0_staysInCode_33 (by rw [stay_t (fun i hi => h2 i (by omega))]; rfl) rfl
      · skip
        refine lv_sipush (v := nI 3189) hx hb dX0_staysInCode_8 (by decide) ?_
        refine lv_iload_n hx hb dX0_staysInCode_11 rfl (lv_at hl 0 rfl) ?_
        refine j_shl hx hb dX0_staysInCode_12 ?_
        refine lv_iload_n hx hb dX0_staysInCode_13 rfl (lv_at hl 1 rfl) ?_
        refine lv_iload_n hx hb dX0_staysInCode_14 rfl (lv_at hl 2 rfl) ?_
        refine ro_S (rest := []) ⟨hx, hb, hml, hown, hts⟩ (c_X0_carry l G (3189 <<< k) a b (Nat.lt_trans (key_lt h1) (by decide)) (by omega) (by omega)) (va_cwS 3 hts gX0_staysInCode_X0_carry rfl rfl rfl (by decide +kernel) ⟨Nat.le_of_ble_eq_true rfl, Nat.le_of_ble_eq_true rfl⟩) hE (hP.sub [] rfl) rfl hl.1 rfl (Nat.le_of_ble_eq_true rfl) dX0_staysInCode_15 ⟨Nat.zero_le _, Nat.zero_le _⟩ ?_
        refine ro_S (rest := []) ⟨hx, hb, hml, hown, hts⟩ (c_X0_remainder l G (carN (3189 <<< k) a b) (Nat.lt_trans (carL_lt _ _ _ _) (by decide))) (va_cwS 1 hts gX0_staysInCode_X0_remainder rfl rfl rfl (by decide +kernel) ⟨Nat.le_of_ble_eq_true rfl, Nat.le_of_ble_eq_true rfl⟩) hE (hP.sub [] rfl) rfl hl.1 rfl (Nat.le_of_ble_eq_true rfl) dX0_staysInCode_18 ⟨Nat.zero_le _, Nat.zero_le _⟩ ?_
        refine j_if_eq (tgt := 26) hx hb dX0_staysInCode_21 (by decide) (fun c21 => ?_) (fun c21 => ?_) (h1 := Nat.lt_trans (remN_lt (Nat.lt_trans (carL_lt _ _ _ _) (by decide))) (by decide))
        · skip
          obtain ⟨x26, ex26⟩ : ∃ y : Nat, y = k + 1 := ⟨_, rfl⟩
          refine lv_iinc (v := nI x26) (lv' := [(2, .int (nI x26)), (0, .int (nI a)), (1, .int (nI b))]) hx hb dX0_staysInCode_26 hl (k := 0) rfl (by rw [ex26]; exact nI_add _ _) (by decide) rfl (fun ls hl => ?_)
          refine lv_goto (tgt := 2) hx hb dX0_staysInCode_29 (by decide) ?_
          exact ih2 x26 (by omega) (by rw [ex26]; exact lt_s h2 c21) (by omega) ls (lv_sub hl [0, 1, 2] rfl)
        · skip
          refine lv_iconst (v := nI 0) hx hb dX0_staysInCode_24 (by decide) ?_
          exact ro_zret hx hb hr hlocks dX0_staysInCode_25 (by rw [stay_f (i := k) (by omega) c21]; rfl) rfl
  exact loop2 _ 0 (by omega) (fun _ h => absurd h (Nat.not_lt_zero _)) (Nat.lt_succ_self _) ls (lv_sub hl [0, 1, 2] rfl)
set_option maxHeartbeats 4000000 in
set_option maxRecDepth 100000 in
/-- isBelow -/
theorem c_X5_isBelow (l : Launch) (G : EG) (x : Int32) (N : Nat) : RO l yX5_isBelow wsX5_isBelow (rmR 0 0) G [] [.int x, .int (nI N)] (.int (nI (blw x N).toNat)) := by
  refine RO.start (by decide) rfl (Nat.le_of_ble_eq_true rfl) ?_
  intro p e s m below meth c hx hb hr hml hts hown hlocks hP hE ls hl
  have hown : s.vm.findClass RX5 = some m.cls := hown
  have hl : lv_has ls 2 [(0, .int x), (1, .int (nI N))] := hl
  refine lv_iload_n hx hb dX5_isBelow_0 rfl (lv_at hl 0 rfl) ?_
  refine lv_if_lt (tgt := 13) hx hb dX5_isBelow_1 (by decide) (fun c1 => ?_) (fun c1 => ?_)
  · skip
    refine lv_iconst (v := nI 0) hx hb dX5_isBelow_13 (by decide) ?_
    exact ro_zret hx hb hr hlocks dX5_isBelow_14 (by rw [blw_f1 c1]; rfl) rfl
  · skip
    refine lv_iload_n hx hb dX5_isBelow_4 rfl (lv_at hl 0 rfl) ?_
    refine lv_iload_n hx hb dX5_isBelow_5 rfl (lv_at hl 1 rfl) ?_
    refine lv_icmp_ge (tgt := 13) hx hb dX5_isBelow_6 (by decide) (fun c6 => ?_) (fun c6 => ?_)
    · skip
      refine lv_iconst (v := nI 0) hx hb dX5_isBelow_13 (by decide) ?_
      exact ro_zret hx hb hr hlocks dX5_isBelow_14 (by rw [blw_f2 c6]; rfl) rfl
    · skip
      refine lv_iconst (v := nI 1) hx hb dX5_isBelow_9 (by decide) ?_
      refine lv_goto (tgt := 14) hx hb dX5_isBelow_10 (by decide) ?_
      exact ro_zret hx hb hr hlocks dX5_isBelow_14 (by rw [blw_t c1 c6]; rfl) rfl
set_option maxHeartbeats 4000000 in
set_option maxRecDepth 100000 in
/-- isMove -/
theorem c_X5_isMove (l : Launch) (G : EG) (a : Int32) (b : Int32) : RO l yX5_isMove wsX5_isMove (rmR 1 21) G [] [.int a, .int b] (.int (nI (mvOk a b).toNat)) := by
  refine RO.start (by decide) rfl (Nat.le_of_ble_eq_true rfl) ?_
  intro p e s m below meth c hx hb hr hml hts hown hlocks hP hE ls hl
  have hown : s.vm.findClass RX5 = some m.cls := hown
  have hl : lv_has ls 2 [(0, .int a), (1, .int b)] := hl
  refine lv_iload_n hx hb dX5_isMove_0 rfl (lv_at hl 0 rfl) ?_
  refine lv_if_eq (tgt := 26) hx hb dX5_isMove_1 (by decide) (fun c1 => ?_) (fun c1 => ?_)
  · skip
    refine lv_iconst (v := nI 0) hx hb dX5_isMove_26 (by decide) ?_
    exact ro_zret hx hb hr hlocks dX5_isMove_27 (by rw [show mvOk a b = false from decide_eq_false (fun h => h.1 c1)]; rfl) rfl
  · skip
    refine lv_iload_n hx hb dX5_isMove_4 rfl (lv_at hl 0 rfl) ?_
    refine lv_bipush (v := nI 23) hx hb dX5_isMove_5 (by decide) ?_
    refine ro_S (rest := []) ⟨hx, hb, hml, hown, hts⟩ (c_X5_isBelow l G a 23) (va_cwS 2 hts gX5_isMove_X5_isBelow rfl rfl rfl (by decide +kernel) ⟨Nat.le_of_ble_eq_true rfl, Nat.le_of_ble_eq_true rfl⟩) hE (hP.sub [] rfl) rfl hl.1 rfl (Nat.le_of_ble_eq_true rfl) dX5_isMove_7 ⟨Nat.zero_le _, Nat.zero_le _⟩ ?_
    refine j_bool (fun c7 => ?_) (fun c7 => ?_)
    · skip
      refine j_if_eq (tgt := 26) hx hb dX5_isMove_10 (by decide) (fun q => absurd q (by decide)) (fun _ => ?_)
      refine lv_iload_n hx hb dX5_isMove_13 rfl (lv_at hl 1 rfl) ?_
      refine lv_bipush (v := nI 23) hx hb dX5_isMove_14 (by decide) ?_
      refine ro_S (rest := []) ⟨hx, hb, hml, hown, hts⟩ (c_X5_isBelow l G b 23) (va_cwS 2 hts gX5_isMove_X5_isBelow rfl rfl rfl (by decide +kernel) ⟨Nat.le_of_ble_eq_true rfl, Nat.le_of_ble_eq_true rfl⟩) hE (hP.sub [] rfl) rfl hl.1 rfl (Nat.le_of_ble_eq_true rfl) dX5_isMove_16 ⟨Nat.zero_le _, Nat.zero_le _⟩ ?_
      refine j_bool (fun c16 => ?_) (fun c16 => ?_)
      · skip
        refine j_if_eq (tgt := 26) hx hb dX5_isMove_19 (by decide) (fun q => absurd q (by decide)) (fun _ => ?_)
        refine lv_iconst (v := nI 1) hx hb dX5_isMove_22 (by decide) ?_
        refine lv_goto (tgt := 27) hx hb dX5_isMove_23 (by decide) ?_
        exact ro_zret hx hb hr hlocks dX5_isMove_27 (by rw [show mvOk a b = true from decide_eq_true ⟨c1, c7, c16⟩]; rfl) rfl
      · skip
        refine j_if_eq (tgt := 26) hx hb dX5_isMove_19 (by decide) (fun _ => ?_) (fun q => absurd q (by decide))
        refine lv_iconst (v := nI 0) hx hb dX5_isMove_26 (by decide) ?_
        exact ro_zret hx hb hr hlocks dX5_isMove_27 (by rw [show mvOk a b = false from decide_eq_false (fun h => by rw [c16] at h; exact absurd h.2.2 (by decide))]; rfl) rfl
    · skip
      refine j_if_eq (tgt := 26) hx hb dX5_isMove_10 (by decide) (fun _ => ?_) (fun q => absurd q (by decide))
      refine lv_iconst (v := nI 0) hx hb dX5_isMove_26 (by decide) ?_
      exact ro_zret hx hb hr hlocks dX5_isMove_27 (by rw [show mvOk a b = false from decide_eq_false (fun h => by rw [c7] at h; exact absurd h.2.1 (by decide))]; rfl) rfl
end
section
set_option maxHeartbeats 4000000 in
set_option maxRecDepth 100000 in
/-- in -/
theorem c_X6_in (l : Launch) (G : EG) (x : Int32) (lo : Int32) (hi : Int32) : RO l yX6_in wsX6_in (rmR 0 0) G [] [.int x, .int lo, .int hi] (.int (nI (inI x lo hi).toNat)) := by
  refine RO.start (by decide) rfl (Nat.le_of_ble_eq_true rfl) ?_
  intro p e s m below meth c hx hb hr hml hts hown hlocks hP hE ls hl
  have hown : s.vm.findClass RX6 = some m.cls := hown
  have hl : lv_has ls 3 [(0, .int x), (1, .int lo), (2, .int hi)] := hl
  refine lv_iload_n hx hb dX6_in_0 rfl (lv_at hl 0 rfl) ?_
  refine lv_iload_n hx hb dX6_in_1 rfl (lv_at hl 1 rfl) ?_
  refine lv_icmp_lt (tgt := 14) hx hb dX6_in_2 (by decide) (fun c2 => ?_) (fun c2 => ?_)
  · skip
    refine lv_iconst (v := nI 0) hx hb dX6_in_14 (by decide) ?_
    exact ro_zret hx hb hr hlocks dX6_in_15 (by rw [inI_f1 c2]; rfl) rfl
  · skip
    refine lv_iload_n hx hb dX6_in_5 rfl (lv_at hl 0 rfl) ?_
    refine lv_iload_n hx hb dX6_in_6 rfl (lv_at hl 2 rfl) ?_
    refine lv_icmp_gt (tgt := 14) hx hb dX6_in_7 (by decide) (fun c7 => ?_) (fun c7 => ?_)
    · skip
      refine lv_iconst (v := nI 0) hx hb dX6_in_14 (by decide) ?_
      exact ro_zret hx hb hr hlocks dX6_in_15 (by rw [inI_f2 c7]; rfl) rfl
    · skip
      refine lv_iconst (v := nI 1) hx hb dX6_in_10 (by decide) ?_
      refine lv_goto (tgt := 15) hx hb dX6_in_11 (by decide) ?_
      exact ro_zret hx hb hr hlocks dX6_in_15 (by rw [inI_t c2 c7]; rfl) rfl
set_option maxHeartbeats 4000000 in
set_option maxRecDepth 100000 in
/-- X6_isWord -/
theorem c_X6_isWord (l : Launch) (G : EG) (x : Int32) : RO l yX6_isWord wsX6_isWord (rmR 1 22) G [] [.int x] (.int (nI (blw x 8388608).toNat)) := by
  refine RO.start (by decide) rfl (Nat.le_of_ble_eq_true rfl) ?_
  intro p e s m below meth c hx hb hr hml hts hown hlocks hP hE ls hl
  have hown : s.vm.findClass RX6 = some m.cls := hown
  have hl : lv_has ls 1 [(0, .int x)] := hl
  refine lv_iload_n hx hb dX6_isWord_0 rfl (lv_at hl 0 rfl) ?_
  refine lv_iconst (v := nI 0) hx hb dX6_isWord_1 (by decide) ?_
  refine lv_ldc (v := nI 8388607) hx hb hown (hts (.constant RX6 34 (nI 8388607)) (List.mem_of_getElem? (i := 1) rfl)) dX6_isWord_2 ?_
  refine ro_S (rest := []) ⟨hx, hb, hml, hown, hts⟩ (c_X6_in l G x (nI 0) (nI 8388607)) (va_cwS 3 hts gX6_isWord_X6_in rfl rfl rfl (by decide +kernel) ⟨Nat.le_of_ble_eq_true rfl, Nat.le_of_ble_eq_true rfl⟩) hE (hP.sub [] rfl) rfl hl.1 rfl (Nat.le_of_ble_eq_true rfl) dX6_isWord_4 ⟨Nat.zero_le _, Nat.zero_le _⟩ ?_
  refine j_bool (fun c4 => ?_) (fun c4 => ?_)
  · skip
    exact ro_zret hx hb hr hlocks dX6_isWord_7 (by rw [← inI_blw x (by decide) (by decide), show nI (8388608 - 1) = nI 8388607 from rfl, c4]; rfl) rfl
  · skip
    exact ro_zret hx hb hr hlocks dX6_isWord_7 (by rw [← inI_blw x (by decide) (by decide), show nI (8388608 - 1) = nI 8388607 from rfl, c4]; rfl) rfl
set_option maxHeartbeats 4000000 in
set_option maxRecDepth 100000 in
/-- X6_isMessage -/
theorem c_X6_isMessage (l : Launch) (G : EG) (x : Int32) : RO l yX6_isMessage wsX6_isMessage (rmR 1 22) G [] [.int x] (.int (nI (blw x 4096).toNat)) := by
  refine RO.start (by decide) rfl (Nat.le_of_ble_eq_true rfl) ?_
  intro p e s m below meth c hx hb hr hml hts hown hlocks hP hE ls hl
  have hown : s.vm.findClass RX6 = some m.cls := hown
  have hl : lv_has ls 1 [(0, .int x)] := hl
  refine lv_iload_n hx hb dX6_isMessage_0 rfl (lv_at hl 0 rfl) ?_
  refine lv_iconst (v := nI 0) hx hb dX6_isMessage_1 (by decide) ?_
  refine lv_sipush (v := nI 4095) hx hb dX6_isMessage_2 (by decide) ?_
  refine ro_S (rest := []) ⟨hx, hb, hml, hown, hts⟩ (c_X6_in l G x (nI 0) (nI 4095)) (va_cwS 3 hts gX6_isMessage_X6_in rfl rfl rfl (by decide +kernel) ⟨Nat.le_of_ble_eq_true rfl, Nat.le_of_ble_eq_true rfl⟩) hE (hP.sub [] rfl) rfl hl.1 rfl (Nat.le_of_ble_eq_true rfl) dX6_isMessage_5 ⟨Nat.zero_le _, Nat.zero_le _⟩ ?_
  refine j_bool (fun c5 => ?_) (fun c5 => ?_)
  · skip
    exact ro_zret hx hb hr hlocks dX6_isMessage_8 (by rw [← inI_blw x (by decide) (by decide), show nI (4096 - 1) = nI 4095 from rfl, c5]; rfl) rfl
  · skip
    exact ro_zret hx hb hr hlocks dX6_isMessage_8 (by rw [← inI_blw x (by decide) (by decide), show nI (4096 - 1) = nI 4095 from rfl, c5]; rfl) rfl
set_option maxHeartbeats 4000000 in
set_option maxRecDepth 100000 in
/-- X6_isPlace -/
theorem c_X6_isPlace (l : Launch) (G : EG) (x : Int32) : RO l yX6_isPlace wsX6_isPlace (rmR 1 22) G [] [.int x] (.int (nI (blw x 23).toNat)) := by
  refine RO.start (by decide) rfl (Nat.le_of_ble_eq_true rfl) ?_
  intro p e s m below meth c hx hb hr hml hts hown hlocks hP hE ls hl
  have hown : s.vm.findClass RX6 = some m.cls := hown
  have hl : lv_has ls 1 [(0, .int x)] := hl
  refine lv_iload_n hx hb dX6_isPlace_0 rfl (lv_at hl 0 rfl) ?_
  refine lv_iconst (v := nI 0) hx hb dX6_isPlace_1 (by decide) ?_
  refine lv_bipush (v := nI 22) hx hb dX6_isPlace_2 (by decide) ?_
  refine ro_S (rest := []) ⟨hx, hb, hml, hown, hts⟩ (c_X6_in l G x (nI 0) (nI 22)) (va_cwS 3 hts gX6_isPlace_X6_in rfl rfl rfl (by decide +kernel) ⟨Nat.le_of_ble_eq_true rfl, Nat.le_of_ble_eq_true rfl⟩) hE (hP.sub [] rfl) rfl hl.1 rfl (Nat.le_of_ble_eq_true rfl) dX6_isPlace_4 ⟨Nat.zero_le _, Nat.zero_le _⟩ ?_
  refine j_bool (fun c4 => ?_) (fun c4 => ?_)
  · skip
    exact ro_zret hx hb hr hlocks dX6_isPlace_7 (by rw [← inI_blw x (by decide) (by decide), show nI (23 - 1) = nI 22 from rfl, c4]; rfl) rfl
  · skip
    exact ro_zret hx hb hr hlocks dX6_isPlace_7 (by rw [← inI_blw x (by decide) (by decide), show nI (23 - 1) = nI 22 from rfl, c4]; rfl) rfl
set_option maxHeartbeats 4000000 in
set_option maxRecDepth 100000 in
/-- weight -/
theorem c_X6_weight (l : Launch) (G : EG) (v : Nat) (hv : v < 2147483648) : RO l yX6_weight wsX6_weight (rmR 0 0) G [] [.int (nI v)] (.int (nI (wtN v))) := by
  refine RO.start (by decide) rfl (Nat.le_of_ble_eq_true rfl) ?_
  intro p e s m below meth c hx hb hr hml hts hown hlocks hP hE ls hl
  have hown : s.vm.findClass RX6 = some m.cls := hown
  have hl : lv_has ls 3 [(0, .int (nI v))] := hl
  refine lv_iconst (v := nI 0) hx hb dX6_weight_0 (by decide) ?_
  refine lv_istore_n (lv' := [(1, .int (nI 0)), (0, .int (nI v))]) hx hb dX6_weight_1 rfl hl (by decide) rfl (fun ls hl => ?_)
  refine lv_iconst (v := nI 0) hx hb dX6_weight_2 (by decide) ?_
  refine lv_istore_n (lv' := [(2, .int (nI 0)), (1, .int (nI 0)), (0, .int (nI v))]) hx hb dX6_weight_3 rfl hl (by decide) rfl (fun ls hl => ?_)
  have loop4 : ∀ (fuel : Nat) (t : Nat) (k : Nat), (k ≤ 24) → (t = wtL v k) → 24 - k < fuel → ∀ ls : Array Slot, lv_has ls 3 [(2, .int (nI k)), (1, .int (nI t)), (0, .int (nI v))] → W p l e (rmR 0 0) s m ([.int (nI v)] : List Value).toArray below meth c s.heap [] 0 0 (MQ below (k2_QcV (.int (nI (wtN v)))) ([.int (nI v)] : List Value).toArray s 0 0 (fun _ => False)) (F0 m 4 ls []) := by
    intro fuel
    induction fuel with
    | zero => intro t k h1 h2 hf; exact absurd hf (Nat.not_lt_zero _)
    | succ fuel ih4 =>
      intro t k h1 h2 hf ls hl
      refine lv_iload_n hx hb dX6_weight_4 rfl (lv_at hl 0 rfl) ?_
      refine lv_bipush (v := nI 24) hx hb dX6_weight_5 (by decide) ?_
      refine j_icmp_ge (tgt := 24) hx hb dX6_weight_7 (by decide) (fun c7 => ?_) (fun c7 => ?_)
      · skip
        refine lv_iload_n hx hb dX6_weight_24 rfl (lv_at hl 1 rfl) ?_
        exact ro_ret hx hb hr hlocks dX6_weight_25 (by rw [h2, show k = 24 by omega]; rfl)
      · skip
        refine lv_iload_n hx hb dX6_weight_10 rfl (lv_at hl 1 rfl) ?_
        refine lv_iload_n hx hb dX6_weight_11 rfl (lv_at hl 2 rfl) ?_
        refine lv_iload_n hx hb dX6_weight_12 rfl (lv_at hl 0 rfl) ?_
        refine j_shr hx hb dX6_weight_13 ?_
        refine lv_iconst (v := nI 1) hx hb dX6_weight_14 (by decide) ?_
        refine j_and hx hb dX6_weight_15 ?_
        refine j_add hx hb dX6_weight_16 ?_
        refine j_top (fun x17 ex17 => ?_)
        refine lv_istore_n (lv' := [(1, .int (nI x17)), (2, .int (nI k)), (0, .int (nI v))]) hx hb dX6_weight_17 rfl hl (by decide) rfl (fun ls hl => ?_)
        obtain ⟨x18, ex18⟩ : ∃ y : Nat, y = k + 1 := ⟨_, rfl⟩
        refine lv_iinc (v := nI x18) (lv' := [(2, .int (nI x18)), (1, .int (nI x17)), (0, .int (nI v))]) hx hb dX6_weight_18 hl (k := 1) rfl (by rw [ex18]; exact nI_add _ _) (by decide) rfl (fun ls hl => ?_)
        refine lv_goto (tgt := 4) hx hb dX6_weight_21 (by decide) ?_
        exact ih4 x17 x18 (by omega) (by rw [ex17, ex18, h2]; rfl) (by omega) ls (lv_sub hl [0, 1, 2] rfl)
  exact loop4 _ 0 0 (by omega) rfl (Nat.lt_succ_self _) ls (lv_sub hl [0, 1, 2] rfl)
set_option maxHeartbeats 4000000 in
set_option maxRecDepth 100000 in
/-- restOf -/
theorem c_X6_restOf (l : Launch) (G : EG) (w : Nat) (hw : w < 16777216) : RO l yX6_restOf wsX6_restOf (rmR 0 0) G [] [.int (nI w)] (.int (nI (remN w))) := by
  refine RO.start (by decide) rfl (Nat.le_of_ble_eq_true rfl) ?_
  intro p e s m below meth c hx hb hr hml hts hown hlocks hP hE ls hl
  have hown : s.vm.findClass RX6 = some m.cls := hown
  have hl : lv_has ls 3 [(0, .int (nI w))] := hl
  refine lv_iload_n hx hb dX6_restOf_0 rfl (lv_at hl 0 rfl) ?_
  refine lv_istore_n (lv' := [(1, .int (nI w)), (0, .int (nI w))]) hx hb dX6_restOf_1 rfl hl (by decide) rfl (fun ls hl => ?_)
  refine lv_bipush (v := nI 22) hx hb dX6_restOf_2 (by decide) ?_
  refine lv_istore_n (lv' := [(2, .int (nI 22)), (1, .int (nI w)), (0, .int (nI w))]) hx hb dX6_restOf_4 rfl hl (by decide) rfl (fun ls hl => ?_)
  have loop5 : ∀ (fuel : Nat) (v : Nat) (q : Nat), (10 ≤ q) → (q ≤ 22) → (v < 16777216) → (remL (q - 10) v = remN w) → q < fuel → ∀ ls : Array Slot, lv_has ls 3 [(2, .int (nI q)), (1, .int (nI v)), (0, .int (nI w))] → W p l e (rmR 0 0) s m ([.int (nI w)] : List Value).toArray below meth c s.heap [] 0 0 (MQ below (k2_QcV (.int (nI (remN w)))) ([.int (nI w)] : List Value).toArray s 0 0 (fun _ => False)) (F0 m 5 ls []) := by
    intro fuel
    induction fuel with
    | zero => intro v q h1 h2 h3 h4 hf; exact absurd hf (Nat.not_lt_zero _)
    | succ fuel ih5 =>
      intro v q h1 h2 h3 h4 hf ls hl
      refine lv_iload_n hx hb dX6_restOf_5 rfl (lv_at hl 0 rfl) ?_
      refine lv_bipush (v := nI 11) hx hb dX6_restOf_6 (by decide) ?_
      refine j_icmp_lt (tgt := 41) hx hb dX6_restOf_8 (by decide) (fun c8 => ?_) (fun c8 => ?_)
      · skip
        refine lv_iload_n hx hb dX6_restOf_41 rfl (lv_at hl 1 rfl) ?_
        exact ro_ret hx hb hr hlocks dX6_restOf_42 (by rw [← h4, show q - 10 = 0 by omega]; rfl)
      · skip
        refine lv_iload_n hx hb dX6_restOf_11 rfl (lv_at hl 1 rfl) ?_
        refine lv_iload_n hx hb dX6_restOf_12 rfl (lv_at hl 1 rfl) ?_
        refine lv_iload_n hx hb dX6_restOf_13 rfl (lv_at hl 0 rfl) ?_
        refine j_shr hx hb dX6_restOf_14 ?_
        refine lv_iconst (v := nI 1) hx hb dX6_restOf_15 (by decide) ?_
        refine j_and hx hb dX6_restOf_16 ?_
        refine lv_iconst (v := nI 1) hx hb dX6_restOf_17 (by decide) ?_
        refine j_icmp_ne (tgt := 32) hx hb dX6_restOf_18 (by decide) (fun c18 => ?_) (fun c18 => ?_) (h1 := bd_and (by decide)) (h2 := by decide)
        · skip
          refine lv_iconst (v := nI 0) hx hb dX6_restOf_32 (by decide) ?_
          refine j_xor hx hb dX6_restOf_33 ?_
          refine j_top (fun x34 ex34 => ?_)
          refine lv_istore_n (lv' := [(1, .int (nI x34)), (2, .int (nI q)), (0, .int (nI w))]) hx hb dX6_restOf_34 rfl hl (by decide) rfl (fun ls hl => ?_)
          obtain ⟨x35, ex35⟩ : ∃ y : Nat, y = q - 1 := ⟨_, rfl⟩
          refine lv_iinc (v := nI x35) (lv' := [(2, .int (nI x35)), (1, .int (nI x34)), (0, .int (nI w))]) hx hb dX6_restOf_35 hl (k := 1) rfl (by rw [ex35]; exact sb_m1 (by omega)) (by decide) rfl (fun ls hl => ?_)
          refine lv_goto (tgt := 5) hx hb dX6_restOf_38 (by decide) ?_
          exact ih5 x34 x35 (by omega) (by omega) (by rw [ex34, Nat.xor_zero]; exact h3) (by rw [← h4, show q - 10 = (x35 - 10) + 1 by omega, remL_succ, show x35 - 10 + 11 = q by omega, remStep_f c18, ex34, Nat.xor_zero]) (by omega) ls (lv_sub hl [0, 1, 2] rfl)
        · skip
          refine lv_sipush (v := nI 3189) hx hb dX6_restOf_21 (by decide) ?_
          refine lv_iload_n hx hb dX6_restOf_24 rfl (lv_at hl 0 rfl) ?_
          refine lv_bipush (v := nI 11) hx hb dX6_restOf_25 (by decide) ?_
          refine j_sub hx hb dX6_restOf_27 ?_
          refine j_shl hx hb dX6_restOf_28 ?_
          refine lv_goto (tgt := 33) hx hb dX6_restOf_29 (by decide) ?_
          refine j_xor hx hb dX6_restOf_33 ?_
          refine j_top (fun x34 ex34 => ?_)
          refine lv_istore_n (lv' := [(1, .int (nI x34)), (2, .int (nI q)), (0, .int (nI w))]) hx hb dX6_restOf_34 rfl hl (by decide) rfl (fun ls hl => ?_)
          obtain ⟨x35, ex35⟩ : ∃ y : Nat, y = q - 1 := ⟨_, rfl⟩
          refine lv_iinc (v := nI x35) (lv' := [(2, .int (nI x35)), (1, .int (nI x34)), (0, .int (nI w))]) hx hb dX6_restOf_35 hl (k := 1) rfl (by rw [ex35]; exact sb_m1 (by omega)) (by decide) rfl (fun ls hl => ?_)
          refine lv_goto (tgt := 5) hx hb dX6_restOf_38 (by decide) ?_
          exact ih5 x34 x35 (by omega) (by omega) (by rw [ex34, ← remStep_t c18]; exact remStep_lt h3 h2) (by rw [← h4, show q - 10 = (x35 - 10) + 1 by omega, remL_succ, show x35 - 10 + 11 = q by omega, remStep_t c18, ex34]) (by omega) ls (lv_sub hl [0, 1, 2] rfl)
  exact loop5 _ w 22 (by omega) (by omega) hw rfl (Nat.lt_succ_self _) ls (lv_sub hl [0, 1, 2] rfl)
set_option maxHeartbeats 4000000 in
set_option maxRecDepth 100000 in
/-- madeOf -/
theorem c_X6_madeOf (l : Launch) (G : EG) (w : Nat) (hw : w < 4096) : RO l yX6_madeOf wsX6_madeOf (rmR 1 22) G [] [.int (nI w)] (.int (nI (madeN w))) := by
  refine RO.start (by decide) rfl (Nat.le_of_ble_eq_true rfl) ?_
  intro p e s m below meth c hx hb hr hml hts hown hlocks hP hE ls hl
  have hown : s.vm.findClass RX6 = some m.cls := hown
  have hl : lv_has ls 2 [(0, .int (nI w))] := hl
  refine lv_iload_n hx hb dX6_madeOf_0 rfl (lv_at hl 0 rfl) ?_
  refine lv_bipush (v := nI 11) hx hb dX6_madeOf_1 (by decide) ?_
  refine j_shl hx hb dX6_madeOf_3 ?_
  refine j_top (fun x4 ex4 => ?_)
  refine lv_istore_n (lv' := [(1, .int (nI x4)), (0, .int (nI w))]) hx hb dX6_madeOf_4 rfl hl (by decide) rfl (fun ls hl => ?_)
  refine lv_iload_n hx hb dX6_madeOf_5 rfl (lv_at hl 0 rfl) ?_
  refine lv_iload_n hx hb dX6_madeOf_6 rfl (lv_at hl 0 rfl) ?_
  refine ro_S (rest := [.int (nI x4)]) ⟨hx, hb, hml, hown, hts⟩ (c_X6_restOf l G x4 (by rw [ex4, Nat.shiftLeft_eq]; omega)) (va_cwS 1 hts gX6_madeOf_X6_restOf rfl rfl rfl (by decide +kernel) ⟨Nat.le_of_ble_eq_true rfl, Nat.le_of_ble_eq_true rfl⟩) hE (hP.sub [] rfl) rfl hl.1 rfl (Nat.le_of_ble_eq_true rfl) dX6_madeOf_7 ⟨Nat.zero_le _, Nat.zero_le _⟩ ?_
  refine j_add hx hb dX6_madeOf_10 ?_
  exact ro_ret hx hb hr hlocks dX6_madeOf_11 (by rw [ex4]; rfl)
set_option maxHeartbeats 4000000 in
set_option maxRecDepth 100000 in
/-- nearest -/
theorem c_X6_nearest (l : Launch) (G : EG) (o : Nat) (sa : Nat) (ia : Nat) (ka : Nat) (ea : Nat) (ca : Nat) (tr : Nat) (fi : Int32) (E : Nat → Nat) (w : Nat) (hw : w < 8388608) : RO l yX6_nearest wsX6_nearest (rmR 1 22) G [(o, .inr (5, [.ref sa, .ref ia, .ref ka, .ref ea, .int (nI tr), .int fi, .ref ca])), (ea, aI G 2048 E)] [.ref o, .int (nI w)] (.int (nI (nearE E w))) := by
  refine RO.start (by decide) rfl (Nat.le_of_ble_eq_true rfl) ?_
  intro p e s m below meth c hx hb hr hml hts hown hlocks hP hE ls hl
  have hown : s.vm.findClass RX6 = some m.cls := hown
  have hl : lv_has ls 2 [(0, .ref o), (1, .int (nI w))] := hl
  refine lv_iload_n hx hb dX6_nearest_0 rfl (lv_at hl 1 rfl) ?_
  refine lv_aload_n hx hb dX6_nearest_1 rfl (lv_at hl 0 rfl) ?_
  refine va_get (D := G.1) (ci := 5) (v := .ref ea) (C := RX6) (T := TX6) (N := 7) hx hb hts (fun w h => List.mem_cons_of_mem _ (List.mem_append_right _ h)) hown hE.1 hP 0 rfl rfl 3 (by decide) (hts (.fieldLink RX6 20 "TripleTrapModel" "errorsOf" "[I") (List.mem_of_getElem? (i := 1) rfl)) (fun _ h9 => h9) rfl dX6_nearest_2 ?_
  refine lv_iload_n hx hb dX6_nearest_5 rfl (lv_at hl 1 rfl) ?_
  refine ro_S (rest := [.ref ea, .int (nI w)]) ⟨hx, hb, hml, hown, hts⟩ (c_X6_restOf l G w (by omega)) (va_cwS 1 hts gX6_nearest_X6_restOf rfl rfl rfl (by decide +kernel) ⟨Nat.le_of_ble_eq_true rfl, Nat.le_of_ble_eq_true rfl⟩) hE (hP.sub [] rfl) rfl hl.1 rfl (Nat.le_of_ble_eq_true rfl) dX6_nearest_6 ⟨Nat.zero_le _, Nat.zero_le _⟩ ?_
  refine j_iald hx hb hE hP 1 rfl dX6_nearest_9 ?_ (hk := remN_lt11 hw)
  refine j_xor hx hb dX6_nearest_10 ?_
  exact ro_ret hx hb hr hlocks dX6_nearest_11 (rfl)
set_option maxHeartbeats 4000000 in
set_option maxRecDepth 100000 in
/-- made -/
theorem c_X6_made (l : Launch) (G : EG) (o : Nat) (sa : Nat) (ia : Nat) (ka : Nat) (ea : Nat) (ca : Nat) (tr : Nat) (fi : Int32) (x : Int32) : RO l yX6_made wsX6_made (rmR 2 43) G [(o, .inr (5, [.ref sa, .ref ia, .ref ka, .ref ea, .int (nI tr), .int fi, .ref ca]))] [.ref o, .int x] (.int (mMade x)) := by
  refine RO.start (by decide) rfl (Nat.le_of_ble_eq_true rfl) ?_
  intro p e s m below meth c hx hb hr hml hts hown hlocks hP hE ls hl
  have hown : s.vm.findClass RX6 = some m.cls := hown
  have hl : lv_has ls 2 [(0, .ref o), (1, .int x)] := hl
  refine lv_iload_n hx hb dX6_made_0 rfl (lv_at hl 1 rfl) ?_
  refine ro_S (rest := []) ⟨hx, hb, hml, hown, hts⟩ (c_X6_isMessage l G x) (va_cwS 1 hts gX6_made_X6_isMessage rfl rfl rfl (by decide +kernel) ⟨Nat.le_of_ble_eq_true rfl, Nat.le_of_ble_eq_true rfl⟩) hE (hP.sub [] rfl) rfl hl.1 rfl (Nat.le_of_ble_eq_true rfl) dX6_made_1 ⟨Nat.zero_le _, Nat.zero_le _⟩ ?_
  refine j_bool (fun c1 => ?_) (fun c1 => ?_)
  · skip
    obtain ⟨w, hw, rfl⟩ := blw_ex c1 (by decide)
    refine j_if_eq (tgt := 14) hx hb dX6_made_4 (by decide) (fun q => absurd q (by decide)) (fun _ => ?_)
    refine lv_iload_n hx hb dX6_made_7 rfl (lv_at hl 1 rfl) ?_
    refine ro_S (rest := []) ⟨hx, hb, hml, hown, hts⟩ (c_X6_madeOf l G w (by omega)) (va_cwS 1 hts gX6_made_X6_madeOf rfl rfl rfl (by decide +kernel) ⟨Nat.le_of_ble_eq_true rfl, Nat.le_of_ble_eq_true rfl⟩) hE (hP.sub [] rfl) rfl hl.1 rfl (Nat.le_of_ble_eq_true rfl) dX6_made_8 ⟨Nat.zero_le _, Nat.zero_le _⟩ ?_
    refine lv_goto (tgt := 16) hx hb dX6_made_11 (by decide) ?_
    exact ro_ret hx hb hr hlocks dX6_made_16 (by rw [mMade, if_pos c1, cl_nI hw (by decide)])
  · skip
    refine j_if_eq (tgt := 14) hx hb dX6_made_4 (by decide) (fun _ => ?_) (fun q => absurd q (by decide))
    refine lv_bipush (v := (-2)) hx hb dX6_made_14 (by decide) ?_
    exact ro_ret hx hb hr hlocks dX6_made_16 (by rw [mMade, if_neg (by rw [c1]; decide)])
set_option maxHeartbeats 4000000 in
set_option maxRecDepth 100000 in
/-- rest -/
theorem c_X6_rest (l : Launch) (G : EG) (o : Nat) (sa : Nat) (ia : Nat) (ka : Nat) (ea : Nat) (ca : Nat) (tr : Nat) (fi : Int32) (x : Int32) : RO l yX6_rest wsX6_rest (rmR 2 42) G [(o, .inr (5, [.ref sa, .ref ia, .ref ka, .ref ea, .int (nI tr), .int fi, .ref ca]))] [.ref o, .int x] (.int (mRest x)) := by
  refine RO.start (by decide) rfl (Nat.le_of_ble_eq_true rfl) ?_
  intro p e s m below meth c hx hb hr hml hts hown hlocks hP hE ls hl
  have hown : s.vm.findClass RX6 = some m.cls := hown
  have hl : lv_has ls 2 [(0, .ref o), (1, .int x)] := hl
  refine lv_iload_n hx hb dX6_rest_0 rfl (lv_at hl 1 rfl) ?_
  refine ro_S (rest := []) ⟨hx, hb, hml, hown, hts⟩ (c_X6_isWord l G x) (va_cwS 1 hts gX6_rest_X6_isWord rfl rfl rfl (by decide +kernel) ⟨Nat.le_of_ble_eq_true rfl, Nat.le_of_ble_eq_true rfl⟩) hE (hP.sub [] rfl) rfl hl.1 rfl (Nat.le_of_ble_eq_true rfl) dX6_rest_1 ⟨Nat.zero_le _, Nat.zero_le _⟩ ?_
  refine j_bool (fun c1 => ?_) (fun c1 => ?_)
  · skip
    obtain ⟨w, hw, rfl⟩ := blw_ex c1 (by decide)
    refine j_if_eq (tgt := 14) hx hb dX6_rest_4 (by decide) (fun q => absurd q (by decide)) (fun _ => ?_)
    refine lv_iload_n hx hb dX6_rest_7 rfl (lv_at hl 1 rfl) ?_
    refine ro_S (rest := []) ⟨hx, hb, hml, hown, hts⟩ (c_X6_restOf l G w (by omega)) (va_cwS 1 hts gX6_rest_X6_restOf rfl rfl rfl (by decide +kernel) ⟨Nat.le_of_ble_eq_true rfl, Nat.le_of_ble_eq_true rfl⟩) hE (hP.sub [] rfl) rfl hl.1 rfl (Nat.le_of_ble_eq_true rfl) dX6_rest_8 ⟨Nat.zero_le _, Nat.zero_le _⟩ ?_
    refine lv_goto (tgt := 16) hx hb dX6_rest_11 (by decide) ?_
    exact ro_ret hx hb hr hlocks dX6_rest_16 (by rw [mRest, if_pos c1, cl_nI hw (by decide)])
  · skip
    refine j_if_eq (tgt := 14) hx hb dX6_rest_4 (by decide) (fun _ => ?_) (fun q => absurd q (by decide))
    refine lv_bipush (v := (-2)) hx hb dX6_rest_14 (by decide) ?_
    exact ro_ret hx hb hr hlocks dX6_rest_16 (by rw [mRest, if_neg (by rw [c1]; decide)])
set_option maxHeartbeats 4000000 in
set_option maxRecDepth 100000 in
/-- of -/
theorem c_X6_of (l : Launch) (G : EG) (o : Nat) (sa : Nat) (ia : Nat) (ka : Nat) (ea : Nat) (ca : Nat) (tr : Nat) (fi : Int32) (E : Nat → Nat) (hEb : ∀ i, i < 2048 → E i < 8388608) (x : Int32) (y : Int32) : RO l yX6_of wsX6_of (rmR 2 43) G [(o, .inr (5, [.ref sa, .ref ia, .ref ka, .ref ea, .int (nI tr), .int fi, .ref ca])), (ea, aI G 2048 E)] [.ref o, .int x, .int y] (.int (mOf E x y)) := by
  refine RO.start (by decide) rfl (Nat.le_of_ble_eq_true rfl) ?_
  intro p e s m below meth c hx hb hr hml hts hown hlocks hP hE ls hl
  have hown : s.vm.findClass RX6 = some m.cls := hown
  have hl : lv_has ls 3 [(0, .ref o), (1, .int x), (2, .int y)] := hl
  refine lv_iload_n hx hb dX6_of_0 rfl (lv_at hl 1 rfl) ?_
  refine ro_S (rest := []) ⟨hx, hb, hml, hown, hts⟩ (c_X6_isWord l G x) (va_cwS 1 hts gX6_of_X6_isWord rfl rfl rfl (by decide +kernel) ⟨Nat.le_of_ble_eq_true rfl, Nat.le_of_ble_eq_true rfl⟩) hE (hP.sub [] rfl) rfl hl.1 rfl (Nat.le_of_ble_eq_true rfl) dX6_of_1 ⟨Nat.zero_le _, Nat.zero_le _⟩ ?_
  refine j_bool (fun c1 => ?_) (fun c1 => ?_)
  · skip
    obtain ⟨w, hw, rfl⟩ := blw_ex c1 (by decide)
    refine j_if_ne (tgt := 10) hx hb dX6_of_4 (by decide) (fun _ => ?_) (fun q => absurd q (by decide))
    refine lv_iload_n hx hb dX6_of_10 rfl (lv_at hl 2 rfl) ?_
    by_cases c11_0 : y = nI 0
    · subst c11_0
      refine lv_tableIn (off := 29) (tgt := 40) hx hb dX6_of_11 (by decide) (by decide) rfl (by decide) ?_
      refine lv_iload_n hx hb dX6_of_40 rfl (lv_at hl 1 rfl) ?_
      refine ro_S (rest := []) ⟨hx, hb, hml, hown, hts⟩ (c_X6_weight l G w (by omega)) (va_cwS 1 hts gX6_of_X6_weight rfl rfl rfl (by decide +kernel) ⟨Nat.le_of_ble_eq_true rfl, Nat.le_of_ble_eq_true rfl⟩) hE (hP.sub [] rfl) rfl hl.1 rfl (Nat.le_of_ble_eq_true rfl) dX6_of_41 ⟨Nat.zero_le _, Nat.zero_le _⟩ ?_
      exact ro_ret hx hb hr hlocks dX6_of_44 (by rw [mOf, if_pos c1, cl_nI hw (by decide), if_pos rfl])
    by_cases c11_1 : y = nI 1
    · subst c11_1
      refine lv_tableIn (off := 34) (tgt := 45) hx hb dX6_of_11 (by decide) (by decide) rfl (by decide) ?_
      refine lv_aload_n hx hb dX6_of_45 rfl (lv_at hl 0 rfl) ?_
      refine lv_iload_n hx hb dX6_of_46 rfl (lv_at hl 1 rfl) ?_
      refine ro_V 5 0 (rest := []) ⟨hx, hb, hml, hown, hts⟩ (c_X6_nearest l G o sa ia ka ea ca tr fi E w (by omega)) (cwV 1 hts gX6_of_X6_nearest rfl rfl rfl (by decide +kernel) ⟨Nat.le_of_ble_eq_true rfl, Nat.le_of_ble_eq_true rfl⟩) hE (hP.sub [0, 1] rfl) rfl rfl rfl hl.1 rfl (Nat.le_of_ble_eq_true rfl) dX6_of_47 ⟨Nat.zero_le _, Nat.zero_le _⟩ ?_
      exact ro_ret hx hb hr hlocks dX6_of_50 (by rw [mOf, if_pos c1, cl_nI hw (by decide), if_neg (by decide), if_pos rfl])
    by_cases c11_2 : y = nI 2
    · subst c11_2
      refine lv_tableIn (off := 40) (tgt := 51) hx hb dX6_of_11 (by decide) (by decide) rfl (by decide) ?_
      refine lv_aload_n hx hb dX6_of_51 rfl (lv_at hl 0 rfl) ?_
      refine va_get (D := G.1) (ci := 5) (v := .ref ea) (C := RX6) (T := TX6) (N := 7) hx hb hts (fun w h => List.mem_cons_of_mem _ (List.mem_append_right _ h)) hown hE.1 hP 0 rfl rfl 3 (by decide) (hts (.fieldLink RX6 20 "TripleTrapModel" "errorsOf" "[I") (List.mem_of_getElem? (i := 1) rfl)) (fun _ h9 => h9) rfl dX6_of_52 ?_
      refine lv_iload_n hx hb dX6_of_55 rfl (lv_at hl 1 rfl) ?_
      refine ro_S (rest := [.ref ea]) ⟨hx, hb, hml, hown, hts⟩ (c_X6_restOf l G w (by omega)) (va_cwS 1 hts gX6_of_X6_restOf rfl rfl rfl (by decide +kernel) ⟨Nat.le_of_ble_eq_true rfl, Nat.le_of_ble_eq_true rfl⟩) hE (hP.sub [] rfl) rfl hl.1 rfl (Nat.le_of_ble_eq_true rfl) dX6_of_56 ⟨Nat.zero_le _, Nat.zero_le _⟩ ?_
      refine j_iald hx hb hE hP 1 rfl dX6_of_59 ?_ (hk := remN_lt11 hw)
      refine ro_S (rest := []) ⟨hx, hb, hml, hown, hts⟩ (c_X6_weight l G (E (remN w)) (Nat.lt_trans (hEb _ (remN_lt11 hw)) (by decide))) (va_cwS 1 hts gX6_of_X6_weight rfl rfl rfl (by decide +kernel) ⟨Nat.le_of_ble_eq_true rfl, Nat.le_of_ble_eq_true rfl⟩) hE (hP.sub [] rfl) rfl hl.1 rfl (Nat.le_of_ble_eq_true rfl) dX6_of_60 ⟨Nat.zero_le _, Nat.zero_le _⟩ ?_
      exact ro_ret hx hb hr hlocks dX6_of_63 (by rw [mOf, if_pos c1, cl_nI hw (by decide), if_neg (by decide), if_neg (by decide), if_pos rfl])
    by_cases c11_3 : y = nI 3
    · subst c11_3
      refine lv_tableIn (off := 53) (tgt := 64) hx hb dX6_of_11 (by decide) (by decide) rfl (by decide) ?_
      refine lv_aload_n hx hb dX6_of_64 rfl (lv_at hl 0 rfl) ?_
      refine lv_iload_n hx hb dX6_of_65 rfl (lv_at hl 1 rfl) ?_
      refine ro_V 5 0 (rest := []) ⟨hx, hb, hml, hown, hts⟩ (c_X6_nearest l G o sa ia ka ea ca tr fi E w (by omega)) (cwV 1 hts gX6_of_X6_nearest rfl rfl rfl (by decide +kernel) ⟨Nat.le_of_ble_eq_true rfl, Nat.le_of_ble_eq_true rfl⟩) hE (hP.sub [0, 1] rfl) rfl rfl rfl hl.1 rfl (Nat.le_of_ble_eq_true rfl) dX6_of_66 ⟨Nat.zero_le _, Nat.zero_le _⟩ ?_
      refine lv_bipush (v := nI 11) hx hb dX6_of_69 (by decide) ?_
      refine j_shr hx hb dX6_of_71 ?_ (ha := Nat.lt_trans (near_lt hEb hw) (by decide)) (h := by decide)
      exact ro_ret hx hb hr hlocks dX6_of_72 (by rw [mOf, if_pos c1, cl_nI hw (by decide), if_neg (by decide), if_neg (by decide), if_neg (by decide), if_pos rfl])
    refine lv_tableOut (tgt := 73) hx hb dX6_of_11 (by have q0 := i32_ne c11_0 (by decide); have q1 := i32_ne c11_1 (by decide); have q2 := i32_ne c11_2 (by decide); have q3 := i32_ne c11_3 (by decide); omega) (by decide) ?_
    refine lv_bipush (v := (-2)) hx hb dX6_of_73 (by decide) ?_
    exact ro_ret hx hb hr hlocks dX6_of_75 (by rw [mOf, if_pos c1, if_neg c11_0, if_neg c11_1, if_neg c11_2, if_neg c11_3])
  · skip
    refine j_if_ne (tgt := 10) hx hb dX6_of_4 (by decide) (fun q => absurd q (by decide)) (fun _ => ?_)
    refine lv_bipush (v := (-2)) hx hb dX6_of_7 (by decide) ?_
    exact ro_ret hx hb hr hlocks dX6_of_9 (by rw [mOf, if_neg (by rw [c1]; decide)])
set_option maxHeartbeats 4000000 in
set_option maxRecDepth 100000 in
/-- around -/
theorem c_X6_around (l : Launch) (G : EG) (o : Nat) (sa : Nat) (ia : Nat) (ka : Nat) (ea : Nat) (ca : Nat) (tr : Nat) (fi : Int32) (x : Int32) (y : Int32) : RO l yX6_around wsX6_around (rmR 2 43) G [(o, .inr (5, [.ref sa, .ref ia, .ref ka, .ref ea, .int (nI tr), .int fi, .ref ca]))] [.ref o, .int x, .int y] (.int (mAround x y)) := by
  refine RO.start (by decide) rfl (Nat.le_of_ble_eq_true rfl) ?_
  intro p e s m below meth c hx hb hr hml hts hown hlocks hP hE ls hl
  have hown : s.vm.findClass RX6 = some m.cls := hown
  have hl : lv_has ls 5 [(0, .ref o), (1, .int x), (2, .int y)] := hl
  refine lv_iload_n hx hb dX6_around_0 rfl (lv_at hl 1 rfl) ?_
  refine ro_S (rest := []) ⟨hx, hb, hml, hown, hts⟩ (c_X6_isWord l G x) (va_cwS 1 hts gX6_around_X6_isWord rfl rfl rfl (by decide +kernel) ⟨Nat.le_of_ble_eq_true rfl, Nat.le_of_ble_eq_true rfl⟩) hE (hP.sub [] rfl) rfl hl.1 rfl (Nat.le_of_ble_eq_true rfl) dX6_around_1 ⟨Nat.zero_le _, Nat.zero_le _⟩ ?_
  refine j_bool (fun c1 => ?_) (fun c1 => ?_)
  · skip
    obtain ⟨w, hw, rfl⟩ := blw_ex c1 (by decide)
    refine j_if_eq (tgt := 17) hx hb dX6_around_4 (by decide) (fun q => absurd q (by decide)) (fun _ => ?_)
    refine lv_iload_n hx hb dX6_around_7 rfl (lv_at hl 2 rfl) ?_
    refine lv_iconst (v := nI 0) hx hb dX6_around_8 (by decide) ?_
    refine lv_bipush (v := nI 23) hx hb dX6_around_9 (by decide) ?_
    refine ro_S (rest := []) ⟨hx, hb, hml, hown, hts⟩ (c_X6_in l G y (nI 0) (nI 23)) (va_cwS 3 hts gX6_around_X6_in rfl rfl rfl (by decide +kernel) ⟨Nat.le_of_ble_eq_true rfl, Nat.le_of_ble_eq_true rfl⟩) hE (hP.sub [] rfl) rfl hl.1 rfl (Nat.le_of_ble_eq_true rfl) dX6_around_11 ⟨Nat.zero_le _, Nat.zero_le _⟩ ?_
    refine j_bool (fun c11 => ?_) (fun c11 => ?_)
    · skip
      obtain ⟨j, hj, rfl⟩ := inI_ex (N := 23) rfl c11 (by decide)
      refine j_if_ne (tgt := 20) hx hb dX6_around_14 (by decide) (fun _ => ?_) (fun q => absurd q (by decide))
      refine lv_iconst (v := nI 0) hx hb dX6_around_20 (by decide) ?_
      refine lv_istore_n (lv' := [(3, .int (nI 0)), (0, .ref o), (1, .int (nI w)), (2, .int (nI j))]) hx hb dX6_around_21 rfl hl (by decide) rfl (fun ls hl => ?_)
      refine lv_iconst (v := nI 0) hx hb dX6_around_22 (by decide) ?_
      refine lv_istore (lv' := [(4, .int (nI 0)), (3, .int (nI 0)), (0, .ref o), (1, .int (nI w)), (2, .int (nI j))]) hx hb dX6_around_23 hl (by decide) rfl (fun ls hl => ?_)
      have loop25 : ∀ (fuel : Nat) (t : Nat) (k : Nat), (k ≤ 4096) → (t = aroL w j k) → 4096 - k < fuel → ∀ ls : Array Slot, lv_has ls 5 [(4, .int (nI k)), (3, .int (nI t)), (0, .ref o), (1, .int (nI w)), (2, .int (nI j))] → W p l e (rmR 2 43) s m ([.ref o, .int (nI w), .int (nI j)] : List Value).toArray below meth c s.heap [] 0 0 (MQ below (k2_QcV (.int (mAround (nI w) (nI j)))) ([.ref o, .int (nI w), .int (nI j)] : List Value).toArray s 0 0 (fun _ => False)) (F0 m 25 ls []) := by
        intro fuel
        induction fuel with
        | zero => intro t k h1 h2 hf; exact absurd hf (Nat.not_lt_zero _)
        | succ fuel ih25 =>
          intro t k h1 h2 hf ls hl
          refine lv_iload hx hb dX6_around_25 (lv_at hl 0 rfl) ?_
          refine lv_sipush (v := nI 4096) hx hb dX6_around_27 (by decide) ?_
          refine j_icmp_ge (tgt := 61) hx hb dX6_around_30 (by decide) (fun c30 => ?_) (fun c30 => ?_)
          · skip
            refine lv_iload_n hx hb dX6_around_61 rfl (lv_at hl 1 rfl) ?_
            exact ro_ret hx hb hr hlocks dX6_around_62 (by rw [mAround, if_pos ⟨c1, blw_j hj (by decide)⟩, cl_nI hw (by decide), cl_nI hj (by decide), h2, show k = 4096 by omega])
          · skip
            refine lv_iload_n hx hb dX6_around_33 rfl (lv_at hl 1 rfl) ?_
            refine lv_iload hx hb dX6_around_34 (lv_at hl 0 rfl) ?_
            refine ro_S (rest := [.int (nI t)]) ⟨hx, hb, hml, hown, hts⟩ (c_X6_madeOf l G k (by omega)) (va_cwS 1 hts gX6_around_X6_madeOf rfl rfl rfl (by decide +kernel) ⟨Nat.le_of_ble_eq_true rfl, Nat.le_of_ble_eq_true rfl⟩) hE (hP.sub [] rfl) rfl hl.1 rfl (Nat.le_of_ble_eq_true rfl) dX6_around_36 ⟨Nat.zero_le _, Nat.zero_le _⟩ ?_
            refine lv_iload_n hx hb dX6_around_39 rfl (lv_at hl 3 rfl) ?_
            refine j_xor hx hb dX6_around_40 ?_
            refine ro_S (rest := [.int (nI t)]) ⟨hx, hb, hml, hown, hts⟩ (c_X6_weight l G ((madeN k) ^^^ w) (Nat.lt_trans (bd_xor 23 (made_lt (by omega)) hw) (by decide))) (va_cwS 1 hts gX6_around_X6_weight rfl rfl rfl (by decide +kernel) ⟨Nat.le_of_ble_eq_true rfl, Nat.le_of_ble_eq_true rfl⟩) hE (hP.sub [] rfl) rfl hl.1 rfl (Nat.le_of_ble_eq_true rfl) dX6_around_41 ⟨Nat.zero_le _, Nat.zero_le _⟩ ?_
            refine lv_iload_n hx hb dX6_around_44 rfl (lv_at hl 4 rfl) ?_
            refine j_icmp_ne (tgt := 52) hx hb dX6_around_45 (by decide) (fun c45 => ?_) (fun c45 => ?_) (h1 := Nat.lt_of_le_of_lt (wtN_le _) (by decide)) (h2 := by omega)
            · skip
              refine lv_iconst (v := nI 0) hx hb dX6_around_52 (by decide) ?_
              refine j_add hx hb dX6_around_53 ?_
              refine j_top (fun x54 ex54 => ?_)
              refine lv_istore_n (lv' := [(3, .int (nI x54)), (4, .int (nI k)), (0, .ref o), (1, .int (nI w)), (2, .int (nI j))]) hx hb dX6_around_54 rfl hl (by decide) rfl (fun ls hl => ?_)
              obtain ⟨x55, ex55⟩ : ∃ y : Nat, y = k + 1 := ⟨_, rfl⟩
              refine lv_iinc (v := nI x55) (lv' := [(4, .int (nI x55)), (3, .int (nI x54)), (0, .ref o), (1, .int (nI w)), (2, .int (nI j))]) hx hb dX6_around_55 hl (k := 1) rfl (by rw [ex55]; exact nI_add _ _) (by decide) rfl (fun ls hl => ?_)
              refine lv_goto (tgt := 25) hx hb dX6_around_58 (by decide) ?_
              exact ih25 x54 x55 (by omega) (by rw [ex54, ex55, h2, aroL, if_neg c45]) (by omega) ls (lv_sub hl [0, 1, 2, 3, 4] rfl)
            · skip
              refine lv_iconst (v := nI 1) hx hb dX6_around_48 (by decide) ?_
              refine lv_goto (tgt := 53) hx hb dX6_around_49 (by decide) ?_
              refine j_add hx hb dX6_around_53 ?_
              refine j_top (fun x54 ex54 => ?_)
              refine lv_istore_n (lv' := [(3, .int (nI x54)), (4, .int (nI k)), (0, .ref o), (1, .int (nI w)), (2, .int (nI j))]) hx hb dX6_around_54 rfl hl (by decide) rfl (fun ls hl => ?_)
              obtain ⟨x55, ex55⟩ : ∃ y : Nat, y = k + 1 := ⟨_, rfl⟩
              refine lv_iinc (v := nI x55) (lv' := [(4, .int (nI x55)), (3, .int (nI x54)), (0, .ref o), (1, .int (nI w)), (2, .int (nI j))]) hx hb dX6_around_55 hl (k := 1) rfl (by rw [ex55]; exact nI_add _ _) (by decide) rfl (fun ls hl => ?_)
              refine lv_goto (tgt := 25) hx hb dX6_around_58 (by decide) ?_
              exact ih25 x54 x55 (by omega) (by rw [ex54, ex55, h2, aroL, if_pos c45]) (by omega) ls (lv_sub hl [0, 1, 2, 3, 4] rfl)
      exact loop25 _ 0 0 (by omega) rfl (Nat.lt_succ_self _) ls (lv_sub hl [0, 1, 2, 3, 4] rfl)
    · skip
      refine j_if_ne (tgt := 20) hx hb dX6_around_14 (by decide) (fun q => absurd q (by decide)) (fun _ => ?_)
      refine lv_bipush (v := (-2)) hx hb dX6_around_17 (by decide) ?_
      exact ro_ret hx hb hr hlocks dX6_around_19 (by rw [mAround, if_neg (fun h => by rw [← inI_blw y (N := 24) (by decide) (by decide), show nI (24 - 1) = nI 23 from rfl, c11] at h; exact absurd h.2 (by decide))])
  · skip
    refine j_if_eq (tgt := 17) hx hb dX6_around_4 (by decide) (fun _ => ?_) (fun q => absurd q (by decide))
    refine lv_bipush (v := (-2)) hx hb dX6_around_17 (by decide) ?_
    exact ro_ret hx hb hr hlocks dX6_around_19 (by rw [mAround, if_neg (fun h => by rw [c1] at h; exact absurd h.1 (by decide))])
set_option maxHeartbeats 4000000 in
set_option maxRecDepth 100000 in
/-- turn -/
theorem c_X6_turn (l : Launch) (G : EG) (w : Nat) (d : Nat) (hw : w < 2147483648) (hd : d ≤ 23) : RO l yX6_turn wsX6_turn (rmR 0 0) G [] [.int (nI w), .int (nI d)] (.int (nI (trnN w d))) := by
  refine RO.start (by decide) rfl (Nat.le_of_ble_eq_true rfl) ?_
  intro p e s m below meth c hx hb hr hml hts hown hlocks hP hE ls hl
  have hown : s.vm.findClass RX6 = some m.cls := hown
  have hl : lv_has ls 4 [(0, .int (nI w)), (1, .int (nI d))] := hl
  refine lv_iconst (v := nI 0) hx hb dX6_turn_0 (by decide) ?_
  refine lv_istore_n (lv' := [(2, .int (nI 0)), (0, .int (nI w)), (1, .int (nI d))]) hx hb dX6_turn_1 rfl hl (by decide) rfl (fun ls hl => ?_)
  refine lv_iconst (v := nI 0) hx hb dX6_turn_2 (by decide) ?_
  refine lv_istore_n (lv' := [(3, .int (nI 0)), (2, .int (nI 0)), (0, .int (nI w)), (1, .int (nI d))]) hx hb dX6_turn_3 rfl hl (by decide) rfl (fun ls hl => ?_)
  have loop4 : ∀ (fuel : Nat) (v : Nat) (k : Nat), (k ≤ 23) → (v = trnL w d k) → 23 - k < fuel → ∀ ls : Array Slot, lv_has ls 4 [(3, .int (nI k)), (2, .int (nI v)), (0, .int (nI w)), (1, .int (nI d))] → W p l e (rmR 0 0) s m ([.int (nI w), .int (nI d)] : List Value).toArray below meth c s.heap [] 0 0 (MQ below (k2_QcV (.int (nI (trnN w d)))) ([.int (nI w), .int (nI d)] : List Value).toArray s 0 0 (fun _ => False)) (F0 m 4 ls []) := by
    intro fuel
    induction fuel with
    | zero => intro v k h1 h2 hf; exact absurd hf (Nat.not_lt_zero _)
    | succ fuel ih4 =>
      intro v k h1 h2 hf ls hl
      refine lv_iload_n hx hb dX6_turn_4 rfl (lv_at hl 0 rfl) ?_
      refine lv_bipush (v := nI 23) hx hb dX6_turn_5 (by decide) ?_
      refine j_icmp_ge (tgt := 31) hx hb dX6_turn_7 (by decide) (fun c7 => ?_) (fun c7 => ?_)
      · skip
        refine lv_iload_n hx hb dX6_turn_31 rfl (lv_at hl 1 rfl) ?_
        exact ro_ret hx hb hr hlocks dX6_turn_32 (by rw [h2, show k = 23 by omega]; rfl)
      · skip
        refine lv_iload_n hx hb dX6_turn_10 rfl (lv_at hl 1 rfl) ?_
        refine lv_iload_n hx hb dX6_turn_11 rfl (lv_at hl 2 rfl) ?_
        refine lv_iload_n hx hb dX6_turn_12 rfl (lv_at hl 0 rfl) ?_
        refine j_shr hx hb dX6_turn_13 ?_
        refine lv_iconst (v := nI 1) hx hb dX6_turn_14 (by decide) ?_
        refine j_and hx hb dX6_turn_15 ?_
        refine lv_iload_n hx hb dX6_turn_16 rfl (lv_at hl 0 rfl) ?_
        refine lv_iload_n hx hb dX6_turn_17 rfl (lv_at hl 3 rfl) ?_
        refine j_add hx hb dX6_turn_18 ?_
        refine lv_bipush (v := nI 23) hx hb dX6_turn_19 (by decide) ?_
        refine j_rem hx hb dX6_turn_21 ?_
        refine j_shl hx hb dX6_turn_22 ?_ (h := by omega)
        refine j_or hx hb dX6_turn_23 ?_
        refine j_top (fun x24 ex24 => ?_)
        refine lv_istore_n (lv' := [(2, .int (nI x24)), (3, .int (nI k)), (0, .int (nI w)), (1, .int (nI d))]) hx hb dX6_turn_24 rfl hl (by decide) rfl (fun ls hl => ?_)
        obtain ⟨x25, ex25⟩ : ∃ y : Nat, y = k + 1 := ⟨_, rfl⟩
        refine lv_iinc (v := nI x25) (lv' := [(3, .int (nI x25)), (2, .int (nI x24)), (0, .int (nI w)), (1, .int (nI d))]) hx hb dX6_turn_25 hl (k := 1) rfl (by rw [ex25]; exact nI_add _ _) (by decide) rfl (fun ls hl => ?_)
        refine lv_goto (tgt := 4) hx hb dX6_turn_28 (by decide) ?_
        exact ih4 x24 x25 (by omega) (by rw [ex24, ex25, h2]; rfl) (by omega) ls (lv_sub hl [0, 1, 2, 3] rfl)
  exact loop4 _ 0 0 (by omega) rfl (Nat.lt_succ_self _) ls (lv_sub hl [0, 1, 2, 3] rfl)
set_option maxHeartbeats 4000000 in
set_option maxRecDepth 100000 in
/-- turned -/
theorem c_X6_turned (l : Launch) (G : EG) (o : Nat) (sa : Nat) (ia : Nat) (ka : Nat) (ea : Nat) (ca : Nat) (tr : Nat) (fi : Int32) (x : Int32) (y : Int32) : RO l yX6_turned wsX6_turned (rmR 2 42) G [(o, .inr (5, [.ref sa, .ref ia, .ref ka, .ref ea, .int (nI tr), .int fi, .ref ca]))] [.ref o, .int x, .int y] (.int (mTurned x y)) := by
  refine RO.start (by decide) rfl (Nat.le_of_ble_eq_true rfl) ?_
  intro p e s m below meth c hx hb hr hml hts hown hlocks hP hE ls hl
  have hown : s.vm.findClass RX6 = some m.cls := hown
  have hl : lv_has ls 3 [(0, .ref o), (1, .int x), (2, .int y)] := hl
  refine lv_iload_n hx hb dX6_turned_0 rfl (lv_at hl 1 rfl) ?_
  refine ro_S (rest := []) ⟨hx, hb, hml, hown, hts⟩ (c_X6_isWord l G x) (va_cwS 1 hts gX6_turned_X6_isWord rfl rfl rfl (by decide +kernel) ⟨Nat.le_of_ble_eq_true rfl, Nat.le_of_ble_eq_true rfl⟩) hE (hP.sub [] rfl) rfl hl.1 rfl (Nat.le_of_ble_eq_true rfl) dX6_turned_1 ⟨Nat.zero_le _, Nat.zero_le _⟩ ?_
  refine j_bool (fun c1 => ?_) (fun c1 => ?_)
  · skip
    obtain ⟨w, hw, rfl⟩ := blw_ex c1 (by decide)
    refine j_if_eq (tgt := 25) hx hb dX6_turned_4 (by decide) (fun q => absurd q (by decide)) (fun _ => ?_)
    refine lv_iload_n hx hb dX6_turned_7 rfl (lv_at hl 2 rfl) ?_
    refine lv_iconst (v := nI 0) hx hb dX6_turned_8 (by decide) ?_
    refine lv_bipush (v := nI 22) hx hb dX6_turned_9 (by decide) ?_
    refine ro_S (rest := []) ⟨hx, hb, hml, hown, hts⟩ (c_X6_in l G y (nI 0) (nI 22)) (va_cwS 3 hts gX6_turned_X6_in rfl rfl rfl (by decide +kernel) ⟨Nat.le_of_ble_eq_true rfl, Nat.le_of_ble_eq_true rfl⟩) hE (hP.sub [] rfl) rfl hl.1 rfl (Nat.le_of_ble_eq_true rfl) dX6_turned_11 ⟨Nat.zero_le _, Nat.zero_le _⟩ ?_
    refine j_bool (fun c11 => ?_) (fun c11 => ?_)
    · skip
      obtain ⟨j, hj, rfl⟩ := inI_ex (N := 22) rfl c11 (by decide)
      refine j_if_eq (tgt := 25) hx hb dX6_turned_14 (by decide) (fun q => absurd q (by decide)) (fun _ => ?_)
      refine lv_iload_n hx hb dX6_turned_17 rfl (lv_at hl 1 rfl) ?_
      refine lv_iload_n hx hb dX6_turned_18 rfl (lv_at hl 2 rfl) ?_
      refine ro_S (rest := []) ⟨hx, hb, hml, hown, hts⟩ (c_X6_turn l G w j (by omega) (by omega)) (va_cwS 2 hts gX6_turned_X6_turn rfl rfl rfl (by decide +kernel) ⟨Nat.le_of_ble_eq_true rfl, Nat.le_of_ble_eq_true rfl⟩) hE (hP.sub [] rfl) rfl hl.1 rfl (Nat.le_of_ble_eq_true rfl) dX6_turned_19 ⟨Nat.zero_le _, Nat.zero_le _⟩ ?_
      refine lv_goto (tgt := 27) hx hb dX6_turned_22 (by decide) ?_
      exact ro_ret hx hb hr hlocks dX6_turned_27 (by rw [mTurned, if_pos ⟨c1, blw_j hj (by decide)⟩, cl_nI hw (by decide), cl_nI hj (by decide)])
    · skip
      refine j_if_eq (tgt := 25) hx hb dX6_turned_14 (by decide) (fun _ => ?_) (fun q => absurd q (by decide))
      refine lv_bipush (v := (-2)) hx hb dX6_turned_25 (by decide) ?_
      exact ro_ret hx hb hr hlocks dX6_turned_27 (by rw [mTurned, if_neg (fun h => by rw [← inI_blw y (N := 23) (by decide) (by decide), show nI (23 - 1) = nI 22 from rfl, c11] at h; exact absurd h.2 (by decide))])
  · skip
    refine j_if_eq (tgt := 25) hx hb dX6_turned_4 (by decide) (fun _ => ?_) (fun q => absurd q (by decide))
    refine lv_bipush (v := (-2)) hx hb dX6_turned_25 (by decide) ?_
    exact ro_ret hx hb hr hlocks dX6_turned_27 (by rw [mTurned, if_neg (fun h => by rw [c1] at h; exact absurd h.1 (by decide))])
set_option maxHeartbeats 4000000 in
set_option maxRecDepth 100000 in
/-- caught -/
theorem c_X6_caught (l : Launch) (G : EG) (w : Nat) (k : Nat) (hw : w < 8388608) (hk : k < 3) : RO l yX6_caught wsX6_caught (rmR 1 22) G [] [.int (nI w), .int (nI k)] (.int (if catOk w k = true then (nI (catE w k)) else (-6))) := by
  refine RO.start (by decide) rfl (Nat.le_of_ble_eq_true rfl) ?_
  intro p e s m below meth c hx hb hr hml hts hown hlocks hP hE ls hl
  have hown : s.vm.findClass RX6 = some m.cls := hown
  have hl : lv_has ls 4 [(0, .int (nI w)), (1, .int (nI k))] := hl
  refine lv_iload_n hx hb dX6_caught_0 rfl (lv_at hl 1 rfl) ?_
  refine j_if_ne (tgt := 8) hx hb dX6_caught_1 (by decide) (fun c1 => ?_) (fun c1 => ?_)
  · skip
    refine lv_iconst (v := nI 1) hx hb dX6_caught_8 (by decide) ?_
    refine lv_bipush (v := nI 15) hx hb dX6_caught_9 (by decide) ?_
    refine lv_iload_n hx hb dX6_caught_11 rfl (lv_at hl 1 rfl) ?_
    refine j_add hx hb dX6_caught_12 ?_
    refine j_shl hx hb dX6_caught_13 ?_
    refine j_top (fun x14 ex14 => ?_)
    refine lv_istore_n (lv' := [(2, .int (nI x14)), (0, .int (nI w)), (1, .int (nI k))]) hx hb dX6_caught_14 rfl hl (by decide) rfl (fun ls hl => ?_)
    refine lv_iload_n hx hb dX6_caught_15 rfl (lv_at hl 1 rfl) ?_
    refine lv_iload_n hx hb dX6_caught_16 rfl (lv_at hl 0 rfl) ?_
    refine j_xor hx hb dX6_caught_17 ?_
    refine ro_S (rest := []) ⟨hx, hb, hml, hown, hts⟩ (c_X6_restOf l G (w ^^^ x14) (by first | exact Nat.lt_trans (bd_xor 23 hw (by decide)) (by decide) | (rw [ex14, show 1 <<< (15 + k) = catB k from (if_neg c1).symm]; exact Nat.lt_trans (bd_xor 23 hw (catB_lt hk)) (by decide)))) (va_cwS 1 hts gX6_caught_X6_restOf rfl rfl rfl (by decide +kernel) ⟨Nat.le_of_ble_eq_true rfl, Nat.le_of_ble_eq_true rfl⟩) hE (hP.sub [] rfl) rfl hl.1 rfl (Nat.le_of_ble_eq_true rfl) dX6_caught_18 ⟨Nat.zero_le _, Nat.zero_le _⟩ ?_
    refine j_top (fun x21 ex21 => ?_)
    refine lv_istore_n (lv' := [(3, .int (nI x21)), (2, .int (nI x14)), (0, .int (nI w)), (1, .int (nI k))]) hx hb dX6_caught_21 rfl hl (by decide) rfl (fun ls hl => ?_)
    refine lv_iload_n hx hb dX6_caught_22 rfl (lv_at hl 0 rfl) ?_
    refine ro_S (rest := []) ⟨hx, hb, hml, hown, hts⟩ (c_X6_weight l G x21 (by first | (rw [ex21]; exact Nat.lt_trans (remN_lt11 (bd_xor 23 hw (by decide))) (by decide)) | (rw [ex21, ex14, show 1 <<< (15 + k) = catB k from (if_neg c1).symm]; exact Nat.lt_trans (catR_lt hw hk) (by decide)))) (va_cwS 1 hts gX6_caught_X6_weight rfl rfl rfl (by decide +kernel) ⟨Nat.le_of_ble_eq_true rfl, Nat.le_of_ble_eq_true rfl⟩) hE (hP.sub [] rfl) rfl hl.1 rfl (Nat.le_of_ble_eq_true rfl) dX6_caught_23 ⟨Nat.zero_le _, Nat.zero_le _⟩ ?_
    refine lv_iload_n hx hb dX6_caught_26 rfl (lv_at hl 3 rfl) ?_
    refine j_if_ne (tgt := 34) hx hb dX6_caught_27 (by decide) (fun c27 => ?_) (fun c27 => ?_)
    · skip
      refine lv_iconst (v := nI 2) hx hb dX6_caught_34 (by decide) ?_
      refine j_icmp_gt (tgt := 44) hx hb dX6_caught_35 (by decide) (fun c35 => ?_) (fun c35 => ?_) (h1 := Nat.lt_of_le_of_lt (wtN_le _) (by decide)) (h2 := by decide)
      · skip
        refine lv_bipush (v := (-6)) hx hb dX6_caught_44 (by decide) ?_
        exact ro_ret hx hb hr hlocks dX6_caught_46 (by rw [ex21, ex14, show 1 <<< (15 + k) = catB k from (if_neg c1).symm] at c35; rw [if_neg (fun h => by have h2 := of_decide_eq_true h; rw [if_neg c1] at h2; exact absurd h2 (Nat.not_le.mpr c35))])
      · skip
        refine lv_iload_n hx hb dX6_caught_38 rfl (lv_at hl 0 rfl) ?_
        refine lv_iload_n hx hb dX6_caught_39 rfl (lv_at hl 1 rfl) ?_
        refine j_or hx hb dX6_caught_40 ?_
        refine lv_goto (tgt := 46) hx hb dX6_caught_41 (by decide) ?_
        exact ro_ret hx hb hr hlocks dX6_caught_46 (by rw [ex21, ex14, show 1 <<< (15 + k) = catB k from (if_neg c1).symm] at c35; rw [ex21, ex14, show 1 <<< (15 + k) = catB k from (if_neg c1).symm, if_pos (show catOk w k = true from decide_eq_true (by rw [if_neg c1]; exact c35))]; rfl)
    · skip
      exact absurd c27 c1
  · skip
    subst c1
    refine lv_iconst (v := nI 0) hx hb dX6_caught_4 (by decide) ?_
    refine lv_goto (tgt := 14) hx hb dX6_caught_5 (by decide) ?_
    refine lv_istore_n (lv' := [(2, .int (nI 0)), (0, .int (nI w)), (1, .int (nI 0))]) hx hb dX6_caught_14 rfl hl (by decide) rfl (fun ls hl => ?_)
    refine lv_iload_n hx hb dX6_caught_15 rfl (lv_at hl 1 rfl) ?_
    refine lv_iload_n hx hb dX6_caught_16 rfl (lv_at hl 0 rfl) ?_
    refine j_xor hx hb dX6_caught_17 ?_
    refine ro_S (rest := []) ⟨hx, hb, hml, hown, hts⟩ (c_X6_restOf l G (w ^^^ 0) (by first | exact Nat.lt_trans (bd_xor 23 hw (by decide)) (by decide) | (rw [ex14, show 1 <<< (15 + k) = catB k from (if_neg c1).symm]; exact Nat.lt_trans (bd_xor 23 hw (catB_lt hk)) (by decide)))) (va_cwS 1 hts gX6_caught_X6_restOf rfl rfl rfl (by decide +kernel) ⟨Nat.le_of_ble_eq_true rfl, Nat.le_of_ble_eq_true rfl⟩) hE (hP.sub [] rfl) rfl hl.1 rfl (Nat.le_of_ble_eq_true rfl) dX6_caught_18 ⟨Nat.zero_le _, Nat.zero_le _⟩ ?_
    refine j_top (fun x21 ex21 => ?_)
    refine lv_istore_n (lv' := [(3, .int (nI x21)), (2, .int (nI 0)), (0, .int (nI w)), (1, .int (nI 0))]) hx hb dX6_caught_21 rfl hl (by decide) rfl (fun ls hl => ?_)
    refine lv_iload_n hx hb dX6_caught_22 rfl (lv_at hl 0 rfl) ?_
    refine ro_S (rest := []) ⟨hx, hb, hml, hown, hts⟩ (c_X6_weight l G x21 (by first | (rw [ex21]; exact Nat.lt_trans (remN_lt11 (bd_xor 23 hw (by decide))) (by decide)) | (rw [ex21, ex14, show 1 <<< (15 + k) = catB k from (if_neg c1).symm]; exact Nat.lt_trans (catR_lt hw hk) (by decide)))) (va_cwS 1 hts gX6_caught_X6_weight rfl rfl rfl (by decide +kernel) ⟨Nat.le_of_ble_eq_true rfl, Nat.le_of_ble_eq_true rfl⟩) hE (hP.sub [] rfl) rfl hl.1 rfl (Nat.le_of_ble_eq_true rfl) dX6_caught_23 ⟨Nat.zero_le _, Nat.zero_le _⟩ ?_
    refine lv_iload_n hx hb dX6_caught_26 rfl (lv_at hl 3 rfl) ?_
    refine j_if_ne (tgt := 34) hx hb dX6_caught_27 (by decide) (fun q => absurd q (by decide)) (fun _ => ?_)
    refine lv_iconst (v := nI 3) hx hb dX6_caught_30 (by decide) ?_
    refine lv_goto (tgt := 35) hx hb dX6_caught_31 (by decide) ?_
    refine j_icmp_gt (tgt := 44) hx hb dX6_caught_35 (by decide) (fun c35 => ?_) (fun c35 => ?_) (h1 := Nat.lt_of_le_of_lt (wtN_le _) (by decide)) (h2 := by decide)
    · skip
      refine lv_bipush (v := (-6)) hx hb dX6_caught_44 (by decide) ?_
      exact ro_ret hx hb hr hlocks dX6_caught_46 (by rw [ex21] at c35; rw [if_neg (show ¬ catOk w 0 = true from fun h => absurd (of_decide_eq_true (show decide (wtN (catR w 0) ≤ 3) = true from h)) (Nat.not_le.mpr c35))])
    · skip
      refine lv_iload_n hx hb dX6_caught_38 rfl (lv_at hl 0 rfl) ?_
      refine lv_iload_n hx hb dX6_caught_39 rfl (lv_at hl 1 rfl) ?_
      refine j_or hx hb dX6_caught_40 ?_
      refine lv_goto (tgt := 46) hx hb dX6_caught_41 (by decide) ?_
      exact ro_ret hx hb hr hlocks dX6_caught_46 (by rw [ex21] at c35 ⊢; rw [if_pos (show catOk w 0 = true from decide_eq_true c35)]; rfl)
set_option maxHeartbeats 4000000 in
set_option maxRecDepth 100000 in
/-- trapped -/
theorem c_X6_trapped (l : Launch) (G : EG) (o : Nat) (sa : Nat) (ia : Nat) (ka : Nat) (ea : Nat) (ca : Nat) (tr : Nat) (fi : Int32) (x : Int32) (y : Int32) : RO l yX6_trapped wsX6_trapped (rmR 2 45) G [(o, .inr (5, [.ref sa, .ref ia, .ref ka, .ref ea, .int (nI tr), .int fi, .ref ca]))] [.ref o, .int x, .int y] (.int (mTrapped x y)) := by
  refine RO.start (by decide) rfl (Nat.le_of_ble_eq_true rfl) ?_
  intro p e s m below meth c hx hb hr hml hts hown hlocks hP hE ls hl
  have hown : s.vm.findClass RX6 = some m.cls := hown
  have hl : lv_has ls 6 [(0, .ref o), (1, .int x), (2, .int y)] := hl
  refine lv_iload_n hx hb dX6_trapped_0 rfl (lv_at hl 1 rfl) ?_
  refine ro_S (rest := []) ⟨hx, hb, hml, hown, hts⟩ (c_X6_isWord l G x) (va_cwS 1 hts gX6_trapped_X6_isWord rfl rfl rfl (by decide +kernel) ⟨Nat.le_of_ble_eq_true rfl, Nat.le_of_ble_eq_true rfl⟩) hE (hP.sub [] rfl) rfl hl.1 rfl (Nat.le_of_ble_eq_true rfl) dX6_trapped_1 ⟨Nat.zero_le _, Nat.zero_le _⟩ ?_
  refine j_bool (fun c1 => ?_) (fun c1 => ?_)
  · skip
    obtain ⟨w, hw, rfl⟩ := blw_ex c1 (by decide)
    refine j_if_eq (tgt := 16) hx hb dX6_trapped_4 (by decide) (fun q => absurd q (by decide)) (fun _ => ?_)
    refine lv_iload_n hx hb dX6_trapped_7 rfl (lv_at hl 2 rfl) ?_
    refine lv_iconst (v := nI 0) hx hb dX6_trapped_8 (by decide) ?_
    refine lv_iconst (v := nI 2) hx hb dX6_trapped_9 (by decide) ?_
    refine ro_S (rest := []) ⟨hx, hb, hml, hown, hts⟩ (c_X6_in l G y (nI 0) (nI 2)) (va_cwS 3 hts gX6_trapped_X6_in rfl rfl rfl (by decide +kernel) ⟨Nat.le_of_ble_eq_true rfl, Nat.le_of_ble_eq_true rfl⟩) hE (hP.sub [] rfl) rfl hl.1 rfl (Nat.le_of_ble_eq_true rfl) dX6_trapped_10 ⟨Nat.zero_le _, Nat.zero_le _⟩ ?_
    refine j_bool (fun c10 => ?_) (fun c10 => ?_)
    · skip
      obtain ⟨j, hj, rfl⟩ := inI_ex (N := 2) rfl c10 (by decide)
      refine j_if_ne (tgt := 19) hx hb dX6_trapped_13 (by decide) (fun _ => ?_) (fun q => absurd q (by decide))
      refine lv_iconst (v := nI 0) hx hb dX6_trapped_19 (by decide) ?_
      refine lv_istore_n (lv' := [(3, .int (nI 0)), (0, .ref o), (1, .int (nI w)), (2, .int (nI j))]) hx hb dX6_trapped_20 rfl hl (by decide) rfl (fun ls hl => ?_)
      have loop21 : ∀ (fuel : Nat) (t : Nat), (t ≤ 23) → (trpT w j (23 - t) = trpT w j 23) → 23 - t < fuel → ∀ ls : Array Slot, lv_has ls 6 [(3, .int (nI t)), (0, .ref o), (1, .int (nI w)), (2, .int (nI j))] → W p l e (rmR 2 45) s m ([.ref o, .int (nI w), .int (nI j)] : List Value).toArray below meth c s.heap [] 0 0 (MQ below (k2_QcV (.int (mTrapped (nI w) (nI j)))) ([.ref o, .int (nI w), .int (nI j)] : List Value).toArray s 0 0 (fun _ => False)) (F0 m 21 ls []) := by
        intro fuel
        induction fuel with
        | zero => intro t h1 h2 hf; exact absurd hf (Nat.not_lt_zero _)
        | succ fuel ih21 =>
          intro t h1 h2 hf ls hl
          refine lv_iload_n hx hb dX6_trapped_21 rfl (lv_at hl 0 rfl) ?_
          refine lv_bipush (v := nI 23) hx hb dX6_trapped_22 (by decide) ?_
          refine j_icmp_ge (tgt := 93) hx hb dX6_trapped_24 (by decide) (fun c24 => ?_) (fun c24 => ?_)
          · skip
            refine lv_bipush (v := (-6)) hx hb dX6_trapped_93 (by decide) ?_
            exact ro_ret hx hb hr hlocks dX6_trapped_95 (by rw [mTrapped, if_pos ⟨c1, blw_j hj (by decide)⟩, cl_nI hw (by decide), cl_nI hj (by decide), ← h2, show 23 - t = 0 by omega, trpT])
          · skip
            refine lv_iconst (v := nI 0) hx hb dX6_trapped_27 (by decide) ?_
            refine lv_istore (lv' := [(4, .int (nI 0)), (3, .int (nI t)), (0, .ref o), (1, .int (nI w)), (2, .int (nI j))]) hx hb dX6_trapped_28 hl (by decide) rfl (fun ls hl => ?_)
            have loop30 : ∀ (fuel : Nat) (way : Nat), (way ≤ 3) → (trpW w j t (trpT w j (22 - t)) (3 - way) = trpT w j 23) → 3 - way < fuel → ∀ ls : Array Slot, lv_has ls 6 [(4, .int (nI way)), (3, .int (nI t)), (0, .ref o), (1, .int (nI w)), (2, .int (nI j))] → W p l e (rmR 2 45) s m ([.ref o, .int (nI w), .int (nI j)] : List Value).toArray below meth c s.heap [] 0 0 (MQ below (k2_QcV (.int (mTrapped (nI w) (nI j)))) ([.ref o, .int (nI w), .int (nI j)] : List Value).toArray s 0 0 (fun _ => False)) (F0 m 30 ls []) := by
              intro fuel
              induction fuel with
              | zero => intro way g1 g2 hf; exact absurd hf (Nat.not_lt_zero _)
              | succ fuel ih30 =>
                intro way g1 g2 hf ls hl
                refine lv_iload hx hb dX6_trapped_30 (lv_at hl 0 rfl) ?_
                refine lv_iconst (v := nI 3) hx hb dX6_trapped_32 (by decide) ?_
                refine j_icmp_ge (tgt := 87) hx hb dX6_trapped_33 (by decide) (fun c33 => ?_) (fun c33 => ?_)
                · skip
                  obtain ⟨x87, ex87⟩ : ∃ y : Nat, y = t + 1 := ⟨_, rfl⟩
                  refine lv_iinc (v := nI x87) (lv' := [(3, .int (nI x87)), (4, .int (nI way)), (0, .ref o), (1, .int (nI w)), (2, .int (nI j))]) hx hb dX6_trapped_87 hl (k := 1) rfl (by rw [ex87]; exact nI_add _ _) (by decide) rfl (fun ls hl => ?_)
                  refine lv_goto (tgt := 21) hx hb dX6_trapped_90 (by decide) ?_
                  exact ih21 x87 (by omega) (by rw [← g2, show 3 - way = 0 by omega, trpW, show 23 - x87 = 22 - t by omega]) (by omega) ls (lv_sub hl [0, 2, 3, 4] rfl)
                · skip
                  refine lv_iload_n hx hb dX6_trapped_36 rfl (lv_at hl 3 rfl) ?_
                  refine lv_iload_n hx hb dX6_trapped_37 rfl (lv_at hl 1 rfl) ?_
                  refine ro_S (rest := []) ⟨hx, hb, hml, hown, hts⟩ (c_X6_turn l G w t (by omega) (by omega)) (va_cwS 2 hts gX6_trapped_X6_turn rfl rfl rfl (by decide +kernel) ⟨Nat.le_of_ble_eq_true rfl, Nat.le_of_ble_eq_true rfl⟩) hE (hP.sub [] rfl) rfl hl.1 rfl (Nat.le_of_ble_eq_true rfl) dX6_trapped_38 ⟨Nat.zero_le _, Nat.zero_le _⟩ ?_
                  refine lv_iload hx hb dX6_trapped_41 (lv_at hl 0 rfl) ?_
                  refine ro_S (rest := []) ⟨hx, hb, hml, hown, hts⟩ (c_X6_caught l G (trnN w t) way (trnL_lt _ _ _) (by omega)) (va_cwS 2 hts gX6_trapped_X6_caught rfl rfl rfl (by decide +kernel) ⟨Nat.le_of_ble_eq_true rfl, Nat.le_of_ble_eq_true rfl⟩) hE (hP.sub [] rfl) rfl hl.1 rfl (Nat.le_of_ble_eq_true rfl) dX6_trapped_43 ⟨Nat.zero_le _, Nat.zero_le _⟩ ?_
                  refine j_opt (fun c43 => ?_) (fun c43 => ?_)
                  · skip
                    refine j_top (fun x46 ex46 => ?_)
                    refine lv_istore (lv' := [(5, .int (nI x46)), (4, .int (nI way)), (3, .int (nI t)), (0, .ref o), (1, .int (nI w)), (2, .int (nI j))]) hx hb dX6_trapped_46 hl (by decide) rfl (fun ls hl => ?_)
                    refine lv_iload hx hb dX6_trapped_48 (lv_at hl 0 rfl) ?_
                    refine lv_if_lt (tgt := 81) hx hb dX6_trapped_50 (by decide) (fun q => absurd q (nI_pos (by rw [ex46]; exact Nat.lt_trans (catE_lt (trnL_lt _ _ _) (by omega)) (by decide)))) (fun _ => ?_)
                    refine lv_iload_n hx hb dX6_trapped_53 rfl (lv_at hl 5 rfl) ?_
                    refine j_if_ne (tgt := 61) hx hb dX6_trapped_54 (by decide) (fun c54 => ?_) (fun c54 => ?_)
                    · skip
                      refine lv_iload_n hx hb dX6_trapped_61 rfl (lv_at hl 5 rfl) ?_
                      refine lv_iconst (v := nI 1) hx hb dX6_trapped_62 (by decide) ?_
                      refine j_icmp_ne (tgt := 71) hx hb dX6_trapped_63 (by decide) (fun c63 => ?_) (fun c63 => ?_)
                      · skip
                        refine lv_iload hx hb dX6_trapped_71 (lv_at hl 0 rfl) ?_
                        refine lv_bipush (v := nI 23) hx hb dX6_trapped_73 (by decide) ?_
                        refine lv_iload_n hx hb dX6_trapped_75 rfl (lv_at hl 2 rfl) ?_
                        refine j_sub hx hb dX6_trapped_76 ?_
                        refine ro_S (rest := []) ⟨hx, hb, hml, hown, hts⟩ (c_X6_turn l G x46 (23 - t) (by rw [ex46]; exact Nat.lt_trans (catE_lt (trnL_lt _ _ _) (by omega)) (by decide)) (by omega)) (va_cwS 2 hts gX6_trapped_X6_turn rfl rfl rfl (by decide +kernel) ⟨Nat.le_of_ble_eq_true rfl, Nat.le_of_ble_eq_true rfl⟩) hE (hP.sub [] rfl) rfl hl.1 rfl (Nat.le_of_ble_eq_true rfl) dX6_trapped_77 ⟨Nat.zero_le _, Nat.zero_le _⟩ ?_
                        exact ro_ret hx hb hr hlocks dX6_trapped_80 (by rw [mTrapped, if_pos ⟨c1, blw_j hj (by decide)⟩, cl_nI hw (by decide), cl_nI hj (by decide), ← g2, show 3 - way = (2 - way) + 1 by omega, trpW, show 2 - (2 - way) = way by omega, if_pos c43, trpV, if_neg c54, if_neg c63, ex46])
                      · skip
                        refine lv_iload hx hb dX6_trapped_66 (lv_at hl 1 rfl) ?_
                        refine lv_goto (tgt := 80) hx hb dX6_trapped_68 (by decide) ?_
                        exact ro_ret hx hb hr hlocks dX6_trapped_80 (by rw [mTrapped, if_pos ⟨c1, blw_j hj (by decide)⟩, cl_nI hw (by decide), cl_nI hj (by decide), ← g2, show 3 - way = (2 - way) + 1 by omega, trpW, show 2 - (2 - way) = way by omega, if_pos c43, trpV, if_neg c54, if_pos c63])
                    · skip
                      refine lv_iload_n hx hb dX6_trapped_57 rfl (lv_at hl 2 rfl) ?_
                      refine lv_goto (tgt := 80) hx hb dX6_trapped_58 (by decide) ?_
                      exact ro_ret hx hb hr hlocks dX6_trapped_80 (by rw [mTrapped, if_pos ⟨c1, blw_j hj (by decide)⟩, cl_nI hw (by decide), cl_nI hj (by decide), ← g2, show 3 - way = (2 - way) + 1 by omega, trpW, show 2 - (2 - way) = way by omega, if_pos c43, trpV, if_pos c54])
                  · skip
                    refine lv_istore (lv' := [(5, .int (-6)), (4, .int (nI way)), (3, .int (nI t)), (0, .ref o), (1, .int (nI w)), (2, .int (nI j))]) hx hb dX6_trapped_46 hl (by decide) rfl (fun ls hl => ?_)
                    refine lv_iload hx hb dX6_trapped_48 (lv_at hl 0 rfl) ?_
                    refine lv_if_lt (tgt := 81) hx hb dX6_trapped_50 (by decide) (fun _ => ?_) (fun q => absurd (by decide) q)
                    obtain ⟨x81, ex81⟩ : ∃ y : Nat, y = way + 1 := ⟨_, rfl⟩
                    refine lv_iinc (v := nI x81) (lv' := [(4, .int (nI x81)), (5, .int (-6)), (3, .int (nI t)), (0, .ref o), (1, .int (nI w)), (2, .int (nI j))]) hx hb dX6_trapped_81 hl (k := 1) rfl (by rw [ex81]; exact nI_add _ _) (by decide) rfl (fun ls hl => ?_)
                    refine lv_goto (tgt := 30) hx hb dX6_trapped_84 (by decide) ?_
                    exact ih30 x81 (by omega) (by rw [← g2, show 3 - way = (3 - x81) + 1 by omega, trpW, show 2 - (3 - x81) = way by omega, if_neg c43]) (by omega) ls (lv_sub hl [0, 2, 3, 4, 5] rfl)
            exact loop30 _ 0 (by omega) (by rw [← h2, show 23 - t = (22 - t) + 1 by omega, trpT, show 22 - (22 - t) = t by omega]) (Nat.lt_succ_self _) ls (lv_sub hl [0, 1, 2, 3, 4] rfl)
      exact loop21 _ 0 (by omega) rfl (Nat.lt_succ_self _) ls (lv_sub hl [0, 1, 2, 3] rfl)
    · skip
      refine j_if_ne (tgt := 19) hx hb dX6_trapped_13 (by decide) (fun q => absurd q (by decide)) (fun _ => ?_)
      refine lv_bipush (v := (-2)) hx hb dX6_trapped_16 (by decide) ?_
      exact ro_ret hx hb hr hlocks dX6_trapped_18 (by rw [mTrapped, if_neg (fun h => by rw [← inI_blw y (N := 3) (by decide) (by decide), show nI (3 - 1) = nI 2 from rfl, c10] at h; exact absurd h.2 (by decide))])
  · skip
    refine j_if_eq (tgt := 16) hx hb dX6_trapped_4 (by decide) (fun _ => ?_) (fun q => absurd q (by decide))
    refine lv_bipush (v := (-2)) hx hb dX6_trapped_16 (by decide) ?_
    exact ro_ret hx hb hr hlocks dX6_trapped_18 (by rw [mTrapped, if_neg (fun h => by rw [c1] at h; exact absurd h.1 (by decide))])
set_option maxHeartbeats 4000000 in
set_option maxRecDepth 100000 in
/-- widened -/
theorem c_X6_widened (l : Launch) (G : EG) (w : Nat) (hw : w < 2147483648) : RO l yX6_widened wsX6_widened (rmR 1 22) G [] [.int (nI w)] (.int (nI (wdnN w))) := by
  refine RO.start (by decide) rfl (Nat.le_of_ble_eq_true rfl) ?_
  intro p e s m below meth c hx hb hr hml hts hown hlocks hP hE ls hl
  have hown : s.vm.findClass RX6 = some m.cls := hown
  have hl : lv_has ls 1 [(0, .int (nI w))] := hl
  refine lv_iload_n hx hb dX6_widened_0 rfl (lv_at hl 0 rfl) ?_
  refine lv_iload_n hx hb dX6_widened_1 rfl (lv_at hl 0 rfl) ?_
  refine ro_S (rest := [.int (nI w)]) ⟨hx, hb, hml, hown, hts⟩ (c_X6_weight l G w (by omega)) (va_cwS 1 hts gX6_widened_X6_weight rfl rfl rfl (by decide +kernel) ⟨Nat.le_of_ble_eq_true rfl, Nat.le_of_ble_eq_true rfl⟩) hE (hP.sub [] rfl) rfl hl.1 rfl (Nat.le_of_ble_eq_true rfl) dX6_widened_2 ⟨Nat.zero_le _, Nat.zero_le _⟩ ?_
  refine lv_iconst (v := nI 2) hx hb dX6_widened_5 (by decide) ?_
  refine j_rem hx hb dX6_widened_6 ?_ (ha := Nat.lt_of_le_of_lt (wtN_le _) (by decide)) (h0 := by decide) (h := by decide)
  refine lv_bipush (v := nI 23) hx hb dX6_widened_7 (by decide) ?_
  refine j_shl hx hb dX6_widened_9 ?_
  refine j_or hx hb dX6_widened_10 ?_
  exact ro_ret hx hb hr hlocks dX6_widened_11 (rfl)
set_option maxHeartbeats 4000000 in
set_option maxRecDepth 100000 in
/-- wide -/
theorem c_X6_wide (l : Launch) (G : EG) (o : Nat) (sa : Nat) (ia : Nat) (ka : Nat) (ea : Nat) (ca : Nat) (tr : Nat) (fi : Int32) (x : Int32) : RO l yX6_wide wsX6_wide (rmR 2 43) G [(o, .inr (5, [.ref sa, .ref ia, .ref ka, .ref ea, .int (nI tr), .int fi, .ref ca]))] [.ref o, .int x] (.int (mWide x)) := by
  refine RO.start (by decide) rfl (Nat.le_of_ble_eq_true rfl) ?_
  intro p e s m below meth c hx hb hr hml hts hown hlocks hP hE ls hl
  have hown : s.vm.findClass RX6 = some m.cls := hown
  have hl : lv_has ls 2 [(0, .ref o), (1, .int x)] := hl
  refine lv_iload_n hx hb dX6_wide_0 rfl (lv_at hl 1 rfl) ?_
  refine ro_S (rest := []) ⟨hx, hb, hml, hown, hts⟩ (c_X6_isMessage l G x) (va_cwS 1 hts gX6_wide_X6_isMessage rfl rfl rfl (by decide +kernel) ⟨Nat.le_of_ble_eq_true rfl, Nat.le_of_ble_eq_true rfl⟩) hE (hP.sub [] rfl) rfl hl.1 rfl (Nat.le_of_ble_eq_true rfl) dX6_wide_1 ⟨Nat.zero_le _, Nat.zero_le _⟩ ?_
  refine j_bool (fun c1 => ?_) (fun c1 => ?_)
  · skip
    obtain ⟨w, hw, rfl⟩ := blw_ex c1 (by decide)
    refine j_if_eq (tgt := 17) hx hb dX6_wide_4 (by decide) (fun q => absurd q (by decide)) (fun _ => ?_)
    refine lv_iload_n hx hb dX6_wide_7 rfl (lv_at hl 1 rfl) ?_
    refine ro_S (rest := []) ⟨hx, hb, hml, hown, hts⟩ (c_X6_madeOf l G w (by omega)) (va_cwS 1 hts gX6_wide_X6_madeOf rfl rfl rfl (by decide +kernel) ⟨Nat.le_of_ble_eq_true rfl, Nat.le_of_ble_eq_true rfl⟩) hE (hP.sub [] rfl) rfl hl.1 rfl (Nat.le_of_ble_eq_true rfl) dX6_wide_8 ⟨Nat.zero_le _, Nat.zero_le _⟩ ?_
    refine ro_S (rest := []) ⟨hx, hb, hml, hown, hts⟩ (c_X6_widened l G (madeN w) (Nat.lt_trans (made_lt hw) (by decide))) (va_cwS 1 hts gX6_wide_X6_widened rfl rfl rfl (by decide +kernel) ⟨Nat.le_of_ble_eq_true rfl, Nat.le_of_ble_eq_true rfl⟩) hE (hP.sub [] rfl) rfl hl.1 rfl (Nat.le_of_ble_eq_true rfl) dX6_wide_11 ⟨Nat.zero_le _, Nat.zero_le _⟩ ?_
    refine lv_goto (tgt := 19) hx hb dX6_wide_14 (by decide) ?_
    exact ro_ret hx hb hr hlocks dX6_wide_19 (by rw [mWide, if_pos c1, cl_nI hw (by decide)])
  · skip
    refine j_if_eq (tgt := 17) hx hb dX6_wide_4 (by decide) (fun _ => ?_) (fun q => absurd q (by decide))
    refine lv_bipush (v := (-2)) hx hb dX6_wide_17 (by decide) ?_
    exact ro_ret hx hb hr hlocks dX6_wide_19 (by rw [mWide, if_neg (by rw [c1]; decide)])
set_option maxHeartbeats 4000000 in
set_option maxRecDepth 100000 in
/-- read -/
theorem c_X6_read (l : Launch) (G : EG) (o : Nat) (sa : Nat) (ia : Nat) (ka : Nat) (ea : Nat) (ca : Nat) (tr : Nat) (fi : Int32) (E : Nat → Nat) (hEb : ∀ i, i < 2048 → E i < 8388608) (x : Int32) (y : Int32) : RO l yX6_read wsX6_read (rmR 2 43) G [(o, .inr (5, [.ref sa, .ref ia, .ref ka, .ref ea, .int (nI tr), .int fi, .ref ca])), (ea, aI G 2048 E)] [.ref o, .int x, .int y] (.int (mRead E x y)) := by
  refine RO.start (by decide) rfl (Nat.le_of_ble_eq_true rfl) ?_
  intro p e s m below meth c hx hb hr hml hts hown hlocks hP hE ls hl
  have hown : s.vm.findClass RX6 = some m.cls := hown
  have hl : lv_has ls 5 [(0, .ref o), (1, .int x), (2, .int y)] := hl
  refine lv_iload_n hx hb dX6_read_0 rfl (lv_at hl 1 rfl) ?_
  refine lv_iconst (v := nI 0) hx hb dX6_read_1 (by decide) ?_
  refine lv_ldc (v := nI 16777215) hx hb hown (hts (.constant RX6 65 (nI 16777215)) (List.mem_of_getElem? (i := 1) rfl)) dX6_read_2 ?_
  refine ro_S (rest := []) ⟨hx, hb, hml, hown, hts⟩ (c_X6_in l G x (nI 0) (nI 16777215)) (va_cwS 3 hts gX6_read_X6_in rfl rfl rfl (by decide +kernel) ⟨Nat.le_of_ble_eq_true rfl, Nat.le_of_ble_eq_true rfl⟩) hE (hP.sub [] rfl) rfl hl.1 rfl (Nat.le_of_ble_eq_true rfl) dX6_read_4 ⟨Nat.zero_le _, Nat.zero_le _⟩ ?_
  refine j_bool (fun c4 => ?_) (fun c4 => ?_)
  · skip
    obtain ⟨w, hw, rfl⟩ := inI_ex (N := 16777215) rfl c4 (by decide)
    refine j_if_eq (tgt := 19) hx hb dX6_read_7 (by decide) (fun q => absurd q (by decide)) (fun _ => ?_)
    refine lv_iload_n hx hb dX6_read_10 rfl (lv_at hl 2 rfl) ?_
    refine lv_iconst (v := nI 0) hx hb dX6_read_11 (by decide) ?_
    refine lv_iconst (v := nI 1) hx hb dX6_read_12 (by decide) ?_
    refine ro_S (rest := []) ⟨hx, hb, hml, hown, hts⟩ (c_X6_in l G y (nI 0) (nI 1)) (va_cwS 3 hts gX6_read_X6_in rfl rfl rfl (by decide +kernel) ⟨Nat.le_of_ble_eq_true rfl, Nat.le_of_ble_eq_true rfl⟩) hE (hP.sub [] rfl) rfl hl.1 rfl (Nat.le_of_ble_eq_true rfl) dX6_read_13 ⟨Nat.zero_le _, Nat.zero_le _⟩ ?_
    refine j_bool (fun c13 => ?_) (fun c13 => ?_)
    · skip
      obtain ⟨j, hj, rfl⟩ := inI_ex (N := 1) rfl c13 (by decide)
      refine j_if_ne (tgt := 22) hx hb dX6_read_16 (by decide) (fun _ => ?_) (fun q => absurd q (by decide))
      have hm : w % 8388608 < 8388608 := Nat.mod_lt _ (by decide)
      refine lv_aload_n hx hb dX6_read_22 rfl (lv_at hl 0 rfl) ?_
      refine lv_iload_n hx hb dX6_read_23 rfl (lv_at hl 1 rfl) ?_
      refine lv_ldc (v := nI 8388608) hx hb hown (hts (.constant RX6 66 (nI 8388608)) (List.mem_of_getElem? (i := 2) rfl)) dX6_read_24 ?_
      refine j_rem hx hb dX6_read_26 ?_
      refine ro_V 5 0 (rest := []) ⟨hx, hb, hml, hown, hts⟩ (c_X6_nearest l G o sa ia ka ea ca tr fi E (w % 8388608) (by omega)) (cwV 1 hts gX6_read_X6_nearest rfl rfl rfl (by decide +kernel) ⟨Nat.le_of_ble_eq_true rfl, Nat.le_of_ble_eq_true rfl⟩) hE (hP.sub [0, 1] rfl) rfl rfl rfl hl.1 rfl (Nat.le_of_ble_eq_true rfl) dX6_read_27 ⟨Nat.zero_le _, Nat.zero_le _⟩ ?_
      refine j_top (fun x30 ex30 => ?_)
      refine lv_istore_n (lv' := [(3, .int (nI x30)), (0, .ref o), (1, .int (nI w)), (2, .int (nI j))]) hx hb dX6_read_30 rfl hl (by decide) rfl (fun ls hl => ?_)
      refine lv_iload_n hx hb dX6_read_31 rfl (lv_at hl 0 rfl) ?_
      refine ro_S (rest := []) ⟨hx, hb, hml, hown, hts⟩ (c_X6_widened l G x30 (by rw [ex30]; exact Nat.lt_trans (near_lt hEb hm) (by decide))) (va_cwS 1 hts gX6_read_X6_widened rfl rfl rfl (by decide +kernel) ⟨Nat.le_of_ble_eq_true rfl, Nat.le_of_ble_eq_true rfl⟩) hE (hP.sub [] rfl) rfl hl.1 rfl (Nat.le_of_ble_eq_true rfl) dX6_read_32 ⟨Nat.zero_le _, Nat.zero_le _⟩ ?_
      refine lv_iload_n hx hb dX6_read_35 rfl (lv_at hl 2 rfl) ?_
      refine j_xor hx hb dX6_read_36 ?_
      refine ro_S (rest := []) ⟨hx, hb, hml, hown, hts⟩ (c_X6_weight l G ((wdnN x30) ^^^ w) (by rw [ex30]; exact Nat.lt_trans (bd_xor 24 (wdn_lt (near_lt hEb hm)) hw) (by decide))) (va_cwS 1 hts gX6_read_X6_weight rfl rfl rfl (by decide +kernel) ⟨Nat.le_of_ble_eq_true rfl, Nat.le_of_ble_eq_true rfl⟩) hE (hP.sub [] rfl) rfl hl.1 rfl (Nat.le_of_ble_eq_true rfl) dX6_read_37 ⟨Nat.zero_le _, Nat.zero_le _⟩ ?_
      refine j_top (fun x40 ex40 => ?_)
      refine lv_istore (lv' := [(4, .int (nI x40)), (3, .int (nI x30)), (0, .ref o), (1, .int (nI w)), (2, .int (nI j))]) hx hb dX6_read_40 hl (by decide) rfl (fun ls hl => ?_)
      refine lv_iload hx hb dX6_read_42 (lv_at hl 0 rfl) ?_
      refine lv_iconst (v := nI 3) hx hb dX6_read_44 (by decide) ?_
      refine j_icmp_le (tgt := 51) hx hb dX6_read_45 (by decide) (fun c45 => ?_) (fun c45 => ?_) (h1 := by rw [ex40]; exact Nat.lt_of_le_of_lt (wtN_le _) (by decide)) (h2 := by decide)
      · skip
        refine lv_iload_n hx hb dX6_read_51 rfl (lv_at hl 4 rfl) ?_
        refine j_if_ne (tgt := 62) hx hb dX6_read_52 (by decide) (fun c52 => ?_) (fun c52 => ?_)
        · skip
          refine lv_iload hx hb dX6_read_62 (lv_at hl 0 rfl) ?_
          exact ro_ret hx hb hr hlocks dX6_read_64 (by rw [mRead, if_pos ⟨blw_j hw (by decide), blw_j hj (by decide)⟩, cl_nI hw (by decide), cl_nI hj (by decide), if_pos (by rw [ex40, ex30] at c45; exact c45), if_neg c52, ex40, ex30])
        · skip
          refine lv_iload_n hx hb dX6_read_55 rfl (lv_at hl 1 rfl) ?_
          refine lv_bipush (v := nI 11) hx hb dX6_read_56 (by decide) ?_
          refine j_shr hx hb dX6_read_58 ?_ (ha := by rw [ex30]; exact Nat.lt_trans (near_lt hEb hm) (by decide)) (h := by decide)
          refine lv_goto (tgt := 64) hx hb dX6_read_59 (by decide) ?_
          exact ro_ret hx hb hr hlocks dX6_read_64 (by rw [mRead, if_pos ⟨blw_j hw (by decide), blw_j hj (by decide)⟩, cl_nI hw (by decide), cl_nI hj (by decide), if_pos (by rw [ex40, ex30] at c45; exact c45), if_pos c52, ex30])
      · skip
        refine lv_bipush (v := (-6)) hx hb dX6_read_48 (by decide) ?_
        exact ro_ret hx hb hr hlocks dX6_read_50 (by rw [mRead, if_pos ⟨blw_j hw (by decide), blw_j hj (by decide)⟩, cl_nI hw (by decide), cl_nI hj (by decide), if_neg (by rw [ex40, ex30] at c45; omega)])
    · skip
      refine j_if_ne (tgt := 22) hx hb dX6_read_16 (by decide) (fun q => absurd q (by decide)) (fun _ => ?_)
      refine lv_bipush (v := (-2)) hx hb dX6_read_19 (by decide) ?_
      exact ro_ret hx hb hr hlocks dX6_read_21 (by rw [mRead, if_neg (fun h => by rw [← inI_blw y (N := 2) (by decide) (by decide), show nI (2 - 1) = nI 1 from rfl, c13] at h; exact absurd h.2 (by decide))])
  · skip
    refine j_if_eq (tgt := 19) hx hb dX6_read_7 (by decide) (fun _ => ?_) (fun q => absurd q (by decide))
    refine lv_bipush (v := (-2)) hx hb dX6_read_19 (by decide) ?_
    exact ro_ret hx hb hr hlocks dX6_read_21 (by rw [mRead, if_neg (fun h => by rw [← inI_blw x (N := 16777216) (by decide) (by decide), show nI (16777216 - 1) = nI 16777215 from rfl, c4] at h; exact absurd h.1 (by decide))])
set_option maxHeartbeats 4000000 in
set_option maxRecDepth 100000 in
/-- isMove -/
theorem c_X6_isMove (l : Launch) (G : EG) (a : Int32) (b : Int32) : RO l yX6_isMove wsX6_isMove (rmR 1 22) G [] [.int a, .int b] (.int (nI (mvOk a b).toNat)) := by
  refine RO.start (by decide) rfl (Nat.le_of_ble_eq_true rfl) ?_
  intro p e s m below meth c hx hb hr hml hts hown hlocks hP hE ls hl
  have hown : s.vm.findClass RX6 = some m.cls := hown
  have hl : lv_has ls 2 [(0, .int a), (1, .int b)] := hl
  refine lv_iload_n hx hb dX6_isMove_0 rfl (lv_at hl 0 rfl) ?_
  refine lv_iconst (v := nI 1) hx hb dX6_isMove_1 (by decide) ?_
  refine lv_bipush (v := nI 22) hx hb dX6_isMove_2 (by decide) ?_
  refine ro_S (rest := []) ⟨hx, hb, hml, hown, hts⟩ (c_X6_in l G a (nI 1) (nI 22)) (va_cwS 3 hts gX6_isMove_X6_in rfl rfl rfl (by decide +kernel) ⟨Nat.le_of_ble_eq_true rfl, Nat.le_of_ble_eq_true rfl⟩) hE (hP.sub [] rfl) rfl hl.1 rfl (Nat.le_of_ble_eq_true rfl) dX6_isMove_4 ⟨Nat.zero_le _, Nat.zero_le _⟩ ?_
  refine j_bool (fun c4 => ?_) (fun c4 => ?_)
  · skip
    refine j_if_eq (tgt := 24) hx hb dX6_isMove_7 (by decide) (fun q => absurd q (by decide)) (fun _ => ?_)
    refine lv_iload_n hx hb dX6_isMove_10 rfl (lv_at hl 1 rfl) ?_
    refine lv_iconst (v := nI 0) hx hb dX6_isMove_11 (by decide) ?_
    refine lv_bipush (v := nI 22) hx hb dX6_isMove_12 (by decide) ?_
    refine ro_S (rest := []) ⟨hx, hb, hml, hown, hts⟩ (c_X6_in l G b (nI 0) (nI 22)) (va_cwS 3 hts gX6_isMove_X6_in rfl rfl rfl (by decide +kernel) ⟨Nat.le_of_ble_eq_true rfl, Nat.le_of_ble_eq_true rfl⟩) hE (hP.sub [] rfl) rfl hl.1 rfl (Nat.le_of_ble_eq_true rfl) dX6_isMove_14 ⟨Nat.zero_le _, Nat.zero_le _⟩ ?_
    refine j_bool (fun c14 => ?_) (fun c14 => ?_)
    · skip
      refine j_if_eq (tgt := 24) hx hb dX6_isMove_17 (by decide) (fun q => absurd q (by decide)) (fun _ => ?_)
      refine lv_iconst (v := nI 1) hx hb dX6_isMove_20 (by decide) ?_
      refine lv_goto (tgt := 25) hx hb dX6_isMove_21 (by decide) ?_
      exact ro_zret hx hb hr hlocks dX6_isMove_25 (by rw [show mvOk a b = true from decide_eq_true ⟨((inI_mv a).mp c4).1, ((inI_mv a).mp c4).2, by rw [← inI_blw b (N := 23) (by decide) (by decide), show nI (23 - 1) = nI 22 from rfl, c14]⟩]; rfl) rfl
    · skip
      refine j_if_eq (tgt := 24) hx hb dX6_isMove_17 (by decide) (fun _ => ?_) (fun q => absurd q (by decide))
      refine lv_iconst (v := nI 0) hx hb dX6_isMove_24 (by decide) ?_
      exact ro_zret hx hb hr hlocks dX6_isMove_25 (by rw [show mvOk a b = false from decide_eq_false (fun h => by rw [← inI_blw b (N := 23) (by decide) (by decide), show nI (23 - 1) = nI 22 from rfl, c14] at h; exact absurd h.2.2 (by decide))]; rfl) rfl
  · skip
    refine j_if_eq (tgt := 24) hx hb dX6_isMove_7 (by decide) (fun _ => ?_) (fun q => absurd q (by decide))
    refine lv_iconst (v := nI 0) hx hb dX6_isMove_24 (by decide) ?_
    exact ro_zret hx hb hr hlocks dX6_isMove_25 (by rw [show mvOk a b = false from decide_eq_false (fun h => by rw [(inI_mv a).mpr ⟨h.1, h.2.1⟩] at c4; exact absurd c4 (by decide))]; rfl) rfl
set_option maxHeartbeats 4000000 in
set_option maxRecDepth 100000 in
/-- place -/
theorem c_X6_place (l : Launch) (G : EG) (q : Nat) (a : Nat) (b : Nat) (h : a * q + b < 2147483648) : RO l yX6_place wsX6_place (rmR 0 0) G [] [.int (nI q), .int (nI a), .int (nI b)] (.int (nI (tgtN q a b))) := by
  refine RO.start (by decide) rfl (Nat.le_of_ble_eq_true rfl) ?_
  intro p e s m below meth c hx hb hr hml hts hown hlocks hP hE ls hl
  have hown : s.vm.findClass RX6 = some m.cls := hown
  have hl : lv_has ls 3 [(0, .int (nI q)), (1, .int (nI a)), (2, .int (nI b))] := hl
  refine lv_iload_n hx hb dX6_place_0 rfl (lv_at hl 1 rfl) ?_
  refine lv_iload_n hx hb dX6_place_1 rfl (lv_at hl 0 rfl) ?_
  refine j_mul hx hb dX6_place_2 ?_
  refine lv_iload_n hx hb dX6_place_3 rfl (lv_at hl 2 rfl) ?_
  refine j_add hx hb dX6_place_4 ?_
  refine lv_bipush (v := nI 23) hx hb dX6_place_5 (by decide) ?_
  refine j_rem hx hb dX6_place_7 ?_ (ha := h)
  exact ro_ret hx hb hr hlocks dX6_place_8 (rfl)
set_option maxHeartbeats 4000000 in
set_option maxRecDepth 100000 in
/-- X6_go -/
theorem c_X6_go (l : Launch) (G : EG) (w : Nat) (a : Nat) (b : Nat) (hw : w < 2147483648) (ha : a < 23) (hb0 : b < 23) : RO l yX6_go wsX6_go (rmR 1 22) G [] [.int (nI w), .int (nI a), .int (nI b)] (.int (nI (carN w a b))) := by
  refine RO.start (by decide) rfl (Nat.le_of_ble_eq_true rfl) ?_
  intro p e s m below meth c hx hb hr hml hts hown hlocks hP hE ls hl
  have hown : s.vm.findClass RX6 = some m.cls := hown
  have hl : lv_has ls 5 [(0, .int (nI w)), (1, .int (nI a)), (2, .int (nI b))] := hl
  refine lv_iconst (v := nI 0) hx hb dX6_go_0 (by decide) ?_
  refine lv_istore_n (lv' := [(3, .int (nI 0)), (0, .int (nI w)), (1, .int (nI a)), (2, .int (nI b))]) hx hb dX6_go_1 rfl hl (by decide) rfl (fun ls hl => ?_)
  refine lv_iconst (v := nI 0) hx hb dX6_go_2 (by decide) ?_
  refine lv_istore (lv' := [(4, .int (nI 0)), (3, .int (nI 0)), (0, .int (nI w)), (1, .int (nI a)), (2, .int (nI b))]) hx hb dX6_go_3 hl (by decide) rfl (fun ls hl => ?_)
  have loop5 : ∀ (fuel : Nat) (v : Nat) (q : Nat), (q ≤ 23) → (v = carL w a b q) → 23 - q < fuel → ∀ ls : Array Slot, lv_has ls 5 [(4, .int (nI q)), (3, .int (nI v)), (0, .int (nI w)), (1, .int (nI a)), (2, .int (nI b))] → W p l e (rmR 1 22) s m ([.int (nI w), .int (nI a), .int (nI b)] : List Value).toArray below meth c s.heap [] 0 0 (MQ below (k2_QcV (.int (nI (carN w a b)))) ([.int (nI w), .int (nI a), .int (nI b)] : List Value).toArray s 0 0 (fun _ => False)) (F0 m 5 ls []) := by
    intro fuel
    induction fuel with
    | zero => intro v q h1 h2 hf; exact absurd hf (Nat.not_lt_zero _)
    | succ fuel ih5 =>
      intro v q h1 h2 hf ls hl
      refine lv_iload hx hb dX6_go_5 (lv_at hl 0 rfl) ?_
      refine lv_bipush (v := nI 23) hx hb dX6_go_7 (by decide) ?_
      refine j_icmp_ge (tgt := 35) hx hb dX6_go_9 (by decide) (fun c9 => ?_) (fun c9 => ?_)
      · skip
        refine lv_iload_n hx hb dX6_go_35 rfl (lv_at hl 1 rfl) ?_
        exact ro_ret hx hb hr hlocks dX6_go_36 (by rw [h2, show q = 23 by omega]; rfl)
      · skip
        refine lv_iload_n hx hb dX6_go_12 rfl (lv_at hl 1 rfl) ?_
        refine lv_iload_n hx hb dX6_go_13 rfl (lv_at hl 2 rfl) ?_
        refine lv_iload hx hb dX6_go_14 (lv_at hl 0 rfl) ?_
        refine j_shr hx hb dX6_go_16 ?_
        refine lv_iconst (v := nI 1) hx hb dX6_go_17 (by decide) ?_
        refine j_and hx hb dX6_go_18 ?_
        refine lv_iload hx hb dX6_go_19 (lv_at hl 0 rfl) ?_
        refine lv_iload_n hx hb dX6_go_21 rfl (lv_at hl 3 rfl) ?_
        refine lv_iload_n hx hb dX6_go_22 rfl (lv_at hl 4 rfl) ?_
        refine ro_S (rest := [.int (nI ((w >>> q) &&& 1)), .int (nI v)]) ⟨hx, hb, hml, hown, hts⟩ (c_X6_place l G q a b (tg_bd (by omega) (by omega) (by omega))) (va_cwS 3 hts gX6_go_X6_place rfl rfl rfl (by decide +kernel) ⟨Nat.le_of_ble_eq_true rfl, Nat.le_of_ble_eq_true rfl⟩) hE (hP.sub [] rfl) rfl hl.1 rfl (Nat.le_of_ble_eq_true rfl) dX6_go_23 ⟨Nat.zero_le _, Nat.zero_le _⟩ ?_
        refine j_shl hx hb dX6_go_26 ?_ (h := Nat.lt_trans (tgtN_lt _ _ _) (by decide))
        refine j_or hx hb dX6_go_27 ?_
        refine j_top (fun x28 ex28 => ?_)
        refine lv_istore_n (lv' := [(3, .int (nI x28)), (4, .int (nI q)), (0, .int (nI w)), (1, .int (nI a)), (2, .int (nI b))]) hx hb dX6_go_28 rfl hl (by decide) rfl (fun ls hl => ?_)
        obtain ⟨x29, ex29⟩ : ∃ y : Nat, y = q + 1 := ⟨_, rfl⟩
        refine lv_iinc (v := nI x29) (lv' := [(4, .int (nI x29)), (3, .int (nI x28)), (0, .int (nI w)), (1, .int (nI a)), (2, .int (nI b))]) hx hb dX6_go_29 hl (k := 1) rfl (by rw [ex29]; exact nI_add _ _) (by decide) rfl (fun ls hl => ?_)
        refine lv_goto (tgt := 5) hx hb dX6_go_32 (by decide) ?_
        exact ih5 x28 x29 (by omega) (by rw [ex28, ex29, h2]; rfl) (by omega) ls (lv_sub hl [0, 1, 2, 3, 4] rfl)
  exact loop5 _ 0 0 (by omega) rfl (Nat.lt_succ_self _) ls (lv_sub hl [0, 1, 2, 3, 4] rfl)
set_option maxHeartbeats 4000000 in
set_option maxRecDepth 100000 in
/-- X6_goBack -/
theorem c_X6_goBack (l : Launch) (G : EG) (w : Nat) (a : Nat) (b : Nat) (hw : w < 2147483648) (ha : a < 23) (hb0 : b < 23) : RO l yX6_goBack wsX6_goBack (rmR 1 22) G [] [.int (nI w), .int (nI a), .int (nI b)] (.int (nI (bakN w a b))) := by
  refine RO.start (by decide) rfl (Nat.le_of_ble_eq_true rfl) ?_
  intro p e s m below meth c hx hb hr hml hts hown hlocks hP hE ls hl
  have hown : s.vm.findClass RX6 = some m.cls := hown
  have hl : lv_has ls 5 [(0, .int (nI w)), (1, .int (nI a)), (2, .int (nI b))] := hl
  refine lv_iconst (v := nI 0) hx hb dX6_goBack_0 (by decide) ?_
  refine lv_istore_n (lv' := [(3, .int (nI 0)), (0, .int (nI w)), (1, .int (nI a)), (2, .int (nI b))]) hx hb dX6_goBack_1 rfl hl (by decide) rfl (fun ls hl => ?_)
  refine lv_iconst (v := nI 0) hx hb dX6_goBack_2 (by decide) ?_
  refine lv_istore (lv' := [(4, .int (nI 0)), (3, .int (nI 0)), (0, .int (nI w)), (1, .int (nI a)), (2, .int (nI b))]) hx hb dX6_goBack_3 hl (by decide) rfl (fun ls hl => ?_)
  have loop5 : ∀ (fuel : Nat) (v : Nat) (q : Nat), (q ≤ 23) → (v = bakL w a b q) → 23 - q < fuel → ∀ ls : Array Slot, lv_has ls 5 [(4, .int (nI q)), (3, .int (nI v)), (0, .int (nI w)), (1, .int (nI a)), (2, .int (nI b))] → W p l e (rmR 1 22) s m ([.int (nI w), .int (nI a), .int (nI b)] : List Value).toArray below meth c s.heap [] 0 0 (MQ below (k2_QcV (.int (nI (bakN w a b)))) ([.int (nI w), .int (nI a), .int (nI b)] : List Value).toArray s 0 0 (fun _ => False)) (F0 m 5 ls []) := by
    intro fuel
    induction fuel with
    | zero => intro v q h1 h2 hf; exact absurd hf (Nat.not_lt_zero _)
    | succ fuel ih5 =>
      intro v q h1 h2 hf ls hl
      refine lv_iload hx hb dX6_goBack_5 (lv_at hl 0 rfl) ?_
      refine lv_bipush (v := nI 23) hx hb dX6_goBack_7 (by decide) ?_
      refine j_icmp_ge (tgt := 35) hx hb dX6_goBack_9 (by decide) (fun c9 => ?_) (fun c9 => ?_)
      · skip
        refine lv_iload_n hx hb dX6_goBack_35 rfl (lv_at hl 1 rfl) ?_
        exact ro_ret hx hb hr hlocks dX6_goBack_36 (by rw [h2, show q = 23 by omega]; rfl)
      · skip
        refine lv_iload_n hx hb dX6_goBack_12 rfl (lv_at hl 1 rfl) ?_
        refine lv_iload_n hx hb dX6_goBack_13 rfl (lv_at hl 2 rfl) ?_
        refine lv_iload hx hb dX6_goBack_14 (lv_at hl 0 rfl) ?_
        refine lv_iload_n hx hb dX6_goBack_16 rfl (lv_at hl 3 rfl) ?_
        refine lv_iload_n hx hb dX6_goBack_17 rfl (lv_at hl 4 rfl) ?_
        refine ro_S (rest := [.int (nI w), .int (nI v)]) ⟨hx, hb, hml, hown, hts⟩ (c_X6_place l G q a b (tg_bd (by omega) (by omega) (by omega))) (va_cwS 3 hts gX6_goBack_X6_place rfl rfl rfl (by decide +kernel) ⟨Nat.le_of_ble_eq_true rfl, Nat.le_of_ble_eq_true rfl⟩) hE (hP.sub [] rfl) rfl hl.1 rfl (Nat.le_of_ble_eq_true rfl) dX6_goBack_18 ⟨Nat.zero_le _, Nat.zero_le _⟩ ?_
        refine j_shr hx hb dX6_goBack_21 ?_ (h := Nat.lt_trans (tgtN_lt _ _ _) (by decide))
        refine lv_iconst (v := nI 1) hx hb dX6_goBack_22 (by decide) ?_
        refine j_and hx hb dX6_goBack_23 ?_
        refine lv_iload hx hb dX6_goBack_24 (lv_at hl 0 rfl) ?_
        refine j_shl hx hb dX6_goBack_26 ?_
        refine j_or hx hb dX6_goBack_27 ?_
        refine j_top (fun x28 ex28 => ?_)
        refine lv_istore_n (lv' := [(3, .int (nI x28)), (4, .int (nI q)), (0, .int (nI w)), (1, .int (nI a)), (2, .int (nI b))]) hx hb dX6_goBack_28 rfl hl (by decide) rfl (fun ls hl => ?_)
        obtain ⟨x29, ex29⟩ : ∃ y : Nat, y = q + 1 := ⟨_, rfl⟩
        refine lv_iinc (v := nI x29) (lv' := [(4, .int (nI x29)), (3, .int (nI x28)), (0, .int (nI w)), (1, .int (nI a)), (2, .int (nI b))]) hx hb dX6_goBack_29 hl (k := 1) rfl (by rw [ex29]; exact nI_add _ _) (by decide) rfl (fun ls hl => ?_)
        refine lv_goto (tgt := 5) hx hb dX6_goBack_32 (by decide) ?_
        exact ih5 x28 x29 (by omega) (by rw [ex28, ex29, h2]; rfl) (by omega) ls (lv_sub hl [0, 1, 2, 3, 4] rfl)
  exact loop5 _ 0 0 (by omega) rfl (Nat.lt_succ_self _) ls (lv_sub hl [0, 1, 2, 3, 4] rfl)
set_option maxHeartbeats 4000000 in
set_option maxRecDepth 100000 in
/-- keepsCode -/
theorem c_X6_keepsCode (l : Launch) (G : EG) (a : Nat) (b : Nat) (ha : a < 23) (hb0 : b < 23) : RO l yX6_keepsCode wsX6_keepsCode (rmR 2 46) G [] [.int (nI a), .int (nI b)] (.int (nI (kepN a b).toNat)) := by
  refine RO.start (by decide) rfl (Nat.le_of_ble_eq_true rfl) ?_
  intro p e s m below meth c hx hb hr hml hts hown hlocks hP hE ls hl
  have hown : s.vm.findClass RX6 = some m.cls := hown
  have hl : lv_has ls 4 [(0, .int (nI a)), (1, .int (nI b))] := hl
  refine lv_iconst (v := nI 1) hx hb dX6_keepsCode_0 (by decide) ?_
  refine lv_istore_n (lv' := [(2, .int (nI 1)), (0, .int (nI a)), (1, .int (nI b))]) hx hb dX6_keepsCode_1 rfl hl (by decide) rfl (fun ls hl => ?_)
  refine lv_iconst (v := nI 0) hx hb dX6_keepsCode_2 (by decide) ?_
  refine lv_istore_n (lv' := [(3, .int (nI 0)), (2, .int (nI 1)), (0, .int (nI a)), (1, .int (nI b))]) hx hb dX6_keepsCode_3 rfl hl (by decide) rfl (fun ls hl => ?_)
  have loop4 : ∀ (fuel : Nat) (f : Nat) (k : Nat), (k ≤ 12) → (f = 0 ∨ f = 1) → (f = 1 → ∀ i, i < k → remN (carN (madeN (1 <<< i)) a b) = 0) → (f = 0 → ∃ i, i < k ∧ ¬ remN (carN (madeN (1 <<< i)) a b) = 0) → 12 - k < fuel → ∀ ls : Array Slot, lv_has ls 4 [(3, .int (nI k)), (2, .int (nI f)), (0, .int (nI a)), (1, .int (nI b))] → W p l e (rmR 2 46) s m ([.int (nI a), .int (nI b)] : List Value).toArray below meth c s.heap [] 0 0 (MQ below (k2_QcV (.int (nI (kepN a b).toNat))) ([.int (nI a), .int (nI b)] : List Value).toArray s 0 0 (fun _ => False)) (F0 m 4 ls []) := by
    intro fuel
    induction fuel with
    | zero => intro f k h1 h2 h3 h4 hf; exact absurd hf (Nat.not_lt_zero _)
    | succ fuel ih4 =>
      intro f k h1 h2 h3 h4 hf ls hl
      refine lv_iload_n hx hb dX6_keepsCode_4 rfl (lv_at hl 0 rfl) ?_
      refine lv_bipush (v := nI 12) hx hb dX6_keepsCode_5 (by decide) ?_
      refine j_icmp_ge (tgt := 43) hx hb dX6_keepsCode_7 (by decide) (fun c7 => ?_) (fun c7 => ?_)
      · skip
        refine lv_iload_n hx hb dX6_keepsCode_43 rfl (lv_at hl 1 rfl) ?_
        rcases h2 with rfl | rfl
        · exact ro_zret hx hb hr hlocks dX6_keepsCode_44 (by obtain ⟨i, g1, g2⟩ := h4 rfl; rw [kep_f (i := i) (by omega) g2]; rfl) rfl
        · exact ro_zret hx hb hr hlocks dX6_keepsCode_44 (by rw [kep_t (fun i hi => h3 rfl i (by omega))]; rfl) rfl
      · skip
        refine lv_iload_n hx hb dX6_keepsCode_10 rfl (lv_at hl 1 rfl) ?_
        refine j_if_eq (tgt := 35) hx hb dX6_keepsCode_11 (by decide) (fun c11 => ?_) (fun c11 => ?_) (h1 := by omega)
        · skip
          refine lv_iconst (v := nI 0) hx hb dX6_keepsCode_35 (by decide) ?_
          refine lv_istore_n (lv' := [(2, .int (nI 0)), (3, .int (nI k)), (0, .int (nI a)), (1, .int (nI b))]) hx hb dX6_keepsCode_36 rfl hl (by decide) rfl (fun ls hl => ?_)
          obtain ⟨x37, ex37⟩ : ∃ y : Nat, y = k + 1 := ⟨_, rfl⟩
          refine lv_iinc (v := nI x37) (lv' := [(3, .int (nI x37)), (2, .int (nI 0)), (0, .int (nI a)), (1, .int (nI b))]) hx hb dX6_keepsCode_37 hl (k := 1) rfl (by rw [ex37]; exact nI_add _ _) (by decide) rfl (fun ls hl => ?_)
          refine lv_goto (tgt := 4) hx hb dX6_keepsCode_40 (by decide) ?_
          exact ih4 0 x37 (by omega) (Or.inl rfl) (fun h => absurd h (by decide)) (fun _ => by obtain ⟨i, g1, g2⟩ := h4 c11; exact ⟨i, by omega, g2⟩) (by omega) ls (lv_sub hl [0, 1, 2, 3] rfl)
        · skip
          refine lv_iconst (v := nI 1) hx hb dX6_keepsCode_14 (by decide) ?_
          refine lv_iload_n hx hb dX6_keepsCode_15 rfl (lv_at hl 0 rfl) ?_
          refine j_shl hx hb dX6_keepsCode_16 ?_
          refine ro_S (rest := []) ⟨hx, hb, hml, hown, hts⟩ (c_X6_madeOf l G (1 <<< k) (shl_4096 (by omega))) (va_cwS 1 hts gX6_keepsCode_X6_madeOf rfl rfl rfl (by decide +kernel) ⟨Nat.le_of_ble_eq_true rfl, Nat.le_of_ble_eq_true rfl⟩) hE (hP.sub [] rfl) rfl hl.1 rfl (Nat.le_of_ble_eq_true rfl) dX6_keepsCode_17 ⟨Nat.zero_le _, Nat.zero_le _⟩ ?_
          refine lv_iload_n hx hb dX6_keepsCode_20 rfl (lv_at hl 2 rfl) ?_
          refine lv_iload_n hx hb dX6_keepsCode_21 rfl (lv_at hl 3 rfl) ?_
          refine ro_S (rest := []) ⟨hx, hb, hml, hown, hts⟩ (c_X6_go l G (madeN (1 <<< k)) a b (Nat.lt_trans (made_lt (shl_4096 (by omega))) (by decide)) (by omega) (by omega)) (va_cwS 3 hts gX6_keepsCode_X6_go rfl rfl rfl (by decide +kernel) ⟨Nat.le_of_ble_eq_true rfl, Nat.le_of_ble_eq_true rfl⟩) hE (hP.sub [] rfl) rfl hl.1 rfl (Nat.le_of_ble_eq_true rfl) dX6_keepsCode_22 ⟨Nat.zero_le _, Nat.zero_le _⟩ ?_
          refine ro_S (rest := []) ⟨hx, hb, hml, hown, hts⟩ (c_X6_restOf l G (carN (madeN (1 <<< k)) a b) (Nat.lt_trans (carL_lt _ _ _ _) (by decide))) (va_cwS 1 hts gX6_keepsCode_X6_restOf rfl rfl rfl (by decide +kernel) ⟨Nat.le_of_ble_eq_true rfl, Nat.le_of_ble_eq_true rfl⟩) hE (hP.sub [] rfl) rfl hl.1 rfl (Nat.le_of_ble_eq_true rfl) dX6_keepsCode_25 ⟨Nat.zero_le _, Nat.zero_le _⟩ ?_
          refine j_if_ne (tgt := 35) hx hb dX6_keepsCode_28 (by decide) (fun c28 => ?_) (fun c28 => ?_) (h1 := Nat.lt_trans (remN_lt (Nat.lt_trans (carL_lt _ _ _ _) (by decide))) (by decide))
          · skip
            refine lv_iconst (v := nI 0) hx hb dX6_keepsCode_35 (by decide) ?_
            refine lv_istore_n (lv' := [(2, .int (nI 0)), (3, .int (nI k)), (0, .int (nI a)), (1, .int (nI b))]) hx hb dX6_keepsCode_36 rfl hl (by decide) rfl (fun ls hl => ?_)
            obtain ⟨x37, ex37⟩ : ∃ y : Nat, y = k + 1 := ⟨_, rfl⟩
            refine lv_iinc (v := nI x37) (lv' := [(3, .int (nI x37)), (2, .int (nI 0)), (0, .int (nI a)), (1, .int (nI b))]) hx hb dX6_keepsCode_37 hl (k := 1) rfl (by rw [ex37]; exact nI_add _ _) (by decide) rfl (fun ls hl => ?_)
            refine lv_goto (tgt := 4) hx hb dX6_keepsCode_40 (by decide) ?_
            exact ih4 0 x37 (by omega) (Or.inl rfl) (fun h => absurd h (by decide)) (fun _ => ⟨k, by omega, c28⟩) (by omega) ls (lv_sub hl [0, 1, 2, 3] rfl)
          · skip
            refine lv_iconst (v := nI 1) hx hb dX6_keepsCode_31 (by decide) ?_
            refine lv_goto (tgt := 36) hx hb dX6_keepsCode_32 (by decide) ?_
            refine lv_istore_n (lv' := [(2, .int (nI 1)), (3, .int (nI k)), (0, .int (nI a)), (1, .int (nI b))]) hx hb dX6_keepsCode_36 rfl hl (by decide) rfl (fun ls hl => ?_)
            obtain ⟨x37, ex37⟩ : ∃ y : Nat, y = k + 1 := ⟨_, rfl⟩
            refine lv_iinc (v := nI x37) (lv' := [(3, .int (nI x37)), (2, .int (nI 1)), (0, .int (nI a)), (1, .int (nI b))]) hx hb dX6_keepsCode_37 hl (k := 1) rfl (by rw [ex37]; exact nI_add _ _) (by decide) rfl (fun ls hl => ?_)
            refine lv_goto (tgt := 4) hx hb dX6_keepsCode_40 (by decide) ?_
            exact ih4 1 x37 (by omega) (Or.inr rfl) (by rw [ex37]; intro _; exact lt_s (h3 (by omega)) c28) (fun h => absurd h (by decide)) (by omega) ls (lv_sub hl [0, 1, 2, 3] rfl)
  exact loop4 _ 1 0 (by omega) (Or.inr rfl) (fun _ _ h => absurd h (Nat.not_lt_zero _)) (fun h => absurd h (by decide)) (Nat.lt_succ_self _) ls (lv_sub hl [0, 1, 2, 3] rfl)
set_option maxHeartbeats 4000000 in
set_option maxRecDepth 100000 in
/-- keeps -/
theorem c_X6_keeps (l : Launch) (G : EG) (o : Nat) (sa : Nat) (ia : Nat) (ka : Nat) (ea : Nat) (ca : Nat) (tr : Nat) (fi : Int32) (x : Int32) (y : Int32) : RO l yX6_keeps wsX6_keeps (rmR 3 69) G [(o, .inr (5, [.ref sa, .ref ia, .ref ka, .ref ea, .int (nI tr), .int fi, .ref ca]))] [.ref o, .int x, .int y] (.int (mKeeps x y)) := by
  refine RO.start (by decide) rfl (Nat.le_of_ble_eq_true rfl) ?_
  intro p e s m below meth c hx hb hr hml hts hown hlocks hP hE ls hl
  have hown : s.vm.findClass RX6 = some m.cls := hown
  have hl : lv_has ls 3 [(0, .ref o), (1, .int x), (2, .int y)] := hl
  refine lv_iload_n hx hb dX6_keeps_0 rfl (lv_at hl 1 rfl) ?_
  refine lv_iload_n hx hb dX6_keeps_1 rfl (lv_at hl 2 rfl) ?_
  refine ro_S (rest := []) ⟨hx, hb, hml, hown, hts⟩ (c_X6_isMove l G x y) (va_cwS 2 hts gX6_keeps_X6_isMove rfl rfl rfl (by decide +kernel) ⟨Nat.le_of_ble_eq_true rfl, Nat.le_of_ble_eq_true rfl⟩) hE (hP.sub [] rfl) rfl hl.1 rfl (Nat.le_of_ble_eq_true rfl) dX6_keeps_2 ⟨Nat.zero_le _, Nat.zero_le _⟩ ?_
  refine j_bool (fun c2 => ?_) (fun c2 => ?_)
  · skip
    obtain ⟨a, d, ha0, ha, hd, rfl, rfl⟩ := mv_ex c2
    refine j_if_ne (tgt := 11) hx hb dX6_keeps_5 (by decide) (fun _ => ?_) (fun q => absurd q (by decide))
    refine lv_iload_n hx hb dX6_keeps_11 rfl (lv_at hl 1 rfl) ?_
    refine lv_iload_n hx hb dX6_keeps_12 rfl (lv_at hl 2 rfl) ?_
    refine ro_S (rest := []) ⟨hx, hb, hml, hown, hts⟩ (c_X6_keepsCode l G a d (by omega) (by omega)) (va_cwS 2 hts gX6_keeps_X6_keepsCode rfl rfl rfl (by decide +kernel) ⟨Nat.le_of_ble_eq_true rfl, Nat.le_of_ble_eq_true rfl⟩) hE (hP.sub [] rfl) rfl hl.1 rfl (Nat.le_of_ble_eq_true rfl) dX6_keeps_13 ⟨Nat.zero_le _, Nat.zero_le _⟩ ?_
    refine j_bool (fun c13 => ?_) (fun c13 => ?_)
    · skip
      refine j_if_eq (tgt := 23) hx hb dX6_keeps_16 (by decide) (fun q => absurd q (by decide)) (fun _ => ?_)
      refine lv_iconst (v := nI 1) hx hb dX6_keeps_19 (by decide) ?_
      refine lv_goto (tgt := 24) hx hb dX6_keeps_20 (by decide) ?_
      exact ro_ret hx hb hr hlocks dX6_keeps_24 (by rw [mKeeps, if_pos c2, cl_nI ha (by decide), cl_nI hd (by decide), if_pos c13])
    · skip
      refine j_if_eq (tgt := 23) hx hb dX6_keeps_16 (by decide) (fun _ => ?_) (fun q => absurd q (by decide))
      refine lv_iconst (v := nI 0) hx hb dX6_keeps_23 (by decide) ?_
      exact ro_ret hx hb hr hlocks dX6_keeps_24 (by rw [mKeeps, if_pos c2, cl_nI ha (by decide), cl_nI hd (by decide), if_neg (by rw [c13]; decide)])
  · skip
    refine j_if_ne (tgt := 11) hx hb dX6_keeps_5 (by decide) (fun q => absurd q (by decide)) (fun _ => ?_)
    refine lv_bipush (v := (-2)) hx hb dX6_keeps_8 (by decide) ?_
    exact ro_ret hx hb hr hlocks dX6_keeps_10 (by rw [mKeeps, if_neg (by rw [c2]; decide)])
set_option maxHeartbeats 4000000 in
set_option maxRecDepth 100000 in
/-- moved -/
theorem c_X6_moved (l : Launch) (G : EG) (o : Nat) (sa : Nat) (ia : Nat) (ka : Nat) (ea : Nat) (ca : Nat) (tr : Nat) (fi : Int32) (x : Int32) (y : Int32) (z : Int32) : RO l yX6_moved wsX6_moved (rmR 2 46) G [(o, .inr (5, [.ref sa, .ref ia, .ref ka, .ref ea, .int (nI tr), .int fi, .ref ca]))] [.ref o, .int x, .int y, .int z] (.int (mMoved x y z)) := by
  refine RO.start (by decide) rfl (Nat.le_of_ble_eq_true rfl) ?_
  intro p e s m below meth c hx hb hr hml hts hown hlocks hP hE ls hl
  have hown : s.vm.findClass RX6 = some m.cls := hown
  have hl : lv_has ls 4 [(0, .ref o), (1, .int x), (2, .int y), (3, .int z)] := hl
  refine lv_iload_n hx hb dX6_moved_0 rfl (lv_at hl 1 rfl) ?_
  refine ro_S (rest := []) ⟨hx, hb, hml, hown, hts⟩ (c_X6_isWord l G x) (va_cwS 1 hts gX6_moved_X6_isWord rfl rfl rfl (by decide +kernel) ⟨Nat.le_of_ble_eq_true rfl, Nat.le_of_ble_eq_true rfl⟩) hE (hP.sub [] rfl) rfl hl.1 rfl (Nat.le_of_ble_eq_true rfl) dX6_moved_1 ⟨Nat.zero_le _, Nat.zero_le _⟩ ?_
  refine j_bool (fun c1 => ?_) (fun c1 => ?_)
  · skip
    obtain ⟨w, hw, rfl⟩ := blw_ex c1 (by decide)
    refine j_if_eq (tgt := 24) hx hb dX6_moved_4 (by decide) (fun q => absurd q (by decide)) (fun _ => ?_)
    refine lv_iload_n hx hb dX6_moved_7 rfl (lv_at hl 2 rfl) ?_
    refine lv_iload_n hx hb dX6_moved_8 rfl (lv_at hl 3 rfl) ?_
    refine ro_S (rest := []) ⟨hx, hb, hml, hown, hts⟩ (c_X6_isMove l G y z) (va_cwS 2 hts gX6_moved_X6_isMove rfl rfl rfl (by decide +kernel) ⟨Nat.le_of_ble_eq_true rfl, Nat.le_of_ble_eq_true rfl⟩) hE (hP.sub [] rfl) rfl hl.1 rfl (Nat.le_of_ble_eq_true rfl) dX6_moved_9 ⟨Nat.zero_le _, Nat.zero_le _⟩ ?_
    refine j_bool (fun c9 => ?_) (fun c9 => ?_)
    · skip
      obtain ⟨a, d, ha0, ha, hd, rfl, rfl⟩ := mv_ex c9
      refine j_if_eq (tgt := 24) hx hb dX6_moved_12 (by decide) (fun q => absurd q (by decide)) (fun _ => ?_)
      refine lv_iload_n hx hb dX6_moved_15 rfl (lv_at hl 1 rfl) ?_
      refine lv_iload_n hx hb dX6_moved_16 rfl (lv_at hl 2 rfl) ?_
      refine lv_iload_n hx hb dX6_moved_17 rfl (lv_at hl 3 rfl) ?_
      refine ro_S (rest := []) ⟨hx, hb, hml, hown, hts⟩ (c_X6_go l G w a d (by omega) (by omega) (by omega)) (va_cwS 3 hts gX6_moved_X6_go rfl rfl rfl (by decide +kernel) ⟨Nat.le_of_ble_eq_true rfl, Nat.le_of_ble_eq_true rfl⟩) hE (hP.sub [] rfl) rfl hl.1 rfl (Nat.le_of_ble_eq_true rfl) dX6_moved_18 ⟨Nat.zero_le _, Nat.zero_le _⟩ ?_
      refine lv_goto (tgt := 26) hx hb dX6_moved_21 (by decide) ?_
      exact ro_ret hx hb hr hlocks dX6_moved_26 (by rw [mMoved, if_pos ⟨c1, c9⟩, cl_nI hw (by decide), cl_nI ha (by decide), cl_nI hd (by decide)])
    · skip
      refine j_if_eq (tgt := 24) hx hb dX6_moved_12 (by decide) (fun _ => ?_) (fun q => absurd q (by decide))
      refine lv_bipush (v := (-2)) hx hb dX6_moved_24 (by decide) ?_
      exact ro_ret hx hb hr hlocks dX6_moved_26 (by rw [mMoved, if_neg (fun h => by rw [c9] at h; exact absurd h.2 (by decide))])
  · skip
    refine j_if_eq (tgt := 24) hx hb dX6_moved_4 (by decide) (fun _ => ?_) (fun q => absurd q (by decide))
    refine lv_bipush (v := (-2)) hx hb dX6_moved_24 (by decide) ?_
    exact ro_ret hx hb hr hlocks dX6_moved_26 (by rw [mMoved, if_neg (fun h => by rw [c1] at h; exact absurd h.1 (by decide))])
end
section
/-! the mirrors of the reference's methods over its state X (40 ints), images Y (80), kept K, tries C -/
def mMoveR (X : Nat → Nat) (x y : Int32) : Int32 := if mvOk x y = true then (if kepN (cl x) (cl y) = true then (if X 0 = 8 then -4 else nI (X 0)) else -5) else -2
def mMoveX (X : Nat → Nat) (x y : Int32) : Nat → Nat := if mvOk x y = true ∧ kepN (cl x) (cl y) = true ∧ ¬ X 0 = 8 then va_up (va_up (va_up X (1 + X 0) (cl x)) (9 + X 0) (cl y)) 0 (X 0 + 1) else X
theorem up_ne {F : Nat → Nat} {k x j : Nat} (h : j ≠ k) : va_up F k x j = F j := if_neg h
theorem up_eq {F : Nat → Nat} {k x : Nat} : va_up F k x k = x := if_pos rfl
def drpS (X : Nat → Nat) (d : Nat) : Nat → Nat := va_up (va_up X (1 + d) (X (1 + d + 1))) (9 + d) (va_up X (1 + d) (X (1 + d + 1)) (9 + d + 1))
def drpF (X : Nat → Nat) (d : Nat) : Nat → (Nat → Nat)
  | 0 => X
  | k + 1 => drpS (drpF X d k) (d + k)
theorem drpF_0 (X : Nat → Nat) (d : Nat) : ∀ k, drpF X d k 0 = X 0
  | 0 => rfl
  | k + 1 => by
    show va_up _ _ _ 0 = _
    rw [up_ne (by omega), up_ne (by omega), drpF_0 X d k]
def mDropR (X : Nat → Nat) (x : Int32) : Int32 := if blw x (X 0) = true then nI (X 0 - 1) else -1
def mDropX (X : Nat → Nat) (x : Int32) : Nat → Nat := if blw x (X 0) = true then va_up (drpF X (cl x) (X 0 - 1 - cl x)) 0 (X 0 - 1) else X
def brX (X : Nat → Nat) (k q : Nat) : Bool := decide (tgtN q (X (1 + k)) (X (9 + k)) < 11)
def covF (X : Nat → Nat) (a b d : Nat) : Nat → Nat
  | 0 => X 0
  | k + 1 => if brX X (X 0 - (k + 1)) a = true ∧ brX X (X 0 - (k + 1)) b = true ∧ brX X (X 0 - (k + 1)) d = true then X 0 - (k + 1) else covF X a b d k
def covX (X : Nat → Nat) (a b d : Nat) : Nat := covF X a b d (X 0)
theorem covF_le (X : Nat → Nat) (a b d : Nat) : ∀ k, covF X a b d k ≤ X 0
  | 0 => Nat.le_refl _
  | k + 1 => by
    rw [covF]
    split
    · omega
    · exact covF_le X a b d k
def triS (X : Nat → Nat) (mv a b d : Nat) (z : Nat × Int32) : Nat × Int32 := if covX X a b d = mv then (z.1 + 1, if z.1 = 0 then nI (529 * a + 23 * b + d) else z.2) else z
def triR (X : Nat → Nat) (mv a b : Nat) : Nat → Nat × Int32 → Nat × Int32
  | 0, z => z
  | k + 1, z => triR X mv a b k (triS X mv a b (22 - k) z)
def triQ (X : Nat → Nat) (mv a : Nat) : Nat → Nat × Int32 → Nat × Int32
  | 0, z => z
  | k + 1, z => triQ X mv a k (triR X mv a (22 - k) k z)
def triP (X : Nat → Nat) (mv : Nat) : Nat → Nat × Int32 → Nat × Int32
  | 0, z => z
  | k + 1, z => triP X mv k (triQ X mv (22 - k) k z)
def triA (X : Nat → Nat) (mv : Nat) : Nat × Int32 := triP X mv 23 (0, -6)
def mToldR (X : Nat → Nat) (x y : Int32) : Int32 := if blw x (X 0) = true then (if blw y 3 = true then (if cl y = 0 then nI (X (1 + cl x)) else if cl y = 1 then nI (X (9 + cl x)) else nI (triA X (cl x)).1) else -2) else -1
def mToldT (X : Nat → Nat) (x y : Int32) (tr : Nat) : Nat := if blw x (X 0) = true ∧ blw y 3 = true then (triA X (cl x)).1 else tr
def mToldF (X : Nat → Nat) (x y : Int32) (fi : Int32) : Int32 := if blw x (X 0) = true ∧ blw y 3 = true then (triA X (cl x)).2 else fi
def mOpenR (X : Nat → Nat) (x : Int32) : Int32 := if blw x 2 = true then (if cl x = 0 then nI (triA X (X 0)).1 else (triA X (X 0)).2) else -2
def mOpenT (X : Nat → Nat) (x : Int32) (tr : Nat) : Nat := if blw x 2 = true then (triA X (X 0)).1 else tr
def mOpenF (X : Nat → Nat) (x : Int32) (fi : Int32) : Int32 := if blw x 2 = true then (triA X (X 0)).2 else fi
def frdR (X : Nat → Nat) (w i : Nat) : Nat := remN (carN w (X (1 + i)) (X (9 + i)))
def frdF (X : Nat → Nat) (w j : Nat) : Nat → Int32
  | 0 => -6
  | k + 1 => if wtN (frdR X w (X 0 - (k + 1))) ≤ 3 then (if j = 0 then nI (X 0 - (k + 1)) else nI (bakN (frdR X w (X 0 - (k + 1))) (X (1 + (X 0 - (k + 1)))) (X (9 + (X 0 - (k + 1)))))) else frdF X w j k
def mFreed (X : Nat → Nat) (x y : Int32) : Int32 := if blw x 8388608 = true ∧ blw y 2 = true then frdF X (cl x) (cl y) (X 0) else -2
def mSureR (X : Nat → Nat) (x y : Int32) : Int32 := if blw x 23 = true ∧ blw y 10 = true then nI (X (17 + cl x)) else -2
def mSureX (X : Nat → Nat) (x y : Int32) : Nat → Nat := if blw x 23 = true ∧ blw y 10 = true then va_up X (17 + cl x) (cl y) else X
def ahdP (X : Nat → Nat) (a k : Nat) : Prop := X (17 + k) < X (17 + a) ∨ (X (17 + k) = X (17 + a) ∧ k < a)
theorem ahdP_f {X : Nat → Nat} {a k : Nat} (h1 : X (17 + a) ≤ X (17 + k)) (h2 : ¬ (X (17 + k) = X (17 + a) ∧ k < a)) : ¬ ahdP X a k := fun h => h.elim (fun q => absurd q (Nat.not_lt.mpr h1)) h2
def ahdB (X : Nat → Nat) (a k : Nat) : Bool := decide (X (17 + k) < X (17 + a)) || (decide (X (17 + k) = X (17 + a)) && decide (k < a))
theorem ahdB_t {X : Nat → Nat} {a k : Nat} (h : ahdP X a k) : ahdB X a k = true := by
  unfold ahdB
  rcases h with h | h
  · simp [h]
  · simp [h.1, h.2]
theorem ahdB_f {X : Nat → Nat} {a k : Nat} (h : ¬ ahdP X a k) : ahdB X a k = false := by
  unfold ahdB
  have h1 : ¬ X (17 + k) < X (17 + a) := fun q => h (Or.inl q)
  have h2 : ¬ (X (17 + k) = X (17 + a) ∧ k < a) := fun q => h (Or.inr q)
  simp [h1]
  omega
def ahdL (X : Nat → Nat) (a : Nat) : Nat → Nat
  | 0 => 0
  | k + 1 => ahdL X a k + (ahdB X a k).toNat
theorem ahdL_le (X : Nat → Nat) (a : Nat) : ∀ k, ahdL X a k ≤ k
  | 0 => Nat.le_refl 0
  | k + 1 => Nat.add_le_add (ahdL_le X a k) (by cases ahdB X a k <;> decide)
def wkL (X : Nat → Nat) (j : Nat) : Nat → Int32
  | 0 => -6
  | k + 1 => if ahdL X k 23 = j then nI k else wkL X j k
def mWeak (X : Nat → Nat) (x : Int32) : Int32 := if blw x 4 = true then wkL X (cl x) 23 else -2
def losL (X : Nat → Nat) (v : Nat) : Nat → Nat
  | 0 => 0
  | k + 1 => losL X v k + (v >>> k &&& 1) * X (17 + k)
theorem losL_le {X : Nat → Nat} (h : ∀ q, q < 23 → X (17 + q) ≤ 9) (v : Nat) : ∀ k, k ≤ 23 → losL X v k ≤ 9 * k
  | 0, _ => Nat.le_refl 0
  | k + 1, hk => by
    have h1 := losL_le h v k (by omega)
    have h2 : (v >>> k &&& 1) * X (17 + k) ≤ 1 * 9 := Nat.mul_le_mul Nat.and_le_right (h k (by omega))
    rw [losL]
    omega
def tryL (wk : Nat → Nat) (w k : Nat) : Nat → Nat
  | 0 => w
  | j + 1 => tryL wk w k j ^^^ ((k >>> j &&& 1) <<< wk j)
theorem tryL_lt {wk : Nat → Nat} {w k : Nat} (hw : w < 8388608) (h : ∀ j, j < 4 → wk j < 23) : ∀ j, j ≤ 4 → tryL wk w k j < 8388608
  | 0, _ => hw
  | j + 1, hj => bd_xor 23 (tryL_lt hw h j (by omega)) (shl1_lt (h j (by omega)))
def comA (E : Nat → Nat) (wk : Nat → Nat) (w t : Nat) (C : Nat → Nat) : Nat → (Nat → Nat)
  | 0 => C
  | k + 1 => va_up (comA E wk w t C k) k (nearE E (tryL wk w k t))
theorem shl16 {t : Nat} (h : t ≤ 4) : 1 <<< t ≤ 16 := by
  rw [Nat.shiftLeft_eq, Nat.one_mul]
  exact Nat.pow_le_pow_right (n := 2) (by decide) h
theorem comA_lt {E wk C : Nat → Nat} {w t : Nat} (hE : ∀ i, i < 2048 → E i < 8388608) (hwk : ∀ j, j < 4 → wk j < 23) (hw : w < 8388608) (ht : t ≤ 4) (hC : ∀ i, i < 16 → C i < 8388608) : ∀ k i, i < 16 → comA E wk w t C k i < 8388608
  | 0, i, hi => hC i hi
  | k + 1, i, hi => by
    show va_up _ _ _ _ < _
    unfold va_up
    split
    · exact near_lt hE (tryL_lt hw hwk t ht)
    · exact comA_lt hE hwk hw ht hC k i hi
def uqN (C : Nat → Nat) (k : Nat) : Bool := (List.range k).all (fun i => decide (¬ C i = C k))
theorem uq_f {C : Nat → Nat} {k i : Nat} (hi : i < k) (h : C i = C k) : uqN C k = false := Bool.eq_false_iff.mpr (fun q => (of_decide_eq_true (List.all_eq_true.mp q i (List.mem_range.mpr hi))) h)
theorem uq_t {C : Nat → Nat} {k : Nat} (h : ∀ i, i < k → ¬ C i = C k) : uqN C k = true := List.all_eq_true.mpr (fun i hi => decide_eq_true (h i (List.mem_range.mp hi)))
def unlL (C : Nat → Nat) : Nat → Nat
  | 0 => 0
  | k + 1 => unlL C k + (uqN C k).toNat
theorem unlL_le (C : Nat → Nat) : ∀ k, unlL C k ≤ k
  | 0 => Nat.le_refl 0
  | k + 1 => Nat.add_le_add (unlL_le C k) (by cases uqN C k <;> decide)
def bstL (X C : Nat → Nat) (w : Nat) : Nat → Nat
  | 0 => 0
  | k + 1 => if losL X (C (k + 1) ^^^ w) 23 < losL X (C (bstL X C w k) ^^^ w) 23 then k + 1 else bstL X C w k
theorem bstL_le (X C : Nat → Nat) (w : Nat) : ∀ k, bstL X C w k ≤ k
  | 0 => Nat.le_refl 0
  | k + 1 => by
    rw [bstL]
    split
    · exact Nat.le_refl _
    · exact Nat.le_trans (bstL_le X C w k) (Nat.le_succ k)
def chsV (X C : Nat → Nat) (w t j : Nat) : Int32 := if j = 0 then nI (C (bstL X C w (1 <<< t - 1))) else if j = 1 then nI (losL X (C (bstL X C w (1 <<< t - 1)) ^^^ w) 23) else if j = 2 then nI (bstL X C w (1 <<< t - 1)) else nI (unlL C (1 <<< t))
def mChosen (E wk X C : Nat → Nat) (x y z : Int32) : Int32 := if blw x 8388608 = true ∧ blw y 5 = true ∧ blw z 4 = true then chsV X (comA E wk (cl x) (cl y) C (1 <<< cl y)) (cl x) (cl y) (cl z) else -2
def mChosenC (E wk C : Nat → Nat) (x y z : Int32) : Nat → Nat := if blw x 8388608 = true ∧ blw y 5 = true ∧ blw z 4 = true then comA E wk (cl x) (cl y) C (1 <<< cl y) else C
def imgF (X Y : Nat → Nat) (d : Nat) : Nat → (Nat → Nat)
  | 0 => Y
  | k + 1 => va_up (imgF X Y d k) (40 * d + k) (X k)
def mImageR (x : Int32) : Int32 := if blw x 2 = true then nI 1 else -2
def mImageY (X Y : Nat → Nat) (x : Int32) : Nat → Nat := if blw x 2 = true then imgF X Y (cl x) 40 else Y
def mImageK (K : Nat → Nat) (x : Int32) : Nat → Nat := if blw x 2 = true then va_up K (cl x) 1 else K
def rstF (X Y : Nat → Nat) (d : Nat) : Nat → (Nat → Nat)
  | 0 => X
  | k + 1 => va_up (rstF X Y d k) k (Y (40 * d + k))
def mRestoreR (K : Nat → Nat) (x : Int32) : Int32 := if blw x 2 = true then (if K (cl x) = 0 then -3 else nI 1) else -2
def mRestoreX (X Y K : Nat → Nat) (x : Int32) : Nat → Nat := if blw x 2 = true ∧ ¬ K (cl x) = 0 then rstF X Y (cl x) 40 else X
def sumL (X : Nat → Nat) : Nat → Nat
  | 0 => 0
  | k + 1 => sumL X k + X (17 + k)
def mCount (X K : Nat → Nat) (x : Int32) : Int32 := if inI x (nI 10) (nI 33) = true then nI (aroL 0 (cl x - 10) 4096) else if inI x (nI 40) (nI 62) = true then nI (X (17 + cl x - 40)) else if x = nI 0 then nI (X 0) else if x = nI 1 then nI (sumL X 23) else if x = nI 2 then nI ((if K 0 = 0 then 0 else 1) + (if K 1 = 0 then 0 else 2)) else -2
theorem inI_ex2 {x : Int32} {a b : Nat} (h : inI x (nI a) (nI b) = true) (ha : a < 2147483648) (hb : b < 2147483648) : ∃ j : Nat, a ≤ j ∧ j ≤ b ∧ x = nI j := by
  rw [inI_toInt, nI_toInt ha, nI_toInt hb] at h
  obtain ⟨h1, h2⟩ := of_decide_eq_true h
  obtain ⟨j, hj, rfl⟩ := nI_of (x := x) (fun q => by
    have := Int32.lt_iff_toInt_lt.mp q
    rw [Int32.toInt_zero] at this
    omega)
  rw [nI_toInt hj] at h1 h2
  exact ⟨j, by omega, by omega, rfl⟩
theorem triS_n {X : Nat → Nat} {mv a b d : Nat} {z : Nat × Int32} (h : ¬ covX X a b d = mv) : triS X mv a b d z = z := if_neg h
theorem triS_0 {X : Nat → Nat} {mv a b d t : Nat} {f : Int32} (h : covX X a b d = mv) (h0 : t = 0) : triS X mv a b d (t, f) = (t + 1, nI (529 * a + 23 * b + d)) := by
  unfold triS
  rw [if_pos h, if_pos h0]
theorem triS_1 {X : Nat → Nat} {mv a b d t : Nat} {f : Int32} (h : covX X a b d = mv) (h0 : ¬ t = 0) : triS X mv a b d (t, f) = (t + 1, f) := by
  unfold triS
  rw [if_pos h, if_neg h0]
end
section
set_option maxHeartbeats 4000000 in
set_option maxRecDepth 100000 in
/-- isThere -/
theorem c_X6_isThere (l : Launch) (G : EG) (o : Nat) (sa : Nat) (ia : Nat) (ka : Nat) (ea : Nat) (ca : Nat) (tr : Nat) (fi : Int32) (X : Nat → Nat) (hX0 : X 0 ≤ 8) (x : Int32) : RO l yX6_isThere wsX6_isThere (rmR 1 22) G [(o, .inr (5, [.ref sa, .ref ia, .ref ka, .ref ea, .int (nI tr), .int fi, .ref ca])), (sa, aI G 40 X)] [.ref o, .int x] (.int (nI (blw x (X 0)).toNat)) := by
  refine RO.start (by decide) rfl (Nat.le_of_ble_eq_true rfl) ?_
  intro p e s m below meth c hx hb hr hml hts hown hlocks hP hE ls hl
  have hown : s.vm.findClass RX6 = some m.cls := hown
  have hl : lv_has ls 2 [(0, .ref o), (1, .int x)] := hl
  refine lv_iload_n hx hb dX6_isThere_0 rfl (lv_at hl 1 rfl) ?_
  refine lv_iconst (v := nI 0) hx hb dX6_isThere_1 (by decide) ?_
  refine lv_aload_n hx hb dX6_isThere_2 rfl (lv_at hl 0 rfl) ?_
  refine va_get (D := G.1) (ci := 5) (v := .ref sa) (C := RX6) (T := TX6) (N := 7) hx hb hts (fun w h => List.mem_cons_of_mem _ (List.mem_append_right _ h)) hown hE.1 hP 0 rfl rfl 0 (by decide) (hts (.fieldLink RX6 7 "TripleTrapModel" "state" "[I") (List.mem_of_getElem? (i := 1) rfl)) (fun _ h9 => h9) rfl dX6_isThere_3 ?_
  refine lv_iconst (v := nI 0) hx hb dX6_isThere_6 (by decide) ?_
  refine j_iald hx hb hE hP 1 rfl dX6_isThere_7 ?_
  refine lv_iconst (v := nI 1) hx hb dX6_isThere_8 (by decide) ?_
  refine lv_isub hx hb dX6_isThere_9 ?_
  refine ro_S (rest := []) ⟨hx, hb, hml, hown, hts⟩ (c_X6_in l G x (nI 0) ((nI (X 0)) - (nI 1))) (va_cwS 3 hts gX6_isThere_X6_in rfl rfl rfl (by decide +kernel) ⟨Nat.le_of_ble_eq_true rfl, Nat.le_of_ble_eq_true rfl⟩) hE (hP.sub [] rfl) rfl hl.1 rfl (Nat.le_of_ble_eq_true rfl) dX6_isThere_10 ⟨Nat.zero_le _, Nat.zero_le _⟩ ?_
  refine j_bool (fun c10 => ?_) (fun c10 => ?_)
  · skip
    exact ro_zret hx hb hr hlocks dX6_isThere_13 (by rw [← inI_sub x (by omega), c10]; rfl) rfl
  · skip
    exact ro_zret hx hb hr hlocks dX6_isThere_13 (by rw [← inI_sub x (by omega), c10]; rfl) rfl
set_option maxHeartbeats 4000000 in
set_option maxRecDepth 100000 in
/-- move -/
theorem c_X6_move (l : Launch) (G : EG) (o : Nat) (sa : Nat) (ia : Nat) (ka : Nat) (ea : Nat) (ca : Nat) (tr : Nat) (fi : Int32) (X : Nat → Nat) (hX0 : X 0 ≤ 8) (x : Int32) (y : Int32) (sz : Nat) : WR l yX6_move wsX6_move (rmR 3 69) G sz [(o, .inr (5, [.ref sa, .ref ia, .ref ka, .ref ea, .int (nI tr), .int fi, .ref ca])), (sa, aI G 40 X)] [.ref o, .int x, .int y] [(o, .inr (5, [.ref sa, .ref ia, .ref ka, .ref ea, .int (nI tr), .int fi, .ref ca])), (sa, aI G 40 (mMoveX X x y))] (some (.int (mMoveR X x y))) := by
  refine WR.start (by decide) rfl (Nat.le_of_ble_eq_true rfl) ?_
  intro p e s m below meth c hx hb hr hml hts hown hlocks hE A hA H locs hP hD hS ls hl
  have hown : s.vm.findClass RX6 = some m.cls := hown
  have hl : lv_has ls 4 [(0, .ref o), (1, .int x), (2, .int y)] := hl
  refine lv_iload_n hx hb dX6_move_0 rfl (lv_at hl 1 rfl) ?_
  refine lv_iload_n hx hb dX6_move_1 rfl (lv_at hl 2 rfl) ?_
  refine ro_S (rest := []) ⟨hx, hb, hml, hown, hts⟩ (c_X6_isMove l G x y) (va_cwS 2 hts gX6_move_X6_isMove rfl rfl rfl (by decide +kernel) ⟨Nat.le_of_ble_eq_true rfl, Nat.le_of_ble_eq_true rfl⟩) hE (hP.sub [] rfl) rfl hl.1 rfl (Nat.le_of_ble_eq_true rfl) dX6_move_2 ⟨Nat.zero_le _, Nat.zero_le _⟩ ?_
  refine j_bool (fun c2 => ?_) (fun c2 => ?_)
  · skip
    obtain ⟨a, d, ha0, ha, hd, rfl, rfl⟩ := mv_ex c2
    refine j_if_ne (tgt := 11) hx hb dX6_move_5 (by decide) (fun _ => ?_) (fun q => absurd q (by decide))
    refine lv_iload_n hx hb dX6_move_11 rfl (lv_at hl 1 rfl) ?_
    refine lv_iload_n hx hb dX6_move_12 rfl (lv_at hl 2 rfl) ?_
    refine ro_S (rest := []) ⟨hx, hb, hml, hown, hts⟩ (c_X6_keepsCode l G a d (by omega) (by omega)) (va_cwS 2 hts gX6_move_X6_keepsCode rfl rfl rfl (by decide +kernel) ⟨Nat.le_of_ble_eq_true rfl, Nat.le_of_ble_eq_true rfl⟩) hE (hP.sub [] rfl) rfl hl.1 rfl (Nat.le_of_ble_eq_true rfl) dX6_move_13 ⟨Nat.zero_le _, Nat.zero_le _⟩ ?_
    refine j_bool (fun c13 => ?_) (fun c13 => ?_)
    · skip
      refine j_if_ne (tgt := 22) hx hb dX6_move_16 (by decide) (fun _ => ?_) (fun q => absurd q (by decide))
      refine lv_aload_n hx hb dX6_move_22 rfl (lv_at hl 0 rfl) ?_
      refine va_get (D := G.1) (ci := 5) (v := .ref sa) (C := RX6) (T := TX6) (N := 7) hx hb hts (fun w h => List.mem_cons_of_mem _ (List.mem_append_right _ h)) hown hE.1 hP 0 rfl rfl 0 (by decide) (hts (.fieldLink RX6 7 "TripleTrapModel" "state" "[I") (List.mem_of_getElem? (i := 1) rfl)) (fun _ h9 => h9) rfl dX6_move_23 ?_
      refine lv_iconst (v := nI 0) hx hb dX6_move_26 (by decide) ?_
      refine j_iald hx hb hE hP 1 rfl dX6_move_27 ?_
      refine j_top (fun x28 ex28 => ?_)
      refine lv_istore_n (lv' := [(3, .int (nI x28)), (0, .ref o), (1, .int (nI a)), (2, .int (nI d))]) hx hb dX6_move_28 rfl hl (by decide) rfl (fun ls hl => ?_)
      refine lv_iload_n hx hb dX6_move_29 rfl (lv_at hl 0 rfl) ?_
      refine lv_bipush (v := nI 8) hx hb dX6_move_30 (by decide) ?_
      refine j_icmp_ne (tgt := 38) hx hb dX6_move_32 (by decide) (fun c32 => ?_) (fun c32 => ?_)
      · skip
        refine lv_aload_n hx hb dX6_move_38 rfl (lv_at hl 1 rfl) ?_
        refine va_get (D := G.1) (ci := 5) (v := .ref sa) (C := RX6) (T := TX6) (N := 7) hx hb hts (fun w h => List.mem_cons_of_mem _ (List.mem_append_right _ h)) hown hE.1 hP 0 rfl rfl 0 (by decide) (hts (.fieldLink RX6 7 "TripleTrapModel" "state" "[I") (List.mem_of_getElem? (i := 1) rfl)) (fun _ h9 => h9) rfl dX6_move_39 ?_
        refine lv_iconst (v := nI 1) hx hb dX6_move_42 (by decide) ?_
        refine lv_iload_n hx hb dX6_move_43 rfl (lv_at hl 0 rfl) ?_
        refine j_add hx hb dX6_move_44 ?_
        refine lv_iload_n hx hb dX6_move_45 rfl (lv_at hl 2 rfl) ?_
        refine j_iast hx hb hE hP hD hS 1 rfl dX6_move_46 (fun H locs hP hD hS => ?_)
        have hP : va_P G.1 vwCl [(o, .inr (5, [.ref sa, .ref ia, .ref ka, .ref ea, .int (nI tr), .int fi, .ref ca])), (sa, aI G 40 (va_up X (1 + x28) a))] H := hP
        have hD : va_D A [(o, .inr (5, [.ref sa, .ref ia, .ref ka, .ref ea, .int (nI tr), .int fi, .ref ca])), (sa, aI G 40 (va_up X (1 + x28) a))] := hD
        refine lv_aload_n hx hb dX6_move_47 rfl (lv_at hl 1 rfl) ?_
        refine va_get (D := G.1) (ci := 5) (v := .ref sa) (C := RX6) (T := TX6) (N := 7) hx hb hts (fun w h => List.mem_cons_of_mem _ (List.mem_append_right _ h)) hown hE.1 hP 0 rfl rfl 0 (by decide) (hts (.fieldLink RX6 7 "TripleTrapModel" "state" "[I") (List.mem_of_getElem? (i := 1) rfl)) (fun _ h9 => h9) rfl dX6_move_48 ?_
        refine lv_bipush (v := nI 9) hx hb dX6_move_51 (by decide) ?_
        refine lv_iload_n hx hb dX6_move_53 rfl (lv_at hl 0 rfl) ?_
        refine j_add hx hb dX6_move_54 ?_
        refine lv_iload_n hx hb dX6_move_55 rfl (lv_at hl 3 rfl) ?_
        refine j_iast hx hb hE hP hD hS 1 rfl dX6_move_56 (fun H locs hP hD hS => ?_)
        have hP : va_P G.1 vwCl [(o, .inr (5, [.ref sa, .ref ia, .ref ka, .ref ea, .int (nI tr), .int fi, .ref ca])), (sa, aI G 40 (va_up (va_up X (1 + x28) a) (9 + x28) d))] H := hP
        have hD : va_D A [(o, .inr (5, [.ref sa, .ref ia, .ref ka, .ref ea, .int (nI tr), .int fi, .ref ca])), (sa, aI G 40 (va_up (va_up X (1 + x28) a) (9 + x28) d))] := hD
        refine lv_aload_n hx hb dX6_move_57 rfl (lv_at hl 1 rfl) ?_
        refine va_get (D := G.1) (ci := 5) (v := .ref sa) (C := RX6) (T := TX6) (N := 7) hx hb hts (fun w h => List.mem_cons_of_mem _ (List.mem_append_right _ h)) hown hE.1 hP 0 rfl rfl 0 (by decide) (hts (.fieldLink RX6 7 "TripleTrapModel" "state" "[I") (List.mem_of_getElem? (i := 1) rfl)) (fun _ h9 => h9) rfl dX6_move_58 ?_
        refine lv_iconst (v := nI 0) hx hb dX6_move_61 (by decide) ?_
        refine lv_dup2_11 hx hb dX6_move_62 rfl rfl ?_
        refine j_iald hx hb hE hP 1 rfl dX6_move_63 ?_
        refine lv_iconst (v := nI 1) hx hb dX6_move_64 (by decide) ?_
        refine j_add hx hb dX6_move_65 ?_
        refine j_iast hx hb hE hP hD hS 1 rfl dX6_move_66 (fun H locs hP hD hS => ?_)
        have hP : va_P G.1 vwCl [(o, .inr (5, [.ref sa, .ref ia, .ref ka, .ref ea, .int (nI tr), .int fi, .ref ca])), (sa, aI G 40 (va_up (va_up (va_up X (1 + x28) a) (9 + x28) d) 0 (((va_up (va_up X (1 + x28) a) (9 + x28) d) 0) + 1)))] H := hP
        have hD : va_D A [(o, .inr (5, [.ref sa, .ref ia, .ref ka, .ref ea, .int (nI tr), .int fi, .ref ca])), (sa, aI G 40 (va_up (va_up (va_up X (1 + x28) a) (9 + x28) d) 0 (((va_up (va_up X (1 + x28) a) (9 + x28) d) 0) + 1)))] := hD
        refine lv_iload_n hx hb dX6_move_67 rfl (lv_at hl 0 rfl) ?_
        have eF : va_up (va_up (va_up X (1 + x28) a) (9 + x28) d) 0 (((va_up (va_up X (1 + x28) a) (9 + x28) d) 0) + 1) = mMoveX X (nI a) (nI d) := by rw [mMoveX, cl_nI ha (by decide), cl_nI hd (by decide), if_pos ⟨c2, c13, fun h => c32 (by rw [ex28]; exact h)⟩, up_ne (by omega), up_ne (by omega), ex28]
        rw [eF] at hP hD
        clear eF
        exact wr_ret hx hb hr hlocks dX6_move_68 hP hD hS (by rw [mMoveR, if_pos c2, cl_nI ha (by decide), cl_nI hd (by decide), if_pos c13, if_neg (fun h => c32 (by rw [ex28]; exact h)), ex28])
      · skip
        refine lv_bipush (v := (-4)) hx hb dX6_move_35 (by decide) ?_
        have eF : X = mMoveX X (nI a) (nI d) := by rw [mMoveX, if_neg (fun h => h.2.2 (by rw [← ex28]; exact c32))]
        rw [eF] at hP hD
        clear eF
        exact wr_ret hx hb hr hlocks dX6_move_37 hP hD hS (by rw [mMoveR, if_pos c2, cl_nI ha (by decide), cl_nI hd (by decide), if_pos c13, if_pos (by rw [← ex28]; exact c32)])
    · skip
      refine j_if_ne (tgt := 22) hx hb dX6_move_16 (by decide) (fun q => absurd q (by decide)) (fun _ => ?_)
      refine lv_bipush (v := (-5)) hx hb dX6_move_19 (by decide) ?_
      have eF : X = mMoveX X (nI a) (nI d) := by rw [mMoveX, if_neg (fun h => by rw [cl_nI ha (by decide), cl_nI hd (by decide), c13] at h; exact absurd h.2.1 (by decide))]
      rw [eF] at hP hD
      clear eF
      exact wr_ret hx hb hr hlocks dX6_move_21 hP hD hS (by rw [mMoveR, if_pos c2, cl_nI ha (by decide), cl_nI hd (by decide), if_neg (by rw [c13]; decide)])
  · skip
    refine j_if_ne (tgt := 11) hx hb dX6_move_5 (by decide) (fun q => absurd q (by decide)) (fun _ => ?_)
    refine lv_bipush (v := (-2)) hx hb dX6_move_8 (by decide) ?_
    have eF : X = mMoveX X x y := by rw [mMoveX, if_neg (fun h => by rw [c2] at h; exact absurd h.1 (by decide))]
    rw [eF] at hP hD
    clear eF
    exact wr_ret hx hb hr hlocks dX6_move_10 hP hD hS (by rw [mMoveR, if_neg (by rw [c2]; decide)])
set_option maxHeartbeats 4000000 in
set_option maxRecDepth 100000 in
/-- drop -/
theorem c_X6_drop (l : Launch) (G : EG) (o : Nat) (sa : Nat) (ia : Nat) (ka : Nat) (ea : Nat) (ca : Nat) (tr : Nat) (fi : Int32) (X : Nat → Nat) (hX0 : X 0 ≤ 8) (x : Int32) (sz : Nat) : WR l yX6_drop wsX6_drop (rmR 2 43) G sz [(o, .inr (5, [.ref sa, .ref ia, .ref ka, .ref ea, .int (nI tr), .int fi, .ref ca])), (sa, aI G 40 X)] [.ref o, .int x] [(o, .inr (5, [.ref sa, .ref ia, .ref ka, .ref ea, .int (nI tr), .int fi, .ref ca])), (sa, aI G 40 (mDropX X x))] (some (.int (mDropR X x))) := by
  refine WR.start (by decide) rfl (Nat.le_of_ble_eq_true rfl) ?_
  intro p e s m below meth c hx hb hr hml hts hown hlocks hE A hA H locs hP hD hS ls hl
  have hown : s.vm.findClass RX6 = some m.cls := hown
  have hl : lv_has ls 3 [(0, .ref o), (1, .int x)] := hl
  refine lv_aload_n hx hb dX6_drop_0 rfl (lv_at hl 0 rfl) ?_
  refine lv_iload_n hx hb dX6_drop_1 rfl (lv_at hl 1 rfl) ?_
  refine ro_V 5 0 (rest := []) ⟨hx, hb, hml, hown, hts⟩ (c_X6_isThere l G o sa ia ka ea ca tr fi X hX0 x) (cwV 1 hts gX6_drop_X6_isThere rfl rfl rfl (by decide +kernel) ⟨Nat.le_of_ble_eq_true rfl, Nat.le_of_ble_eq_true rfl⟩) hE (hP.sub [0, 1] rfl) rfl rfl rfl hl.1 rfl (Nat.le_of_ble_eq_true rfl) dX6_drop_2 ⟨Nat.zero_le _, Nat.zero_le _⟩ ?_
  refine j_bool (fun c2 => ?_) (fun c2 => ?_)
  · skip
    obtain ⟨d, hd, rfl⟩ := blw_ex c2 (by omega)
    refine j_if_ne (tgt := 10) hx hb dX6_drop_5 (by decide) (fun _ => ?_) (fun q => absurd q (by decide))
    refine lv_iload_n hx hb dX6_drop_10 rfl (lv_at hl 1 rfl) ?_
    refine lv_istore_n (lv' := [(2, .int (nI d)), (0, .ref o), (1, .int (nI d))]) hx hb dX6_drop_11 rfl hl (by decide) rfl (fun ls hl => ?_)
    have loop12 : ∀ (fuel : Nat) (q : Nat) (F : Nat → Nat), (d ≤ q) → (q < X 0) → (F = drpF X d (q - d)) → X 0 - q < fuel → ∀ (H : Heap) (locs : List Loc), va_P G.1 vwCl [(o, .inr (5, [.ref sa, .ref ia, .ref ka, .ref ea, .int (nI tr), .int fi, .ref ca])), (sa, aI G 40 F)] H → va_D A [(o, .inr (5, [.ref sa, .ref ia, .ref ka, .ref ea, .int (nI tr), .int fi, .ref ca])), (sa, aI G 40 F)] → va_S A s.heap H locs → ∀ ls : Array Slot, lv_has ls 3 [(2, .int (nI q)), (0, .ref o), (1, .int (nI d))] → W p l e (rmR 2 43) s m ([.ref o, .int (nI d)] : List Value).toArray below meth c H locs 0 0 (MQ below (postW G [(o, .inr (5, [.ref sa, .ref ia, .ref ka, .ref ea, .int (nI tr), .int fi, .ref ca])), (sa, aI G 40 (mDropX X (nI d)))] (some (.int (mDropR X (nI d)))) A) ([.ref o, .int (nI d)] : List Value).toArray s 0 0 A) (F0 m 12 ls []) := by
      intro fuel
      induction fuel with
      | zero => intro q F h1 h2 h3 hf; exact absurd hf (Nat.not_lt_zero _)
      | succ fuel ih12 =>
        intro q F h1 h2 h3 hf H locs hP hD hS ls hl
        have hF0 : F 0 = X 0 := by rw [h3, drpF_0]
        refine lv_iload_n hx hb dX6_drop_12 rfl (lv_at hl 0 rfl) ?_
        refine lv_iconst (v := nI 1) hx hb dX6_drop_13 (by decide) ?_
        refine j_add hx hb dX6_drop_14 ?_
        refine lv_aload_n hx hb dX6_drop_15 rfl (lv_at hl 1 rfl) ?_
        refine va_get (D := G.1) (ci := 5) (v := .ref sa) (C := RX6) (T := TX6) (N := 7) hx hb hts (fun w h => List.mem_cons_of_mem _ (List.mem_append_right _ h)) hown hE.1 hP 0 rfl rfl 0 (by decide) (hts (.fieldLink RX6 7 "TripleTrapModel" "state" "[I") (List.mem_of_getElem? (i := 1) rfl)) (fun _ h9 => h9) rfl dX6_drop_16 ?_
        refine lv_iconst (v := nI 0) hx hb dX6_drop_19 (by decide) ?_
        refine j_iald hx hb hE hP 1 rfl dX6_drop_20 ?_
        refine j_icmp_ge (tgt := 68) hx hb dX6_drop_21 (by decide) (fun c21 => ?_) (fun c21 => ?_)
        · skip
          refine lv_aload_n hx hb dX6_drop_68 rfl (lv_at hl 1 rfl) ?_
          refine va_get (D := G.1) (ci := 5) (v := .ref sa) (C := RX6) (T := TX6) (N := 7) hx hb hts (fun w h => List.mem_cons_of_mem _ (List.mem_append_right _ h)) hown hE.1 hP 0 rfl rfl 0 (by decide) (hts (.fieldLink RX6 7 "TripleTrapModel" "state" "[I") (List.mem_of_getElem? (i := 1) rfl)) (fun _ h9 => h9) rfl dX6_drop_69 ?_
          refine lv_iconst (v := nI 0) hx hb dX6_drop_72 (by decide) ?_
          refine lv_dup2_11 hx hb dX6_drop_73 rfl rfl ?_
          refine j_iald hx hb hE hP 1 rfl dX6_drop_74 ?_
          refine lv_iconst (v := nI 1) hx hb dX6_drop_75 (by decide) ?_
          refine j_sub hx hb dX6_drop_76 ?_
          refine j_iast hx hb hE hP hD hS 1 rfl dX6_drop_77 (fun H locs hP hD hS => ?_)
          have hP : va_P G.1 vwCl [(o, .inr (5, [.ref sa, .ref ia, .ref ka, .ref ea, .int (nI tr), .int fi, .ref ca])), (sa, aI G 40 (va_up F 0 ((F 0) - 1)))] H := hP
          have hD : va_D A [(o, .inr (5, [.ref sa, .ref ia, .ref ka, .ref ea, .int (nI tr), .int fi, .ref ca])), (sa, aI G 40 (va_up F 0 ((F 0) - 1)))] := hD
          refine lv_aload_n hx hb dX6_drop_78 rfl (lv_at hl 1 rfl) ?_
          refine va_get (D := G.1) (ci := 5) (v := .ref sa) (C := RX6) (T := TX6) (N := 7) hx hb hts (fun w h => List.mem_cons_of_mem _ (List.mem_append_right _ h)) hown hE.1 hP 0 rfl rfl 0 (by decide) (hts (.fieldLink RX6 7 "TripleTrapModel" "state" "[I") (List.mem_of_getElem? (i := 1) rfl)) (fun _ h9 => h9) rfl dX6_drop_79 ?_
          refine lv_iconst (v := nI 0) hx hb dX6_drop_82 (by decide) ?_
          refine j_iald hx hb hE hP 1 rfl dX6_drop_83 ?_
          have eF : va_up F 0 ((F 0) - 1) = mDropX X (nI d) := by rw [mDropX, if_pos c2, cl_nI hd (by omega), hF0, h3, show q - d = X 0 - 1 - d by omega]
          rw [eF] at hP hD
          clear eF
          exact wr_ret hx hb hr hlocks dX6_drop_84 hP hD hS (by rw [mDropR, if_pos c2, up_eq, hF0])
        · skip
          refine lv_aload_n hx hb dX6_drop_24 rfl (lv_at hl 1 rfl) ?_
          refine va_get (D := G.1) (ci := 5) (v := .ref sa) (C := RX6) (T := TX6) (N := 7) hx hb hts (fun w h => List.mem_cons_of_mem _ (List.mem_append_right _ h)) hown hE.1 hP 0 rfl rfl 0 (by decide) (hts (.fieldLink RX6 7 "TripleTrapModel" "state" "[I") (List.mem_of_getElem? (i := 1) rfl)) (fun _ h9 => h9) rfl dX6_drop_25 ?_
          refine lv_iconst (v := nI 1) hx hb dX6_drop_28 (by decide) ?_
          refine lv_iload_n hx hb dX6_drop_29 rfl (lv_at hl 0 rfl) ?_
          refine j_add hx hb dX6_drop_30 ?_
          refine lv_aload_n hx hb dX6_drop_31 rfl (lv_at hl 1 rfl) ?_
          refine va_get (D := G.1) (ci := 5) (v := .ref sa) (C := RX6) (T := TX6) (N := 7) hx hb hts (fun w h => List.mem_cons_of_mem _ (List.mem_append_right _ h)) hown hE.1 hP 0 rfl rfl 0 (by decide) (hts (.fieldLink RX6 7 "TripleTrapModel" "state" "[I") (List.mem_of_getElem? (i := 1) rfl)) (fun _ h9 => h9) rfl dX6_drop_32 ?_
          refine lv_iconst (v := nI 1) hx hb dX6_drop_35 (by decide) ?_
          refine lv_iload_n hx hb dX6_drop_36 rfl (lv_at hl 0 rfl) ?_
          refine j_add hx hb dX6_drop_37 ?_
          refine lv_iconst (v := nI 1) hx hb dX6_drop_38 (by decide) ?_
          refine j_add hx hb dX6_drop_39 ?_
          refine j_iald hx hb hE hP 1 rfl dX6_drop_40 ?_
          refine j_iast hx hb hE hP hD hS 1 rfl dX6_drop_41 (fun H locs hP hD hS => ?_)
          have hP : va_P G.1 vwCl [(o, .inr (5, [.ref sa, .ref ia, .ref ka, .ref ea, .int (nI tr), .int fi, .ref ca])), (sa, aI G 40 (va_up F (1 + q) (F ((1 + q) + 1))))] H := hP
          have hD : va_D A [(o, .inr (5, [.ref sa, .ref ia, .ref ka, .ref ea, .int (nI tr), .int fi, .ref ca])), (sa, aI G 40 (va_up F (1 + q) (F ((1 + q) + 1))))] := hD
          refine lv_aload_n hx hb dX6_drop_42 rfl (lv_at hl 1 rfl) ?_
          refine va_get (D := G.1) (ci := 5) (v := .ref sa) (C := RX6) (T := TX6) (N := 7) hx hb hts (fun w h => List.mem_cons_of_mem _ (List.mem_append_right _ h)) hown hE.1 hP 0 rfl rfl 0 (by decide) (hts (.fieldLink RX6 7 "TripleTrapModel" "state" "[I") (List.mem_of_getElem? (i := 1) rfl)) (fun _ h9 => h9) rfl dX6_drop_43 ?_
          refine lv_bipush (v := nI 9) hx hb dX6_drop_46 (by decide) ?_
          refine lv_iload_n hx hb dX6_drop_48 rfl (lv_at hl 0 rfl) ?_
          refine j_add hx hb dX6_drop_49 ?_
          refine lv_aload_n hx hb dX6_drop_50 rfl (lv_at hl 1 rfl) ?_
          refine va_get (D := G.1) (ci := 5) (v := .ref sa) (C := RX6) (T := TX6) (N := 7) hx hb hts (fun w h => List.mem_cons_of_mem _ (List.mem_append_right _ h)) hown hE.1 hP 0 rfl rfl 0 (by decide) (hts (.fieldLink RX6 7 "TripleTrapModel" "state" "[I") (List.mem_of_getElem? (i := 1) rfl)) (fun _ h9 => h9) rfl dX6_drop_51 ?_
          refine lv_bipush (v := nI 9) hx hb dX6_drop_54 (by decide) ?_
          refine lv_iload_n hx hb dX6_drop_56 rfl (lv_at hl 0 rfl) ?_
          refine j_add hx hb dX6_drop_57 ?_
          refine lv_iconst (v := nI 1) hx hb dX6_drop_58 (by decide) ?_
          refine j_add hx hb dX6_drop_59 ?_
          refine j_iald hx hb hE hP 1 rfl dX6_drop_60 ?_
          refine j_iast hx hb hE hP hD hS 1 rfl dX6_drop_61 (fun H locs hP hD hS => ?_)
          have hP : va_P G.1 vwCl [(o, .inr (5, [.ref sa, .ref ia, .ref ka, .ref ea, .int (nI tr), .int fi, .ref ca])), (sa, aI G 40 (va_up (va_up F (1 + q) (F ((1 + q) + 1))) (9 + q) ((va_up F (1 + q) (F ((1 + q) + 1))) ((9 + q) + 1))))] H := hP
          have hD : va_D A [(o, .inr (5, [.ref sa, .ref ia, .ref ka, .ref ea, .int (nI tr), .int fi, .ref ca])), (sa, aI G 40 (va_up (va_up F (1 + q) (F ((1 + q) + 1))) (9 + q) ((va_up F (1 + q) (F ((1 + q) + 1))) ((9 + q) + 1))))] := hD
          obtain ⟨x62, ex62⟩ : ∃ y : Nat, y = q + 1 := ⟨_, rfl⟩
          refine lv_iinc (v := nI x62) (lv' := [(2, .int (nI x62)), (0, .ref o), (1, .int (nI d))]) hx hb dX6_drop_62 hl (k := 0) rfl (by rw [ex62]; exact nI_add _ _) (by decide) rfl (fun ls hl => ?_)
          refine lv_goto (tgt := 12) hx hb dX6_drop_65 (by decide) ?_
          exact ih12 x62 (va_up (va_up F (1 + q) (F ((1 + q) + 1))) (9 + q) ((va_up F (1 + q) (F ((1 + q) + 1))) ((9 + q) + 1))) (by omega) (by omega) (by rw [ex62, show q + 1 - d = (q - d) + 1 by omega, drpF, ← h3, show d + (q - d) = q by omega]; rfl) (by omega) H locs hP hD hS ls (lv_sub hl [0, 1, 2] rfl)
    exact loop12 _ d X (by omega) (by omega) (by rw [Nat.sub_self]; rfl) (Nat.lt_succ_self _) H locs hP hD hS ls (lv_sub hl [0, 1, 2] rfl)
  · skip
    refine j_if_ne (tgt := 10) hx hb dX6_drop_5 (by decide) (fun q => absurd q (by decide)) (fun _ => ?_)
    refine lv_iconst (v := (-1)) hx hb dX6_drop_8 (by decide) ?_
    have eF : X = mDropX X x := by rw [mDropX, if_neg (by rw [c2]; decide)]
    rw [eF] at hP hD
    clear eF
    exact wr_ret hx hb hr hlocks dX6_drop_9 hP hD hS (by rw [mDropR, if_neg (by rw [c2]; decide)])
set_option maxHeartbeats 4000000 in
set_option maxRecDepth 100000 in
/-- bringsTo -/
theorem c_X6_bringsTo (l : Launch) (G : EG) (o : Nat) (sa : Nat) (ia : Nat) (ka : Nat) (ea : Nat) (ca : Nat) (tr : Nat) (fi : Int32) (X : Nat → Nat) (k : Nat) (q : Nat) (hk : k < 8) (hpl : X (1 + k) * q + X (9 + k) < 2147483648) : RO l yX6_bringsTo wsX6_bringsTo (rmR 1 22) G [(o, .inr (5, [.ref sa, .ref ia, .ref ka, .ref ea, .int (nI tr), .int fi, .ref ca])), (sa, aI G 40 X)] [.ref o, .int (nI k), .int (nI q)] (.int (nI (brX X k q).toNat)) := by
  refine RO.start (by decide) rfl (Nat.le_of_ble_eq_true rfl) ?_
  intro p e s m below meth c hx hb hr hml hts hown hlocks hP hE ls hl
  have hown : s.vm.findClass RX6 = some m.cls := hown
  have hl : lv_has ls 3 [(0, .ref o), (1, .int (nI k)), (2, .int (nI q))] := hl
  refine lv_iload_n hx hb dX6_bringsTo_0 rfl (lv_at hl 2 rfl) ?_
  refine lv_aload_n hx hb dX6_bringsTo_1 rfl (lv_at hl 0 rfl) ?_
  refine va_get (D := G.1) (ci := 5) (v := .ref sa) (C := RX6) (T := TX6) (N := 7) hx hb hts (fun w h => List.mem_cons_of_mem _ (List.mem_append_right _ h)) hown hE.1 hP 0 rfl rfl 0 (by decide) (hts (.fieldLink RX6 7 "TripleTrapModel" "state" "[I") (List.mem_of_getElem? (i := 1) rfl)) (fun _ h9 => h9) rfl dX6_bringsTo_2 ?_
  refine lv_iconst (v := nI 1) hx hb dX6_bringsTo_5 (by decide) ?_
  refine lv_iload_n hx hb dX6_bringsTo_6 rfl (lv_at hl 1 rfl) ?_
  refine j_add hx hb dX6_bringsTo_7 ?_
  refine j_iald hx hb hE hP 1 rfl dX6_bringsTo_8 ?_
  refine lv_aload_n hx hb dX6_bringsTo_9 rfl (lv_at hl 0 rfl) ?_
  refine va_get (D := G.1) (ci := 5) (v := .ref sa) (C := RX6) (T := TX6) (N := 7) hx hb hts (fun w h => List.mem_cons_of_mem _ (List.mem_append_right _ h)) hown hE.1 hP 0 rfl rfl 0 (by decide) (hts (.fieldLink RX6 7 "TripleTrapModel" "state" "[I") (List.mem_of_getElem? (i := 1) rfl)) (fun _ h9 => h9) rfl dX6_bringsTo_10 ?_
  refine lv_bipush (v := nI 9) hx hb dX6_bringsTo_13 (by decide) ?_
  refine lv_iload_n hx hb dX6_bringsTo_15 rfl (lv_at hl 1 rfl) ?_
  refine j_add hx hb dX6_bringsTo_16 ?_
  refine j_iald hx hb hE hP 1 rfl dX6_bringsTo_17 ?_
  refine ro_S (rest := []) ⟨hx, hb, hml, hown, hts⟩ (c_X6_place l G q (X (1 + k)) (X (9 + k)) hpl) (va_cwS 3 hts gX6_bringsTo_X6_place rfl rfl rfl (by decide +kernel) ⟨Nat.le_of_ble_eq_true rfl, Nat.le_of_ble_eq_true rfl⟩) hE (hP.sub [] rfl) rfl hl.1 rfl (Nat.le_of_ble_eq_true rfl) dX6_bringsTo_18 ⟨Nat.zero_le _, Nat.zero_le _⟩ ?_
  refine lv_bipush (v := nI 11) hx hb dX6_bringsTo_21 (by decide) ?_
  refine j_icmp_ge (tgt := 30) hx hb dX6_bringsTo_23 (by decide) (fun c23 => ?_) (fun c23 => ?_) (h1 := Nat.lt_trans (tgtN_lt _ _ _) (by decide)) (h2 := by decide)
  · skip
    refine lv_iconst (v := nI 0) hx hb dX6_bringsTo_30 (by decide) ?_
    exact ro_zret hx hb hr hlocks dX6_bringsTo_31 (by rw [brX, decide_eq_false (Nat.not_lt.mpr c23)]; rfl) rfl
  · skip
    refine lv_iconst (v := nI 1) hx hb dX6_bringsTo_26 (by decide) ?_
    refine lv_goto (tgt := 31) hx hb dX6_bringsTo_27 (by decide) ?_
    exact ro_zret hx hb hr hlocks dX6_bringsTo_31 (by rw [brX, decide_eq_true c23]; rfl) rfl
set_option maxHeartbeats 4000000 in
set_option maxRecDepth 100000 in
/-- coveredBy -/
theorem c_X6_coveredBy (l : Launch) (G : EG) (o : Nat) (sa : Nat) (ia : Nat) (ka : Nat) (ea : Nat) (ca : Nat) (tr : Nat) (fi : Int32) (X : Nat → Nat) (hX0 : X 0 ≤ 8) (hX : ∀ k, k < X 0 → X (1 + k) < 23 ∧ X (9 + k) < 23) (a : Nat) (b : Nat) (d : Nat) (ha : a < 23) (hb0 : b < 23) (hd : d < 23) : RO l yX6_coveredBy wsX6_coveredBy (rmR 2 44) G [(o, .inr (5, [.ref sa, .ref ia, .ref ka, .ref ea, .int (nI tr), .int fi, .ref ca])), (sa, aI G 40 X)] [.ref o, .int (nI a), .int (nI b), .int (nI d)] (.int (nI (covX X a b d))) := by
  refine RO.start (by decide) rfl (Nat.le_of_ble_eq_true rfl) ?_
  intro p e s m below meth c hx hb hr hml hts hown hlocks hP hE ls hl
  have hown : s.vm.findClass RX6 = some m.cls := hown
  have hl : lv_has ls 5 [(0, .ref o), (1, .int (nI a)), (2, .int (nI b)), (3, .int (nI d))] := hl
  refine lv_iconst (v := nI 0) hx hb dX6_coveredBy_0 (by decide) ?_
  refine lv_istore (lv' := [(4, .int (nI 0)), (0, .ref o), (1, .int (nI a)), (2, .int (nI b)), (3, .int (nI d))]) hx hb dX6_coveredBy_1 hl (by decide) rfl (fun ls hl => ?_)
  have loop3 : ∀ (fuel : Nat) (k : Nat), (k ≤ X 0) → (covF X a b d (X 0 - k) = covX X a b d) → X 0 - k < fuel → ∀ ls : Array Slot, lv_has ls 5 [(4, .int (nI k)), (0, .ref o), (1, .int (nI a)), (2, .int (nI b)), (3, .int (nI d))] → W p l e (rmR 2 44) s m ([.ref o, .int (nI a), .int (nI b), .int (nI d)] : List Value).toArray below meth c s.heap [] 0 0 (MQ below (k2_QcV (.int (nI (covX X a b d)))) ([.ref o, .int (nI a), .int (nI b), .int (nI d)] : List Value).toArray s 0 0 (fun _ => False)) (F0 m 3 ls []) := by
    intro fuel
    induction fuel with
    | zero => intro k h1 h2 hf; exact absurd hf (Nat.not_lt_zero _)
    | succ fuel ih3 =>
      intro k h1 h2 hf ls hl
      refine lv_iload hx hb dX6_coveredBy_3 (lv_at hl 0 rfl) ?_
      refine lv_aload_n hx hb dX6_coveredBy_5 rfl (lv_at hl 1 rfl) ?_
      refine va_get (D := G.1) (ci := 5) (v := .ref sa) (C := RX6) (T := TX6) (N := 7) hx hb hts (fun w h => List.mem_cons_of_mem _ (List.mem_append_right _ h)) hown hE.1 hP 0 rfl rfl 0 (by decide) (hts (.fieldLink RX6 7 "TripleTrapModel" "state" "[I") (List.mem_of_getElem? (i := 1) rfl)) (fun _ h9 => h9) rfl dX6_coveredBy_6 ?_
      refine lv_iconst (v := nI 0) hx hb dX6_coveredBy_9 (by decide) ?_
      refine j_iald hx hb hE hP 1 rfl dX6_coveredBy_10 ?_
      refine j_icmp_ge (tgt := 50) hx hb dX6_coveredBy_11 (by decide) (fun c11 => ?_) (fun c11 => ?_)
      · skip
        refine lv_iload hx hb dX6_coveredBy_50 (lv_at hl 0 rfl) ?_
        exact ro_ret hx hb hr hlocks dX6_coveredBy_52 (by rw [← h2, show X 0 - k = 0 by omega, covF, show X 0 = k by omega])
      · skip
        refine lv_aload_n hx hb dX6_coveredBy_14 rfl (lv_at hl 1 rfl) ?_
        refine lv_iload hx hb dX6_coveredBy_15 (lv_at hl 0 rfl) ?_
        refine lv_iload_n hx hb dX6_coveredBy_17 rfl (lv_at hl 2 rfl) ?_
        refine ro_V 5 0 (rest := []) ⟨hx, hb, hml, hown, hts⟩ (c_X6_bringsTo l G o sa ia ka ea ca tr fi X k a (by omega) (tg_bd (by omega) (by have := hX k (by omega); omega) (by have := hX k (by omega); omega))) (cwV 2 hts gX6_coveredBy_X6_bringsTo rfl rfl rfl (by decide +kernel) ⟨Nat.le_of_ble_eq_true rfl, Nat.le_of_ble_eq_true rfl⟩) hE (hP.sub [0, 1] rfl) rfl rfl rfl hl.1 rfl (Nat.le_of_ble_eq_true rfl) dX6_coveredBy_18 ⟨Nat.zero_le _, Nat.zero_le _⟩ ?_
        refine j_bool (fun c18 => ?_) (fun c18 => ?_)
        · skip
          refine j_if_eq (tgt := 44) hx hb dX6_coveredBy_21 (by decide) (fun q => absurd q (by decide)) (fun _ => ?_)
          refine lv_aload_n hx hb dX6_coveredBy_24 rfl (lv_at hl 1 rfl) ?_
          refine lv_iload hx hb dX6_coveredBy_25 (lv_at hl 0 rfl) ?_
          refine lv_iload_n hx hb dX6_coveredBy_27 rfl (lv_at hl 3 rfl) ?_
          refine ro_V 5 0 (rest := []) ⟨hx, hb, hml, hown, hts⟩ (c_X6_bringsTo l G o sa ia ka ea ca tr fi X k b (by omega) (tg_bd (by omega) (by have := hX k (by omega); omega) (by have := hX k (by omega); omega))) (cwV 2 hts gX6_coveredBy_X6_bringsTo rfl rfl rfl (by decide +kernel) ⟨Nat.le_of_ble_eq_true rfl, Nat.le_of_ble_eq_true rfl⟩) hE (hP.sub [0, 1] rfl) rfl rfl rfl hl.1 rfl (Nat.le_of_ble_eq_true rfl) dX6_coveredBy_28 ⟨Nat.zero_le _, Nat.zero_le _⟩ ?_
          refine j_bool (fun c28 => ?_) (fun c28 => ?_)
          · skip
            refine j_if_eq (tgt := 44) hx hb dX6_coveredBy_31 (by decide) (fun q => absurd q (by decide)) (fun _ => ?_)
            refine lv_aload_n hx hb dX6_coveredBy_34 rfl (lv_at hl 1 rfl) ?_
            refine lv_iload hx hb dX6_coveredBy_35 (lv_at hl 0 rfl) ?_
            refine lv_iload_n hx hb dX6_coveredBy_37 rfl (lv_at hl 4 rfl) ?_
            refine ro_V 5 0 (rest := []) ⟨hx, hb, hml, hown, hts⟩ (c_X6_bringsTo l G o sa ia ka ea ca tr fi X k d (by omega) (tg_bd (by omega) (by have := hX k (by omega); omega) (by have := hX k (by omega); omega))) (cwV 2 hts gX6_coveredBy_X6_bringsTo rfl rfl rfl (by decide +kernel) ⟨Nat.le_of_ble_eq_true rfl, Nat.le_of_ble_eq_true rfl⟩) hE (hP.sub [0, 1] rfl) rfl rfl rfl hl.1 rfl (Nat.le_of_ble_eq_true rfl) dX6_coveredBy_38 ⟨Nat.zero_le _, Nat.zero_le _⟩ ?_
            refine j_bool (fun c38 => ?_) (fun c38 => ?_)
            · skip
              refine j_if_ne (tgt := 50) hx hb dX6_coveredBy_41 (by decide) (fun _ => ?_) (fun q => absurd q (by decide))
              refine lv_iload hx hb dX6_coveredBy_50 (lv_at hl 0 rfl) ?_
              exact ro_ret hx hb hr hlocks dX6_coveredBy_52 (by rw [← h2, show X 0 - k = (X 0 - k - 1) + 1 by omega, covF, show X 0 - (X 0 - k - 1 + 1) = k by omega, if_pos ⟨c18, c28, c38⟩])
            · skip
              refine j_if_ne (tgt := 50) hx hb dX6_coveredBy_41 (by decide) (fun q => absurd q (by decide)) (fun _ => ?_)
              obtain ⟨x44, ex44⟩ : ∃ y : Nat, y = k + 1 := ⟨_, rfl⟩
              refine lv_iinc (v := nI x44) (lv' := [(4, .int (nI x44)), (0, .ref o), (1, .int (nI a)), (2, .int (nI b)), (3, .int (nI d))]) hx hb dX6_coveredBy_44 hl (k := 0) rfl (by rw [ex44]; exact nI_add _ _) (by decide) rfl (fun ls hl => ?_)
              refine lv_goto (tgt := 3) hx hb dX6_coveredBy_47 (by decide) ?_
              exact ih3 x44 (by omega) (by rw [← h2, show X 0 - k = (X 0 - x44) + 1 by omega, covF, show X 0 - (X 0 - x44 + 1) = k by omega, if_neg (fun h => by rw [c38] at h; exact absurd h.2.2 (by decide))]) (by omega) ls (lv_sub hl [0, 1, 2, 3, 4] rfl)
          · skip
            refine j_if_eq (tgt := 44) hx hb dX6_coveredBy_31 (by decide) (fun _ => ?_) (fun q => absurd q (by decide))
            obtain ⟨x44, ex44⟩ : ∃ y : Nat, y = k + 1 := ⟨_, rfl⟩
            refine lv_iinc (v := nI x44) (lv' := [(4, .int (nI x44)), (0, .ref o), (1, .int (nI a)), (2, .int (nI b)), (3, .int (nI d))]) hx hb dX6_coveredBy_44 hl (k := 0) rfl (by rw [ex44]; exact nI_add _ _) (by decide) rfl (fun ls hl => ?_)
            refine lv_goto (tgt := 3) hx hb dX6_coveredBy_47 (by decide) ?_
            exact ih3 x44 (by omega) (by rw [← h2, show X 0 - k = (X 0 - x44) + 1 by omega, covF, show X 0 - (X 0 - x44 + 1) = k by omega, if_neg (fun h => by rw [c28] at h; exact absurd h.2.1 (by decide))]) (by omega) ls (lv_sub hl [0, 1, 2, 3, 4] rfl)
        · skip
          refine j_if_eq (tgt := 44) hx hb dX6_coveredBy_21 (by decide) (fun _ => ?_) (fun q => absurd q (by decide))
          obtain ⟨x44, ex44⟩ : ∃ y : Nat, y = k + 1 := ⟨_, rfl⟩
          refine lv_iinc (v := nI x44) (lv' := [(4, .int (nI x44)), (0, .ref o), (1, .int (nI a)), (2, .int (nI b)), (3, .int (nI d))]) hx hb dX6_coveredBy_44 hl (k := 0) rfl (by rw [ex44]; exact nI_add _ _) (by decide) rfl (fun ls hl => ?_)
          refine lv_goto (tgt := 3) hx hb dX6_coveredBy_47 (by decide) ?_
          exact ih3 x44 (by omega) (by rw [← h2, show X 0 - k = (X 0 - x44) + 1 by omega, covF, show X 0 - (X 0 - x44 + 1) = k by omega, if_neg (fun h => by rw [c18] at h; exact absurd h.1 (by decide))]) (by omega) ls (lv_sub hl [0, 1, 2, 3, 4] rfl)
  exact loop3 _ 0 (by omega) rfl (Nat.lt_succ_self _) ls (lv_sub hl [0, 1, 2, 3, 4] rfl)
set_option maxHeartbeats 4000000 in
set_option maxRecDepth 100000 in
/-- layTriples -/
theorem c_X6_layTriples (l : Launch) (G : EG) (o : Nat) (sa : Nat) (ia : Nat) (ka : Nat) (ea : Nat) (ca : Nat) (tr : Nat) (fi : Int32) (X : Nat → Nat) (hX0 : X 0 ≤ 8) (hX : ∀ k, k < X 0 → X (1 + k) < 23 ∧ X (9 + k) < 23) (mv : Nat) (hmv : mv ≤ 8) (sz : Nat) : WR l yX6_layTriples wsX6_layTriples (rmR 3 68) G sz [(o, .inr (5, [.ref sa, .ref ia, .ref ka, .ref ea, .int (nI tr), .int fi, .ref ca])), (sa, aI G 40 X)] [.ref o, .int (nI mv)] [(o, .inr (5, [.ref sa, .ref ia, .ref ka, .ref ea, .int (nI ((triA X mv).1)), .int ((triA X mv).2), .ref ca])), (sa, aI G 40 X)] none := by
  refine WR.start (by decide) rfl (Nat.le_of_ble_eq_true rfl) ?_
  intro p e s m below meth c hx hb hr hml hts hown hlocks hE A hA H locs hP hD hS ls hl
  have hown : s.vm.findClass RX6 = some m.cls := hown
  have hl : lv_has ls 5 [(0, .ref o), (1, .int (nI mv))] := hl
  refine lv_aload_n hx hb dX6_layTriples_0 rfl (lv_at hl 0 rfl) ?_
  refine lv_iconst (v := nI 0) hx hb dX6_layTriples_1 (by decide) ?_
  refine va_put (D := G.1) (ci := 5) (v := .int (nI 0)) (ty := .int) (C := RX6) (T := TX6) (N := 7) hx hb hts (fun w h => List.mem_cons_of_mem _ (List.mem_append_right _ h)) tyX6 tyX6_ok nmX6 hown hE.1 hP hD hS 0 rfl rfl 4 (by decide) (hts (.fieldLink RX6 87 "TripleTrapModel" "triples" "I") (List.mem_of_getElem? (i := 1) rfl)) (fun _ h9 => h9) rfl (by decide +kernel) rfl rfl (Nat.le_of_ble_eq_true rfl) dX6_layTriples_2 (fun H locs hP hD hS => ?_)
  have hP : va_P G.1 vwCl [(o, .inr (5, [.ref sa, .ref ia, .ref ka, .ref ea, .int (nI 0), .int fi, .ref ca])), (sa, aI G 40 X)] H := hP
  have hD : va_D A [(o, .inr (5, [.ref sa, .ref ia, .ref ka, .ref ea, .int (nI 0), .int fi, .ref ca])), (sa, aI G 40 X)] := hD
  refine lv_aload_n hx hb dX6_layTriples_5 rfl (lv_at hl 0 rfl) ?_
  refine lv_bipush (v := (-6)) hx hb dX6_layTriples_6 (by decide) ?_
  refine va_put (D := G.1) (ci := 5) (v := .int (-6)) (ty := .int) (C := RX6) (T := TX6) (N := 7) hx hb hts (fun w h => List.mem_cons_of_mem _ (List.mem_append_right _ h)) tyX6 tyX6_ok nmX6 hown hE.1 hP hD hS 0 rfl rfl 5 (by decide) (hts (.fieldLink RX6 91 "TripleTrapModel" "firstTriple" "I") (List.mem_of_getElem? (i := 2) rfl)) (fun _ h9 => h9) rfl (by decide +kernel) rfl rfl (Nat.le_of_ble_eq_true rfl) dX6_layTriples_8 (fun H locs hP hD hS => ?_)
  have hP : va_P G.1 vwCl [(o, .inr (5, [.ref sa, .ref ia, .ref ka, .ref ea, .int (nI 0), .int (-6), .ref ca])), (sa, aI G 40 X)] H := hP
  have hD : va_D A [(o, .inr (5, [.ref sa, .ref ia, .ref ka, .ref ea, .int (nI 0), .int (-6), .ref ca])), (sa, aI G 40 X)] := hD
  refine lv_iconst (v := nI 0) hx hb dX6_layTriples_11 (by decide) ?_
  refine lv_istore_n (lv' := [(2, .int (nI 0)), (0, .ref o), (1, .int (nI mv))]) hx hb dX6_layTriples_12 rfl hl (by decide) rfl (fun ls hl => ?_)
  have loop13 : ∀ (fuel : Nat) (a : Nat) (t : Nat) (f : Int32), (a ≤ 23) → (t ≤ 529 * a) → (triP X mv (23 - a) (t, f) = triA X mv) → 23 - a < fuel → ∀ (H : Heap) (locs : List Loc), va_P G.1 vwCl [(o, .inr (5, [.ref sa, .ref ia, .ref ka, .ref ea, .int (nI t), .int f, .ref ca])), (sa, aI G 40 X)] H → va_D A [(o, .inr (5, [.ref sa, .ref ia, .ref ka, .ref ea, .int (nI t), .int f, .ref ca])), (sa, aI G 40 X)] → va_S A s.heap H locs → ∀ ls : Array Slot, lv_has ls 5 [(2, .int (nI a)), (0, .ref o), (1, .int (nI mv))] → W p l e (rmR 3 68) s m ([.ref o, .int (nI mv)] : List Value).toArray below meth c H locs 0 0 (MQ below (postW G [(o, .inr (5, [.ref sa, .ref ia, .ref ka, .ref ea, .int (nI ((triA X mv).1)), .int ((triA X mv).2), .ref ca])), (sa, aI G 40 X)] none A) ([.ref o, .int (nI mv)] : List Value).toArray s 0 0 A) (F0 m 13 ls []) := by
    intro fuel
    induction fuel with
    | zero => intro a t f h1 h2 h3 hf; exact absurd hf (Nat.not_lt_zero _)
    | succ fuel ih13 =>
      intro a t f h1 h2 h3 hf H locs hP hD hS ls hl
      refine lv_iload_n hx hb dX6_layTriples_13 rfl (lv_at hl 0 rfl) ?_
      refine lv_bipush (v := nI 23) hx hb dX6_layTriples_14 (by decide) ?_
      refine j_icmp_ge (tgt := 112) hx hb dX6_layTriples_16 (by decide) (fun c16 => ?_) (fun c16 => ?_)
      · skip
        have e3 : (t, f) = triA X mv := by rw [← h3, show 23 - a = 0 by omega]; rfl
        have e4 : t = (triA X mv).1 := by rw [← e3]
        have e5 : f = (triA X mv).2 := by rw [← e3]
        rw [e4, e5] at hP hD
        exact wr_vret hx hb hr hlocks dX6_layTriples_112 hP hD hS
      · skip
        refine lv_iload_n hx hb dX6_layTriples_19 rfl (lv_at hl 0 rfl) ?_
        refine lv_iconst (v := nI 1) hx hb dX6_layTriples_20 (by decide) ?_
        refine j_add hx hb dX6_layTriples_21 ?_
        refine j_top (fun x22 ex22 => ?_)
        refine lv_istore_n (lv' := [(3, .int (nI x22)), (2, .int (nI a)), (0, .ref o), (1, .int (nI mv))]) hx hb dX6_layTriples_22 rfl hl (by decide) rfl (fun ls hl => ?_)
        have loop23 : ∀ (fuel : Nat) (b : Nat) (t1 : Nat) (f1 : Int32), (b ≤ 23) → (t1 ≤ 529 * a + 23 * b) → (triP X mv (22 - a) (triQ X mv a (23 - b) (t1, f1)) = triA X mv) → 23 - b < fuel → ∀ (H : Heap) (locs : List Loc), va_P G.1 vwCl [(o, .inr (5, [.ref sa, .ref ia, .ref ka, .ref ea, .int (nI t1), .int f1, .ref ca])), (sa, aI G 40 X)] H → va_D A [(o, .inr (5, [.ref sa, .ref ia, .ref ka, .ref ea, .int (nI t1), .int f1, .ref ca])), (sa, aI G 40 X)] → va_S A s.heap H locs → ∀ ls : Array Slot, lv_has ls 5 [(3, .int (nI b)), (2, .int (nI a)), (0, .ref o), (1, .int (nI mv))] → W p l e (rmR 3 68) s m ([.ref o, .int (nI mv)] : List Value).toArray below meth c H locs 0 0 (MQ below (postW G [(o, .inr (5, [.ref sa, .ref ia, .ref ka, .ref ea, .int (nI ((triA X mv).1)), .int ((triA X mv).2), .ref ca])), (sa, aI G 40 X)] none A) ([.ref o, .int (nI mv)] : List Value).toArray s 0 0 A) (F0 m 23 ls []) := by
          intro fuel
          induction fuel with
          | zero => intro b t1 f1 g1 g2 g3 hf; exact absurd hf (Nat.not_lt_zero _)
          | succ fuel ih23 =>
            intro b t1 f1 g1 g2 g3 hf H locs hP hD hS ls hl
            refine lv_iload_n hx hb dX6_layTriples_23 rfl (lv_at hl 0 rfl) ?_
            refine lv_bipush (v := nI 23) hx hb dX6_layTriples_24 (by decide) ?_
            refine j_icmp_ge (tgt := 106) hx hb dX6_layTriples_26 (by decide) (fun c26 => ?_) (fun c26 => ?_)
            · skip
              obtain ⟨x106, ex106⟩ : ∃ y : Nat, y = a + 1 := ⟨_, rfl⟩
              refine lv_iinc (v := nI x106) (lv' := [(2, .int (nI x106)), (3, .int (nI b)), (0, .ref o), (1, .int (nI mv))]) hx hb dX6_layTriples_106 hl (k := 1) rfl (by rw [ex106]; exact nI_add _ _) (by decide) rfl (fun ls hl => ?_)
              refine lv_goto (tgt := 13) hx hb dX6_layTriples_109 (by decide) ?_
              exact ih13 x106 t1 f1 (by omega) (by omega) (by rw [← g3, show 23 - b = 0 by omega, triQ, show 23 - x106 = 22 - a by omega]) (by omega) H locs hP hD hS ls (lv_sub hl [0, 2, 3] rfl)
            · skip
              refine lv_iload_n hx hb dX6_layTriples_29 rfl (lv_at hl 0 rfl) ?_
              refine lv_iconst (v := nI 1) hx hb dX6_layTriples_30 (by decide) ?_
              refine j_add hx hb dX6_layTriples_31 ?_
              refine j_top (fun x32 ex32 => ?_)
              refine lv_istore (lv' := [(4, .int (nI x32)), (3, .int (nI b)), (2, .int (nI a)), (0, .ref o), (1, .int (nI mv))]) hx hb dX6_layTriples_32 hl (by decide) rfl (fun ls hl => ?_)
              have loop34 : ∀ (fuel : Nat) (d : Nat) (t2 : Nat) (f2 : Int32), (d ≤ 23) → (t2 ≤ 529 * a + 23 * b + d) → (triP X mv (22 - a) (triQ X mv a (22 - b) (triR X mv a b (23 - d) (t2, f2))) = triA X mv) → 23 - d < fuel → ∀ (H : Heap) (locs : List Loc), va_P G.1 vwCl [(o, .inr (5, [.ref sa, .ref ia, .ref ka, .ref ea, .int (nI t2), .int f2, .ref ca])), (sa, aI G 40 X)] H → va_D A [(o, .inr (5, [.ref sa, .ref ia, .ref ka, .ref ea, .int (nI t2), .int f2, .ref ca])), (sa, aI G 40 X)] → va_S A s.heap H locs → ∀ ls : Array Slot, lv_has ls 5 [(4, .int (nI d)), (3, .int (nI b)), (2, .int (nI a)), (0, .ref o), (1, .int (nI mv))] → W p l e (rmR 3 68) s m ([.ref o, .int (nI mv)] : List Value).toArray below meth c H locs 0 0 (MQ below (postW G [(o, .inr (5, [.ref sa, .ref ia, .ref ka, .ref ea, .int (nI ((triA X mv).1)), .int ((triA X mv).2), .ref ca])), (sa, aI G 40 X)] none A) ([.ref o, .int (nI mv)] : List Value).toArray s 0 0 A) (F0 m 34 ls []) := by
                intro fuel
                induction fuel with
                | zero => intro d t2 f2 k1 k2 k3 hf; exact absurd hf (Nat.not_lt_zero _)
                | succ fuel ih34 =>
                  intro d t2 f2 k1 k2 k3 hf H locs hP hD hS ls hl
                  refine lv_iload hx hb dX6_layTriples_34 (lv_at hl 0 rfl) ?_
                  refine lv_bipush (v := nI 23) hx hb dX6_layTriples_36 (by decide) ?_
                  refine j_icmp_ge (tgt := 100) hx hb dX6_layTriples_38 (by decide) (fun c38 => ?_) (fun c38 => ?_)
                  · skip
                    obtain ⟨x100, ex100⟩ : ∃ y : Nat, y = b + 1 := ⟨_, rfl⟩
                    refine lv_iinc (v := nI x100) (lv' := [(3, .int (nI x100)), (4, .int (nI d)), (2, .int (nI a)), (0, .ref o), (1, .int (nI mv))]) hx hb dX6_layTriples_100 hl (k := 1) rfl (by rw [ex100]; exact nI_add _ _) (by decide) rfl (fun ls hl => ?_)
                    refine lv_goto (tgt := 23) hx hb dX6_layTriples_103 (by decide) ?_
                    exact ih23 x100 t2 f2 (by omega) (by omega) (by rw [← k3, show 23 - d = 0 by omega, triR, show 23 - x100 = 22 - b by omega]) (by omega) H locs hP hD hS ls (lv_sub hl [0, 2, 3, 4] rfl)
                  · skip
                    refine lv_aload_n hx hb dX6_layTriples_41 rfl (lv_at hl 3 rfl) ?_
                    refine lv_iload_n hx hb dX6_layTriples_42 rfl (lv_at hl 2 rfl) ?_
                    refine lv_iload_n hx hb dX6_layTriples_43 rfl (lv_at hl 1 rfl) ?_
                    refine lv_iload hx hb dX6_layTriples_44 (lv_at hl 0 rfl) ?_
                    refine ro_V 5 0 (rest := []) ⟨hx, hb, hml, hown, hts⟩ (c_X6_coveredBy l G o sa ia ka ea ca t2 f2 X hX0 hX a b d (by omega) (by omega) (by omega)) (cwV 3 hts gX6_layTriples_X6_coveredBy rfl rfl rfl (by decide +kernel) ⟨Nat.le_of_ble_eq_true rfl, Nat.le_of_ble_eq_true rfl⟩) hE (hP.sub [0, 1] rfl) rfl rfl rfl hl.1 rfl (Nat.le_of_ble_eq_true rfl) dX6_layTriples_46 ⟨Nat.zero_le _, Nat.zero_le _⟩ ?_
                    refine lv_iload_n hx hb dX6_layTriples_49 rfl (lv_at hl 4 rfl) ?_
                    refine j_icmp_ne (tgt := 94) hx hb dX6_layTriples_50 (by decide) (fun c50 => ?_) (fun c50 => ?_) (h1 := Nat.lt_of_le_of_lt (Nat.le_trans (covF_le _ _ _ _ _) hX0) (by decide)) (h2 := by omega)
                    · skip
                      obtain ⟨x94, ex94⟩ : ∃ y : Nat, y = d + 1 := ⟨_, rfl⟩
                      refine lv_iinc (v := nI x94) (lv' := [(4, .int (nI x94)), (3, .int (nI b)), (2, .int (nI a)), (0, .ref o), (1, .int (nI mv))]) hx hb dX6_layTriples_94 hl (k := 0) rfl (by rw [ex94]; exact nI_add _ _) (by decide) rfl (fun ls hl => ?_)
                      refine lv_goto (tgt := 34) hx hb dX6_layTriples_97 (by decide) ?_
                      exact ih34 x94 t2 f2 (by omega) (by omega) (by rw [← k3, show 23 - d = (23 - x94) + 1 by omega, triR, show 22 - (23 - x94) = d by omega, triS_n c50]) (by omega) H locs hP hD hS ls (lv_sub hl [0, 1, 2, 3, 4] rfl)
                    · skip
                      refine lv_aload_n hx hb dX6_layTriples_53 rfl (lv_at hl 3 rfl) ?_
                      refine lv_aload_n hx hb dX6_layTriples_54 rfl (lv_at hl 3 rfl) ?_
                      refine va_get (D := G.1) (ci := 5) (v := .int (nI t2)) (C := RX6) (T := TX6) (N := 7) hx hb hts (fun w h => List.mem_cons_of_mem _ (List.mem_append_right _ h)) hown hE.1 hP 0 rfl rfl 4 (by decide) (hts (.fieldLink RX6 87 "TripleTrapModel" "triples" "I") (List.mem_of_getElem? (i := 1) rfl)) (fun _ h9 => h9) rfl dX6_layTriples_55 ?_
                      refine j_if_ne (tgt := 77) hx hb dX6_layTriples_58 (by decide) (fun c58 => ?_) (fun c58 => ?_)
                      · skip
                        refine lv_aload_n hx hb dX6_layTriples_77 rfl (lv_at hl 3 rfl) ?_
                        refine va_get (D := G.1) (ci := 5) (v := .int f2) (C := RX6) (T := TX6) (N := 7) hx hb hts (fun w h => List.mem_cons_of_mem _ (List.mem_append_right _ h)) hown hE.1 hP 0 rfl rfl 5 (by decide) (hts (.fieldLink RX6 91 "TripleTrapModel" "firstTriple" "I") (List.mem_of_getElem? (i := 2) rfl)) (fun _ h9 => h9) rfl dX6_layTriples_78 ?_
                        refine va_put (D := G.1) (ci := 5) (v := .int f2) (ty := .int) (C := RX6) (T := TX6) (N := 7) hx hb hts (fun w h => List.mem_cons_of_mem _ (List.mem_append_right _ h)) tyX6 tyX6_ok nmX6 hown hE.1 hP hD hS 0 rfl rfl 5 (by decide) (hts (.fieldLink RX6 91 "TripleTrapModel" "firstTriple" "I") (List.mem_of_getElem? (i := 2) rfl)) (fun _ h9 => h9) rfl (by decide +kernel) rfl rfl (Nat.le_of_ble_eq_true rfl) dX6_layTriples_81 (fun H locs hP hD hS => ?_)
                        have hP : va_P G.1 vwCl [(o, .inr (5, [.ref sa, .ref ia, .ref ka, .ref ea, .int (nI t2), .int f2, .ref ca])), (sa, aI G 40 X)] H := hP
                        have hD : va_D A [(o, .inr (5, [.ref sa, .ref ia, .ref ka, .ref ea, .int (nI t2), .int f2, .ref ca])), (sa, aI G 40 X)] := hD
                        refine lv_aload_n hx hb dX6_layTriples_84 rfl (lv_at hl 3 rfl) ?_
                        refine lv_dup hx hb dX6_layTriples_85 rfl ?_
                        refine va_get (D := G.1) (ci := 5) (v := .int (nI t2)) (C := RX6) (T := TX6) (N := 7) hx hb hts (fun w h => List.mem_cons_of_mem _ (List.mem_append_right _ h)) hown hE.1 hP 0 rfl rfl 4 (by decide) (hts (.fieldLink RX6 87 "TripleTrapModel" "triples" "I") (List.mem_of_getElem? (i := 1) rfl)) (fun _ h9 => h9) rfl dX6_layTriples_86 ?_
                        refine lv_iconst (v := nI 1) hx hb dX6_layTriples_89 (by decide) ?_
                        refine j_add hx hb dX6_layTriples_90 ?_
                        refine j_top (fun x91 ex91 => ?_)
                        refine va_put (D := G.1) (ci := 5) (v := .int (nI x91)) (ty := .int) (C := RX6) (T := TX6) (N := 7) hx hb hts (fun w h => List.mem_cons_of_mem _ (List.mem_append_right _ h)) tyX6 tyX6_ok nmX6 hown hE.1 hP hD hS 0 rfl rfl 4 (by decide) (hts (.fieldLink RX6 87 "TripleTrapModel" "triples" "I") (List.mem_of_getElem? (i := 1) rfl)) (fun _ h9 => h9) rfl (by decide +kernel) rfl rfl (Nat.le_of_ble_eq_true rfl) dX6_layTriples_91 (fun H locs hP hD hS => ?_)
                        have hP : va_P G.1 vwCl [(o, .inr (5, [.ref sa, .ref ia, .ref ka, .ref ea, .int (nI x91), .int f2, .ref ca])), (sa, aI G 40 X)] H := hP
                        have hD : va_D A [(o, .inr (5, [.ref sa, .ref ia, .ref ka, .ref ea, .int (nI x91), .int f2, .ref ca])), (sa, aI G 40 X)] := hD
                        obtain ⟨x94, ex94⟩ : ∃ y : Nat, y = d + 1 := ⟨_, rfl⟩
                        refine lv_iinc (v := nI x94) (lv' := [(4, .int (nI x94)), (3, .int (nI b)), (2, .int (nI a)), (0, .ref o), (1, .int (nI mv))]) hx hb dX6_layTriples_94 hl (k := 0) rfl (by rw [ex94]; exact nI_add _ _) (by decide) rfl (fun ls hl => ?_)
                        refine lv_goto (tgt := 34) hx hb dX6_layTriples_97 (by decide) ?_
                        exact ih34 x94 x91 f2 (by omega) (by omega) (by rw [← k3, show 23 - d = (23 - x94) + 1 by omega, triR, show 22 - (23 - x94) = d by omega, triS_1 c50 c58, ex91]) (by omega) H locs hP hD hS ls (lv_sub hl [0, 1, 2, 3, 4] rfl)
                      · skip
                        refine lv_sipush (v := nI 529) hx hb dX6_layTriples_61 (by decide) ?_
                        refine lv_iload_n hx hb dX6_layTriples_64 rfl (lv_at hl 2 rfl) ?_
                        refine j_mul hx hb dX6_layTriples_65 ?_
                        refine lv_bipush (v := nI 23) hx hb dX6_layTriples_66 (by decide) ?_
                        refine lv_iload_n hx hb dX6_layTriples_68 rfl (lv_at hl 1 rfl) ?_
                        refine j_mul hx hb dX6_layTriples_69 ?_
                        refine j_add hx hb dX6_layTriples_70 ?_
                        refine lv_iload hx hb dX6_layTriples_71 (lv_at hl 0 rfl) ?_
                        refine j_add hx hb dX6_layTriples_73 ?_
                        refine lv_goto (tgt := 81) hx hb dX6_layTriples_74 (by decide) ?_
                        refine j_top (fun x81 ex81 => ?_)
                        refine va_put (D := G.1) (ci := 5) (v := .int (nI x81)) (ty := .int) (C := RX6) (T := TX6) (N := 7) hx hb hts (fun w h => List.mem_cons_of_mem _ (List.mem_append_right _ h)) tyX6 tyX6_ok nmX6 hown hE.1 hP hD hS 0 rfl rfl 5 (by decide) (hts (.fieldLink RX6 91 "TripleTrapModel" "firstTriple" "I") (List.mem_of_getElem? (i := 2) rfl)) (fun _ h9 => h9) rfl (by decide +kernel) rfl rfl (Nat.le_of_ble_eq_true rfl) dX6_layTriples_81 (fun H locs hP hD hS => ?_)
                        have hP : va_P G.1 vwCl [(o, .inr (5, [.ref sa, .ref ia, .ref ka, .ref ea, .int (nI t2), .int (nI x81), .ref ca])), (sa, aI G 40 X)] H := hP
                        have hD : va_D A [(o, .inr (5, [.ref sa, .ref ia, .ref ka, .ref ea, .int (nI t2), .int (nI x81), .ref ca])), (sa, aI G 40 X)] := hD
                        refine lv_aload_n hx hb dX6_layTriples_84 rfl (lv_at hl 3 rfl) ?_
                        refine lv_dup hx hb dX6_layTriples_85 rfl ?_
                        refine va_get (D := G.1) (ci := 5) (v := .int (nI t2)) (C := RX6) (T := TX6) (N := 7) hx hb hts (fun w h => List.mem_cons_of_mem _ (List.mem_append_right _ h)) hown hE.1 hP 0 rfl rfl 4 (by decide) (hts (.fieldLink RX6 87 "TripleTrapModel" "triples" "I") (List.mem_of_getElem? (i := 1) rfl)) (fun _ h9 => h9) rfl dX6_layTriples_86 ?_
                        refine lv_iconst (v := nI 1) hx hb dX6_layTriples_89 (by decide) ?_
                        refine j_add hx hb dX6_layTriples_90 ?_
                        refine j_top (fun x91 ex91 => ?_)
                        refine va_put (D := G.1) (ci := 5) (v := .int (nI x91)) (ty := .int) (C := RX6) (T := TX6) (N := 7) hx hb hts (fun w h => List.mem_cons_of_mem _ (List.mem_append_right _ h)) tyX6 tyX6_ok nmX6 hown hE.1 hP hD hS 0 rfl rfl 4 (by decide) (hts (.fieldLink RX6 87 "TripleTrapModel" "triples" "I") (List.mem_of_getElem? (i := 1) rfl)) (fun _ h9 => h9) rfl (by decide +kernel) rfl rfl (Nat.le_of_ble_eq_true rfl) dX6_layTriples_91 (fun H locs hP hD hS => ?_)
                        have hP : va_P G.1 vwCl [(o, .inr (5, [.ref sa, .ref ia, .ref ka, .ref ea, .int (nI x91), .int (nI x81), .ref ca])), (sa, aI G 40 X)] H := hP
                        have hD : va_D A [(o, .inr (5, [.ref sa, .ref ia, .ref ka, .ref ea, .int (nI x91), .int (nI x81), .ref ca])), (sa, aI G 40 X)] := hD
                        obtain ⟨x94, ex94⟩ : ∃ y : Nat, y = d + 1 := ⟨_, rfl⟩
                        refine lv_iinc (v := nI x94) (lv' := [(4, .int (nI x94)), (3, .int (nI b)), (2, .int (nI a)), (0, .ref o), (1, .int (nI mv))]) hx hb dX6_layTriples_94 hl (k := 0) rfl (by rw [ex94]; exact nI_add _ _) (by decide) rfl (fun ls hl => ?_)
                        refine lv_goto (tgt := 34) hx hb dX6_layTriples_97 (by decide) ?_
                        exact ih34 x94 x91 (nI x81) (by omega) (by omega) (by rw [← k3, show 23 - d = (23 - x94) + 1 by omega, triR, show 22 - (23 - x94) = d by omega, triS_0 c50 c58, ex91, ex81]) (by omega) H locs hP hD hS ls (lv_sub hl [0, 1, 2, 3, 4] rfl)
              exact loop34 _ x32 t1 f1 (by omega) (by omega) (by rw [← g3, show 23 - b = (22 - b) + 1 by omega, triQ, show 22 - (22 - b) = b by omega, show 23 - x32 = 22 - b by omega]) (Nat.lt_succ_self _) H locs hP hD hS ls (lv_sub hl [0, 1, 2, 3, 4] rfl)
        exact loop23 _ x22 t f (by omega) (by omega) (by rw [← h3, show 23 - a = (22 - a) + 1 by omega, triP, show 22 - (22 - a) = a by omega, show 23 - x22 = 22 - a by omega]) (Nat.lt_succ_self _) H locs hP hD hS ls (lv_sub hl [0, 1, 2, 3] rfl)
  exact loop13 _ 0 0 (-6) (by omega) (by omega) rfl (Nat.lt_succ_self _) H locs hP hD hS ls (lv_sub hl [0, 1, 2] rfl)
set_option maxHeartbeats 4000000 in
set_option maxRecDepth 100000 in
/-- told -/
theorem c_X6_told (l : Launch) (G : EG) (o : Nat) (sa : Nat) (ia : Nat) (ka : Nat) (ea : Nat) (ca : Nat) (tr : Nat) (fi : Int32) (X : Nat → Nat) (hX0 : X 0 ≤ 8) (hX : ∀ k, k < X 0 → X (1 + k) < 23 ∧ X (9 + k) < 23) (x : Int32) (y : Int32) (sz : Nat) : WR l yX6_told wsX6_told (rmR 4 92) G sz [(o, .inr (5, [.ref sa, .ref ia, .ref ka, .ref ea, .int (nI tr), .int fi, .ref ca])), (sa, aI G 40 X)] [.ref o, .int x, .int y] [(o, .inr (5, [.ref sa, .ref ia, .ref ka, .ref ea, .int (nI (mToldT X x y tr)), .int (mToldF X x y fi), .ref ca])), (sa, aI G 40 X)] (some (.int (mToldR X x y))) := by
  refine WR.start (by decide) rfl (Nat.le_of_ble_eq_true rfl) ?_
  intro p e s m below meth c hx hb hr hml hts hown hlocks hE A hA H locs hP hD hS ls hl
  have hown : s.vm.findClass RX6 = some m.cls := hown
  have hl : lv_has ls 3 [(0, .ref o), (1, .int x), (2, .int y)] := hl
  refine lv_aload_n hx hb dX6_told_0 rfl (lv_at hl 0 rfl) ?_
  refine lv_iload_n hx hb dX6_told_1 rfl (lv_at hl 1 rfl) ?_
  refine ro_V 5 0 (rest := []) ⟨hx, hb, hml, hown, hts⟩ (c_X6_isThere l G o sa ia ka ea ca tr fi X hX0 x) (cwV 1 hts gX6_told_X6_isThere rfl rfl rfl (by decide +kernel) ⟨Nat.le_of_ble_eq_true rfl, Nat.le_of_ble_eq_true rfl⟩) hE (hP.sub [0, 1] rfl) rfl rfl rfl hl.1 rfl (Nat.le_of_ble_eq_true rfl) dX6_told_2 ⟨Nat.zero_le _, Nat.zero_le _⟩ ?_
  refine j_bool (fun c2 => ?_) (fun c2 => ?_)
  · skip
    obtain ⟨d, hd, rfl⟩ := blw_ex c2 (by omega)
    refine j_if_ne (tgt := 10) hx hb dX6_told_5 (by decide) (fun _ => ?_) (fun q => absurd q (by decide))
    refine lv_iload_n hx hb dX6_told_10 rfl (lv_at hl 2 rfl) ?_
    refine lv_iconst (v := nI 0) hx hb dX6_told_11 (by decide) ?_
    refine lv_iconst (v := nI 2) hx hb dX6_told_12 (by decide) ?_
    refine ro_S (rest := []) ⟨hx, hb, hml, hown, hts⟩ (c_X6_in l G y (nI 0) (nI 2)) (va_cwS 3 hts gX6_told_X6_in rfl rfl rfl (by decide +kernel) ⟨Nat.le_of_ble_eq_true rfl, Nat.le_of_ble_eq_true rfl⟩) hE (hP.sub [] rfl) rfl hl.1 rfl (Nat.le_of_ble_eq_true rfl) dX6_told_13 ⟨Nat.zero_le _, Nat.zero_le _⟩ ?_
    refine j_bool (fun c13 => ?_) (fun c13 => ?_)
    · skip
      obtain ⟨j, hj, rfl⟩ := inI_ex (N := 2) rfl c13 (by decide)
      refine j_if_ne (tgt := 22) hx hb dX6_told_16 (by decide) (fun _ => ?_) (fun q => absurd q (by decide))
      refine lv_aload_n hx hb dX6_told_22 rfl (lv_at hl 0 rfl) ?_
      refine lv_iload_n hx hb dX6_told_23 rfl (lv_at hl 1 rfl) ?_
      refine wr_V 5 0 (rest := []) (wr := []) ⟨hx, hb, hml, hown, hts⟩ (c_X6_layTriples l G o sa ia ka ea ca tr fi X hX0 hX d (by omega) H.size) (cwV 1 hts gX6_told_X6_layTriples rfl rfl rfl (by decide +kernel) ⟨Nat.le_of_ble_eq_true rfl, Nat.le_of_ble_eq_true rfl⟩) hE hP hD hS hA [0, 1] [] rfl rfl (by decide) (by decide) (by decide) rfl rfl rfl hl.1 rfl (Nat.le_of_ble_eq_true rfl) dX6_told_24 ⟨Nat.zero_le _, Nat.zero_le _⟩ (fun H locs hP hD hS => ?_)
      have hP : va_P G.1 vwCl [(o, .inr (5, [.ref sa, .ref ia, .ref ka, .ref ea, .int (nI ((triA X d).1)), .int ((triA X d).2), .ref ca])), (sa, aI G 40 X)] H := hP.sub [0, 1] rfl
      have hD : va_D A [(o, .inr (5, [.ref sa, .ref ia, .ref ka, .ref ea, .int (nI ((triA X d).1)), .int ((triA X d).2), .ref ca])), (sa, aI G 40 X)] := hD.sub [0, 1] (by decide) rfl
      refine lv_iload_n hx hb dX6_told_27 rfl (lv_at hl 2 rfl) ?_
      refine j_if_ne (tgt := 42) hx hb dX6_told_28 (by decide) (fun c28 => ?_) (fun c28 => ?_)
      · skip
        refine lv_iload_n hx hb dX6_told_42 rfl (lv_at hl 2 rfl) ?_
        refine lv_iconst (v := nI 1) hx hb dX6_told_43 (by decide) ?_
        refine j_icmp_ne (tgt := 59) hx hb dX6_told_44 (by decide) (fun c44 => ?_) (fun c44 => ?_)
        · skip
          refine lv_aload_n hx hb dX6_told_59 rfl (lv_at hl 0 rfl) ?_
          refine va_get (D := G.1) (ci := 5) (v := .int (nI ((triA X d).1))) (C := RX6) (T := TX6) (N := 7) hx hb hts (fun w h => List.mem_cons_of_mem _ (List.mem_append_right _ h)) hown hE.1 hP 0 rfl rfl 4 (by decide) (hts (.fieldLink RX6 87 "TripleTrapModel" "triples" "I") (List.mem_of_getElem? (i := 2) rfl)) (fun _ h9 => h9) rfl dX6_told_60 ?_
          have eF : (.int (nI ((triA X d).1)) : Value) = Value.int (nI (mToldT X (nI d) (nI j) tr)) := by rw [mToldT, if_pos ⟨c2, blw_j hj (by decide)⟩, cl_nI hd (by omega)]
          rw [eF] at hP hD
          clear eF
          have eF : (.int ((triA X d).2) : Value) = Value.int (mToldF X (nI d) (nI j) fi) := by rw [mToldF, if_pos ⟨c2, blw_j hj (by decide)⟩, cl_nI hd (by omega)]
          rw [eF] at hP hD
          clear eF
          exact wr_ret hx hb hr hlocks dX6_told_63 hP hD hS (by rw [mToldR, if_pos c2, if_pos (blw_j hj (by decide)), cl_nI hd (by omega), cl_nI hj (by decide), if_neg c28, if_neg c44])
        · skip
          refine lv_aload_n hx hb dX6_told_47 rfl (lv_at hl 0 rfl) ?_
          refine va_get (D := G.1) (ci := 5) (v := .ref sa) (C := RX6) (T := TX6) (N := 7) hx hb hts (fun w h => List.mem_cons_of_mem _ (List.mem_append_right _ h)) hown hE.1 hP 0 rfl rfl 0 (by decide) (hts (.fieldLink RX6 7 "TripleTrapModel" "state" "[I") (List.mem_of_getElem? (i := 1) rfl)) (fun _ h9 => h9) rfl dX6_told_48 ?_
          refine lv_bipush (v := nI 9) hx hb dX6_told_51 (by decide) ?_
          refine lv_iload_n hx hb dX6_told_53 rfl (lv_at hl 1 rfl) ?_
          refine j_add hx hb dX6_told_54 ?_
          refine j_iald hx hb hE hP 1 rfl dX6_told_55 ?_
          refine lv_goto (tgt := 63) hx hb dX6_told_56 (by decide) ?_
          have eF : (.int (nI ((triA X d).1)) : Value) = Value.int (nI (mToldT X (nI d) (nI j) tr)) := by rw [mToldT, if_pos ⟨c2, blw_j hj (by decide)⟩, cl_nI hd (by omega)]
          rw [eF] at hP hD
          clear eF
          have eF : (.int ((triA X d).2) : Value) = Value.int (mToldF X (nI d) (nI j) fi) := by rw [mToldF, if_pos ⟨c2, blw_j hj (by decide)⟩, cl_nI hd (by omega)]
          rw [eF] at hP hD
          clear eF
          exact wr_ret hx hb hr hlocks dX6_told_63 hP hD hS (by rw [mToldR, if_pos c2, if_pos (blw_j hj (by decide)), cl_nI hd (by omega), cl_nI hj (by decide), if_neg c28, if_pos c44])
      · skip
        refine lv_aload_n hx hb dX6_told_31 rfl (lv_at hl 0 rfl) ?_
        refine va_get (D := G.1) (ci := 5) (v := .ref sa) (C := RX6) (T := TX6) (N := 7) hx hb hts (fun w h => List.mem_cons_of_mem _ (List.mem_append_right _ h)) hown hE.1 hP 0 rfl rfl 0 (by decide) (hts (.fieldLink RX6 7 "TripleTrapModel" "state" "[I") (List.mem_of_getElem? (i := 1) rfl)) (fun _ h9 => h9) rfl dX6_told_32 ?_
        refine lv_iconst (v := nI 1) hx hb dX6_told_35 (by decide) ?_
        refine lv_iload_n hx hb dX6_told_36 rfl (lv_at hl 1 rfl) ?_
        refine j_add hx hb dX6_told_37 ?_
        refine j_iald hx hb hE hP 1 rfl dX6_told_38 ?_
        refine lv_goto (tgt := 63) hx hb dX6_told_39 (by decide) ?_
        have eF : (.int (nI ((triA X d).1)) : Value) = Value.int (nI (mToldT X (nI d) (nI j) tr)) := by rw [mToldT, if_pos ⟨c2, blw_j hj (by decide)⟩, cl_nI hd (by omega)]
        rw [eF] at hP hD
        clear eF
        have eF : (.int ((triA X d).2) : Value) = Value.int (mToldF X (nI d) (nI j) fi) := by rw [mToldF, if_pos ⟨c2, blw_j hj (by decide)⟩, cl_nI hd (by omega)]
        rw [eF] at hP hD
        clear eF
        exact wr_ret hx hb hr hlocks dX6_told_63 hP hD hS (by rw [mToldR, if_pos c2, if_pos (blw_j hj (by decide)), cl_nI hd (by omega), cl_nI hj (by decide), if_pos c28])
    · skip
      refine j_if_ne (tgt := 22) hx hb dX6_told_16 (by decide) (fun q => absurd q (by decide)) (fun _ => ?_)
      refine lv_bipush (v := (-2)) hx hb dX6_told_19 (by decide) ?_
      have eF : (.int (nI tr) : Value) = Value.int (nI (mToldT X (nI d) y tr)) := by rw [mToldT, if_neg (fun h => by rw [← inI_blw y (N := 3) (by decide) (by decide), show nI (3 - 1) = nI 2 from rfl, c13] at h; exact absurd h.2 (by decide))]
      rw [eF] at hP hD
      clear eF
      have eF : (.int fi : Value) = Value.int (mToldF X (nI d) y fi) := by rw [mToldF, if_neg (fun h => by rw [← inI_blw y (N := 3) (by decide) (by decide), show nI (3 - 1) = nI 2 from rfl, c13] at h; exact absurd h.2 (by decide))]
      rw [eF] at hP hD
      clear eF
      exact wr_ret hx hb hr hlocks dX6_told_21 hP hD hS (by rw [mToldR, if_pos c2, if_neg (fun h => by rw [← inI_blw y (N := 3) (by decide) (by decide), show nI (3 - 1) = nI 2 from rfl, c13] at h; exact absurd h (by decide))])
  · skip
    refine j_if_ne (tgt := 10) hx hb dX6_told_5 (by decide) (fun q => absurd q (by decide)) (fun _ => ?_)
    refine lv_iconst (v := (-1)) hx hb dX6_told_8 (by decide) ?_
    have eF : (.int (nI tr) : Value) = Value.int (nI (mToldT X x y tr)) := by rw [mToldT, if_neg (fun h => by rw [c2] at h; exact absurd h.1 (by decide))]
    rw [eF] at hP hD
    clear eF
    have eF : (.int fi : Value) = Value.int (mToldF X x y fi) := by rw [mToldF, if_neg (fun h => by rw [c2] at h; exact absurd h.1 (by decide))]
    rw [eF] at hP hD
    clear eF
    exact wr_ret hx hb hr hlocks dX6_told_9 hP hD hS (by rw [mToldR, if_neg (by rw [c2]; decide)])
set_option maxHeartbeats 4000000 in
set_option maxRecDepth 100000 in
/-- open -/
theorem c_X6_open (l : Launch) (G : EG) (o : Nat) (sa : Nat) (ia : Nat) (ka : Nat) (ea : Nat) (ca : Nat) (tr : Nat) (fi : Int32) (X : Nat → Nat) (hX0 : X 0 ≤ 8) (hX : ∀ k, k < X 0 → X (1 + k) < 23 ∧ X (9 + k) < 23) (x : Int32) (sz : Nat) : WR l yX6_open wsX6_open (rmR 4 92) G sz [(o, .inr (5, [.ref sa, .ref ia, .ref ka, .ref ea, .int (nI tr), .int fi, .ref ca])), (sa, aI G 40 X)] [.ref o, .int x] [(o, .inr (5, [.ref sa, .ref ia, .ref ka, .ref ea, .int (nI (mOpenT X x tr)), .int (mOpenF X x fi), .ref ca])), (sa, aI G 40 X)] (some (.int (mOpenR X x))) := by
  refine WR.start (by decide) rfl (Nat.le_of_ble_eq_true rfl) ?_
  intro p e s m below meth c hx hb hr hml hts hown hlocks hE A hA H locs hP hD hS ls hl
  have hown : s.vm.findClass RX6 = some m.cls := hown
  have hl : lv_has ls 2 [(0, .ref o), (1, .int x)] := hl
  refine lv_iload_n hx hb dX6_open_0 rfl (lv_at hl 1 rfl) ?_
  refine lv_iconst (v := nI 0) hx hb dX6_open_1 (by decide) ?_
  refine lv_iconst (v := nI 1) hx hb dX6_open_2 (by decide) ?_
  refine ro_S (rest := []) ⟨hx, hb, hml, hown, hts⟩ (c_X6_in l G x (nI 0) (nI 1)) (va_cwS 3 hts gX6_open_X6_in rfl rfl rfl (by decide +kernel) ⟨Nat.le_of_ble_eq_true rfl, Nat.le_of_ble_eq_true rfl⟩) hE (hP.sub [] rfl) rfl hl.1 rfl (Nat.le_of_ble_eq_true rfl) dX6_open_3 ⟨Nat.zero_le _, Nat.zero_le _⟩ ?_
  refine j_bool (fun c3 => ?_) (fun c3 => ?_)
  · skip
    obtain ⟨j, hj, rfl⟩ := inI_ex (N := 1) rfl c3 (by decide)
    refine j_if_ne (tgt := 12) hx hb dX6_open_6 (by decide) (fun _ => ?_) (fun q => absurd q (by decide))
    refine lv_aload_n hx hb dX6_open_12 rfl (lv_at hl 0 rfl) ?_
    refine lv_aload_n hx hb dX6_open_13 rfl (lv_at hl 0 rfl) ?_
    refine va_get (D := G.1) (ci := 5) (v := .ref sa) (C := RX6) (T := TX6) (N := 7) hx hb hts (fun w h => List.mem_cons_of_mem _ (List.mem_append_right _ h)) hown hE.1 hP 0 rfl rfl 0 (by decide) (hts (.fieldLink RX6 7 "TripleTrapModel" "state" "[I") (List.mem_of_getElem? (i := 1) rfl)) (fun _ h9 => h9) rfl dX6_open_14 ?_
    refine lv_iconst (v := nI 0) hx hb dX6_open_17 (by decide) ?_
    refine j_iald hx hb hE hP 1 rfl dX6_open_18 ?_
    refine wr_V 5 0 (rest := []) (wr := []) ⟨hx, hb, hml, hown, hts⟩ (c_X6_layTriples l G o sa ia ka ea ca tr fi X hX0 hX (X 0) (by omega) H.size) (cwV 1 hts gX6_open_X6_layTriples rfl rfl rfl (by decide +kernel) ⟨Nat.le_of_ble_eq_true rfl, Nat.le_of_ble_eq_true rfl⟩) hE hP hD hS hA [0, 1] [] rfl rfl (by decide) (by decide) (by decide) rfl rfl rfl hl.1 rfl (Nat.le_of_ble_eq_true rfl) dX6_open_19 ⟨Nat.zero_le _, Nat.zero_le _⟩ (fun H locs hP hD hS => ?_)
    have hP : va_P G.1 vwCl [(o, .inr (5, [.ref sa, .ref ia, .ref ka, .ref ea, .int (nI ((triA X (X 0)).1)), .int ((triA X (X 0)).2), .ref ca])), (sa, aI G 40 X)] H := hP.sub [0, 1] rfl
    have hD : va_D A [(o, .inr (5, [.ref sa, .ref ia, .ref ka, .ref ea, .int (nI ((triA X (X 0)).1)), .int ((triA X (X 0)).2), .ref ca])), (sa, aI G 40 X)] := hD.sub [0, 1] (by decide) rfl
    refine lv_iload_n hx hb dX6_open_22 rfl (lv_at hl 1 rfl) ?_
    refine j_if_ne (tgt := 33) hx hb dX6_open_23 (by decide) (fun c23 => ?_) (fun c23 => ?_)
    · skip
      refine lv_aload_n hx hb dX6_open_33 rfl (lv_at hl 0 rfl) ?_
      refine va_get (D := G.1) (ci := 5) (v := .int ((triA X (X 0)).2)) (C := RX6) (T := TX6) (N := 7) hx hb hts (fun w h => List.mem_cons_of_mem _ (List.mem_append_right _ h)) hown hE.1 hP 0 rfl rfl 5 (by decide) (hts (.fieldLink RX6 91 "TripleTrapModel" "firstTriple" "I") (List.mem_of_getElem? (i := 3) rfl)) (fun _ h9 => h9) rfl dX6_open_34 ?_
      have eF : (.int (nI ((triA X (X 0)).1)) : Value) = Value.int (nI (mOpenT X (nI j) tr)) := by rw [mOpenT, if_pos (blw_j hj (by decide))]
      rw [eF] at hP hD
      clear eF
      have eF : (.int ((triA X (X 0)).2) : Value) = Value.int (mOpenF X (nI j) fi) := by rw [mOpenF, if_pos (blw_j hj (by decide))]
      rw [eF] at hP hD
      clear eF
      exact wr_ret hx hb hr hlocks dX6_open_37 hP hD hS (by rw [mOpenR, if_pos (blw_j hj (by decide)), cl_nI hj (by decide), if_neg c23])
    · skip
      refine lv_aload_n hx hb dX6_open_26 rfl (lv_at hl 0 rfl) ?_
      refine va_get (D := G.1) (ci := 5) (v := .int (nI ((triA X (X 0)).1))) (C := RX6) (T := TX6) (N := 7) hx hb hts (fun w h => List.mem_cons_of_mem _ (List.mem_append_right _ h)) hown hE.1 hP 0 rfl rfl 4 (by decide) (hts (.fieldLink RX6 87 "TripleTrapModel" "triples" "I") (List.mem_of_getElem? (i := 2) rfl)) (fun _ h9 => h9) rfl dX6_open_27 ?_
      refine lv_goto (tgt := 37) hx hb dX6_open_30 (by decide) ?_
      have eF : (.int (nI ((triA X (X 0)).1)) : Value) = Value.int (nI (mOpenT X (nI j) tr)) := by rw [mOpenT, if_pos (blw_j hj (by decide))]
      rw [eF] at hP hD
      clear eF
      have eF : (.int ((triA X (X 0)).2) : Value) = Value.int (mOpenF X (nI j) fi) := by rw [mOpenF, if_pos (blw_j hj (by decide))]
      rw [eF] at hP hD
      clear eF
      exact wr_ret hx hb hr hlocks dX6_open_37 hP hD hS (by rw [mOpenR, if_pos (blw_j hj (by decide)), cl_nI hj (by decide), if_pos c23])
  · skip
    refine j_if_ne (tgt := 12) hx hb dX6_open_6 (by decide) (fun q => absurd q (by decide)) (fun _ => ?_)
    refine lv_bipush (v := (-2)) hx hb dX6_open_9 (by decide) ?_
    have eF : (.int (nI tr) : Value) = Value.int (nI (mOpenT X x tr)) := by rw [mOpenT, if_neg (fun h => by rw [← inI_blw x (N := 2) (by decide) (by decide), show nI (2 - 1) = nI 1 from rfl, c3] at h; exact absurd h (by decide))]
    rw [eF] at hP hD
    clear eF
    have eF : (.int fi : Value) = Value.int (mOpenF X x fi) := by rw [mOpenF, if_neg (fun h => by rw [← inI_blw x (N := 2) (by decide) (by decide), show nI (2 - 1) = nI 1 from rfl, c3] at h; exact absurd h (by decide))]
    rw [eF] at hP hD
    clear eF
    exact wr_ret hx hb hr hlocks dX6_open_11 hP hD hS (by rw [mOpenR, if_neg (fun h => by rw [← inI_blw x (N := 2) (by decide) (by decide), show nI (2 - 1) = nI 1 from rfl, c3] at h; exact absurd h (by decide))])
set_option maxHeartbeats 4000000 in
set_option maxRecDepth 100000 in
/-- freed -/
theorem c_X6_freed (l : Launch) (G : EG) (o : Nat) (sa : Nat) (ia : Nat) (ka : Nat) (ea : Nat) (ca : Nat) (tr : Nat) (fi : Int32) (X : Nat → Nat) (hX0 : X 0 ≤ 8) (hX : ∀ k, k < X 0 → X (1 + k) < 23 ∧ X (9 + k) < 23) (x : Int32) (y : Int32) : RO l yX6_freed wsX6_freed (rmR 2 46) G [(o, .inr (5, [.ref sa, .ref ia, .ref ka, .ref ea, .int (nI tr), .int fi, .ref ca])), (sa, aI G 40 X)] [.ref o, .int x, .int y] (.int (mFreed X x y)) := by
  refine RO.start (by decide) rfl (Nat.le_of_ble_eq_true rfl) ?_
  intro p e s m below meth c hx hb hr hml hts hown hlocks hP hE ls hl
  have hown : s.vm.findClass RX6 = some m.cls := hown
  have hl : lv_has ls 5 [(0, .ref o), (1, .int x), (2, .int y)] := hl
  refine lv_iload_n hx hb dX6_freed_0 rfl (lv_at hl 1 rfl) ?_
  refine ro_S (rest := []) ⟨hx, hb, hml, hown, hts⟩ (c_X6_isWord l G x) (va_cwS 1 hts gX6_freed_X6_isWord rfl rfl rfl (by decide +kernel) ⟨Nat.le_of_ble_eq_true rfl, Nat.le_of_ble_eq_true rfl⟩) hE (hP.sub [] rfl) rfl hl.1 rfl (Nat.le_of_ble_eq_true rfl) dX6_freed_1 ⟨Nat.zero_le _, Nat.zero_le _⟩ ?_
  refine j_bool (fun c1 => ?_) (fun c1 => ?_)
  · skip
    obtain ⟨w, hw, rfl⟩ := blw_ex c1 (by decide)
    refine j_if_eq (tgt := 16) hx hb dX6_freed_4 (by decide) (fun q => absurd q (by decide)) (fun _ => ?_)
    refine lv_iload_n hx hb dX6_freed_7 rfl (lv_at hl 2 rfl) ?_
    refine lv_iconst (v := nI 0) hx hb dX6_freed_8 (by decide) ?_
    refine lv_iconst (v := nI 1) hx hb dX6_freed_9 (by decide) ?_
    refine ro_S (rest := []) ⟨hx, hb, hml, hown, hts⟩ (c_X6_in l G y (nI 0) (nI 1)) (va_cwS 3 hts gX6_freed_X6_in rfl rfl rfl (by decide +kernel) ⟨Nat.le_of_ble_eq_true rfl, Nat.le_of_ble_eq_true rfl⟩) hE (hP.sub [] rfl) rfl hl.1 rfl (Nat.le_of_ble_eq_true rfl) dX6_freed_10 ⟨Nat.zero_le _, Nat.zero_le _⟩ ?_
    refine j_bool (fun c10 => ?_) (fun c10 => ?_)
    · skip
      obtain ⟨j, hj, rfl⟩ := inI_ex (N := 1) rfl c10 (by decide)
      refine j_if_ne (tgt := 19) hx hb dX6_freed_13 (by decide) (fun _ => ?_) (fun q => absurd q (by decide))
      refine lv_iconst (v := nI 0) hx hb dX6_freed_19 (by decide) ?_
      refine lv_istore_n (lv' := [(3, .int (nI 0)), (0, .ref o), (1, .int (nI w)), (2, .int (nI j))]) hx hb dX6_freed_20 rfl hl (by decide) rfl (fun ls hl => ?_)
      have loop21 : ∀ (fuel : Nat) (k : Nat), (k ≤ X 0) → (frdF X w j (X 0 - k) = frdF X w j (X 0)) → X 0 - k < fuel → ∀ ls : Array Slot, lv_has ls 5 [(3, .int (nI k)), (0, .ref o), (1, .int (nI w)), (2, .int (nI j))] → W p l e (rmR 2 46) s m ([.ref o, .int (nI w), .int (nI j)] : List Value).toArray below meth c s.heap [] 0 0 (MQ below (k2_QcV (.int (mFreed X (nI w) (nI j)))) ([.ref o, .int (nI w), .int (nI j)] : List Value).toArray s 0 0 (fun _ => False)) (F0 m 21 ls []) := by
        intro fuel
        induction fuel with
        | zero => intro k h1 h2 hf; exact absurd hf (Nat.not_lt_zero _)
        | succ fuel ih21 =>
          intro k h1 h2 hf ls hl
          refine lv_iload_n hx hb dX6_freed_21 rfl (lv_at hl 0 rfl) ?_
          refine lv_aload_n hx hb dX6_freed_22 rfl (lv_at hl 1 rfl) ?_
          refine va_get (D := G.1) (ci := 5) (v := .ref sa) (C := RX6) (T := TX6) (N := 7) hx hb hts (fun w h => List.mem_cons_of_mem _ (List.mem_append_right _ h)) hown hE.1 hP 0 rfl rfl 0 (by decide) (hts (.fieldLink RX6 7 "TripleTrapModel" "state" "[I") (List.mem_of_getElem? (i := 1) rfl)) (fun _ h9 => h9) rfl dX6_freed_23 ?_
          refine lv_iconst (v := nI 0) hx hb dX6_freed_26 (by decide) ?_
          refine j_iald hx hb hE hP 1 rfl dX6_freed_27 ?_
          refine j_icmp_ge (tgt := 103) hx hb dX6_freed_28 (by decide) (fun c28 => ?_) (fun c28 => ?_)
          · skip
            refine lv_bipush (v := (-6)) hx hb dX6_freed_103 (by decide) ?_
            exact ro_ret hx hb hr hlocks dX6_freed_105 (by rw [mFreed, if_pos ⟨c1, blw_j hj (by decide)⟩, cl_nI hw (by decide), cl_nI hj (by decide), ← h2, show X 0 - k = 0 by omega, frdF])
          · skip
            refine lv_iload_n hx hb dX6_freed_31 rfl (lv_at hl 2 rfl) ?_
            refine lv_aload_n hx hb dX6_freed_32 rfl (lv_at hl 1 rfl) ?_
            refine va_get (D := G.1) (ci := 5) (v := .ref sa) (C := RX6) (T := TX6) (N := 7) hx hb hts (fun w h => List.mem_cons_of_mem _ (List.mem_append_right _ h)) hown hE.1 hP 0 rfl rfl 0 (by decide) (hts (.fieldLink RX6 7 "TripleTrapModel" "state" "[I") (List.mem_of_getElem? (i := 1) rfl)) (fun _ h9 => h9) rfl dX6_freed_33 ?_
            refine lv_iconst (v := nI 1) hx hb dX6_freed_36 (by decide) ?_
            refine lv_iload_n hx hb dX6_freed_37 rfl (lv_at hl 0 rfl) ?_
            refine j_add hx hb dX6_freed_38 ?_
            refine j_iald hx hb hE hP 1 rfl dX6_freed_39 ?_
            refine lv_aload_n hx hb dX6_freed_40 rfl (lv_at hl 1 rfl) ?_
            refine va_get (D := G.1) (ci := 5) (v := .ref sa) (C := RX6) (T := TX6) (N := 7) hx hb hts (fun w h => List.mem_cons_of_mem _ (List.mem_append_right _ h)) hown hE.1 hP 0 rfl rfl 0 (by decide) (hts (.fieldLink RX6 7 "TripleTrapModel" "state" "[I") (List.mem_of_getElem? (i := 1) rfl)) (fun _ h9 => h9) rfl dX6_freed_41 ?_
            refine lv_bipush (v := nI 9) hx hb dX6_freed_44 (by decide) ?_
            refine lv_iload_n hx hb dX6_freed_46 rfl (lv_at hl 0 rfl) ?_
            refine j_add hx hb dX6_freed_47 ?_
            refine j_iald hx hb hE hP 1 rfl dX6_freed_48 ?_
            refine ro_S (rest := []) ⟨hx, hb, hml, hown, hts⟩ (c_X6_go l G w (X (1 + k)) (X (9 + k)) (by omega) (hX k (by omega)).1 (hX k (by omega)).2) (va_cwS 3 hts gX6_freed_X6_go rfl rfl rfl (by decide +kernel) ⟨Nat.le_of_ble_eq_true rfl, Nat.le_of_ble_eq_true rfl⟩) hE (hP.sub [] rfl) rfl hl.1 rfl (Nat.le_of_ble_eq_true rfl) dX6_freed_49 ⟨Nat.zero_le _, Nat.zero_le _⟩ ?_
            refine ro_S (rest := []) ⟨hx, hb, hml, hown, hts⟩ (c_X6_restOf l G (carN w (X (1 + k)) (X (9 + k))) (Nat.lt_trans (carL_lt _ _ _ _) (by decide))) (va_cwS 1 hts gX6_freed_X6_restOf rfl rfl rfl (by decide +kernel) ⟨Nat.le_of_ble_eq_true rfl, Nat.le_of_ble_eq_true rfl⟩) hE (hP.sub [] rfl) rfl hl.1 rfl (Nat.le_of_ble_eq_true rfl) dX6_freed_52 ⟨Nat.zero_le _, Nat.zero_le _⟩ ?_
            refine j_top (fun x55 ex55 => ?_)
            refine lv_istore (lv' := [(4, .int (nI x55)), (3, .int (nI k)), (0, .ref o), (1, .int (nI w)), (2, .int (nI j))]) hx hb dX6_freed_55 hl (by decide) rfl (fun ls hl => ?_)
            refine lv_iload hx hb dX6_freed_57 (lv_at hl 0 rfl) ?_
            refine ro_S (rest := []) ⟨hx, hb, hml, hown, hts⟩ (c_X6_weight l G x55 (by rw [ex55]; exact Nat.lt_trans (remN_lt (Nat.lt_trans (carL_lt _ _ _ _) (by decide))) (by decide))) (va_cwS 1 hts gX6_freed_X6_weight rfl rfl rfl (by decide +kernel) ⟨Nat.le_of_ble_eq_true rfl, Nat.le_of_ble_eq_true rfl⟩) hE (hP.sub [] rfl) rfl hl.1 rfl (Nat.le_of_ble_eq_true rfl) dX6_freed_59 ⟨Nat.zero_le _, Nat.zero_le _⟩ ?_
            refine lv_iconst (v := nI 3) hx hb dX6_freed_62 (by decide) ?_
            refine j_icmp_gt (tgt := 97) hx hb dX6_freed_63 (by decide) (fun c63 => ?_) (fun c63 => ?_) (h1 := Nat.lt_of_le_of_lt (wtN_le _) (by decide)) (h2 := by decide)
            · skip
              obtain ⟨x97, ex97⟩ : ∃ y : Nat, y = k + 1 := ⟨_, rfl⟩
              refine lv_iinc (v := nI x97) (lv' := [(3, .int (nI x97)), (4, .int (nI x55)), (0, .ref o), (1, .int (nI w)), (2, .int (nI j))]) hx hb dX6_freed_97 hl (k := 1) rfl (by rw [ex97]; exact nI_add _ _) (by decide) rfl (fun ls hl => ?_)
              refine lv_goto (tgt := 21) hx hb dX6_freed_100 (by decide) ?_
              exact ih21 x97 (by omega) (by rw [← h2, show X 0 - k = (X 0 - x97) + 1 by omega, frdF, show X 0 - (X 0 - x97 + 1) = k by omega, if_neg (by rw [ex55] at c63; exact Nat.not_le.mpr c63)]) (by omega) ls (lv_sub hl [0, 2, 3, 4] rfl)
            · skip
              refine lv_iload_n hx hb dX6_freed_66 rfl (lv_at hl 4 rfl) ?_
              refine j_if_ne (tgt := 74) hx hb dX6_freed_67 (by decide) (fun c67 => ?_) (fun c67 => ?_)
              · skip
                refine lv_iload hx hb dX6_freed_74 (lv_at hl 0 rfl) ?_
                refine lv_aload_n hx hb dX6_freed_76 rfl (lv_at hl 2 rfl) ?_
                refine va_get (D := G.1) (ci := 5) (v := .ref sa) (C := RX6) (T := TX6) (N := 7) hx hb hts (fun w h => List.mem_cons_of_mem _ (List.mem_append_right _ h)) hown hE.1 hP 0 rfl rfl 0 (by decide) (hts (.fieldLink RX6 7 "TripleTrapModel" "state" "[I") (List.mem_of_getElem? (i := 1) rfl)) (fun _ h9 => h9) rfl dX6_freed_77 ?_
                refine lv_iconst (v := nI 1) hx hb dX6_freed_80 (by decide) ?_
                refine lv_iload_n hx hb dX6_freed_81 rfl (lv_at hl 1 rfl) ?_
                refine j_add hx hb dX6_freed_82 ?_
                refine j_iald hx hb hE hP 1 rfl dX6_freed_83 ?_
                refine lv_aload_n hx hb dX6_freed_84 rfl (lv_at hl 2 rfl) ?_
                refine va_get (D := G.1) (ci := 5) (v := .ref sa) (C := RX6) (T := TX6) (N := 7) hx hb hts (fun w h => List.mem_cons_of_mem _ (List.mem_append_right _ h)) hown hE.1 hP 0 rfl rfl 0 (by decide) (hts (.fieldLink RX6 7 "TripleTrapModel" "state" "[I") (List.mem_of_getElem? (i := 1) rfl)) (fun _ h9 => h9) rfl dX6_freed_85 ?_
                refine lv_bipush (v := nI 9) hx hb dX6_freed_88 (by decide) ?_
                refine lv_iload_n hx hb dX6_freed_90 rfl (lv_at hl 1 rfl) ?_
                refine j_add hx hb dX6_freed_91 ?_
                refine j_iald hx hb hE hP 1 rfl dX6_freed_92 ?_
                refine ro_S (rest := []) ⟨hx, hb, hml, hown, hts⟩ (c_X6_goBack l G x55 (X (1 + k)) (X (9 + k)) (by rw [ex55]; exact Nat.lt_trans (remN_lt (Nat.lt_trans (carL_lt _ _ _ _) (by decide))) (by decide)) (hX k (by omega)).1 (hX k (by omega)).2) (va_cwS 3 hts gX6_freed_X6_goBack rfl rfl rfl (by decide +kernel) ⟨Nat.le_of_ble_eq_true rfl, Nat.le_of_ble_eq_true rfl⟩) hE (hP.sub [] rfl) rfl hl.1 rfl (Nat.le_of_ble_eq_true rfl) dX6_freed_93 ⟨Nat.zero_le _, Nat.zero_le _⟩ ?_
                exact ro_ret hx hb hr hlocks dX6_freed_96 (by rw [mFreed, if_pos ⟨c1, blw_j hj (by decide)⟩, cl_nI hw (by decide), cl_nI hj (by decide), ← h2, show X 0 - k = (X 0 - k - 1) + 1 by omega, frdF, show X 0 - (X 0 - k - 1 + 1) = k by omega, if_pos (by rw [ex55] at c63; exact c63), if_neg c67, ex55]; rfl)
              · skip
                refine lv_iload_n hx hb dX6_freed_70 rfl (lv_at hl 1 rfl) ?_
                refine lv_goto (tgt := 96) hx hb dX6_freed_71 (by decide) ?_
                exact ro_ret hx hb hr hlocks dX6_freed_96 (by rw [mFreed, if_pos ⟨c1, blw_j hj (by decide)⟩, cl_nI hw (by decide), cl_nI hj (by decide), ← h2, show X 0 - k = (X 0 - k - 1) + 1 by omega, frdF, show X 0 - (X 0 - k - 1 + 1) = k by omega, if_pos (by rw [ex55] at c63; exact c63), if_pos c67])
      exact loop21 _ 0 (by omega) rfl (Nat.lt_succ_self _) ls (lv_sub hl [0, 1, 2, 3] rfl)
    · skip
      refine j_if_ne (tgt := 19) hx hb dX6_freed_13 (by decide) (fun q => absurd q (by decide)) (fun _ => ?_)
      refine lv_bipush (v := (-2)) hx hb dX6_freed_16 (by decide) ?_
      exact ro_ret hx hb hr hlocks dX6_freed_18 (by rw [mFreed, if_neg (fun h => by rw [← inI_blw y (N := 2) (by decide) (by decide), show nI (2 - 1) = nI 1 from rfl, c10] at h; exact absurd h.2 (by decide))])
  · skip
    refine j_if_eq (tgt := 16) hx hb dX6_freed_4 (by decide) (fun _ => ?_) (fun q => absurd q (by decide))
    refine lv_bipush (v := (-2)) hx hb dX6_freed_16 (by decide) ?_
    exact ro_ret hx hb hr hlocks dX6_freed_18 (by rw [mFreed, if_neg (fun h => by rw [c1] at h; exact absurd h.1 (by decide))])
set_option maxHeartbeats 4000000 in
set_option maxRecDepth 100000 in
/-- sure -/
theorem c_X6_sure (l : Launch) (G : EG) (o : Nat) (sa : Nat) (ia : Nat) (ka : Nat) (ea : Nat) (ca : Nat) (tr : Nat) (fi : Int32) (X : Nat → Nat) (x : Int32) (y : Int32) (sz : Nat) : WR l yX6_sure wsX6_sure (rmR 2 42) G sz [(o, .inr (5, [.ref sa, .ref ia, .ref ka, .ref ea, .int (nI tr), .int fi, .ref ca])), (sa, aI G 40 X)] [.ref o, .int x, .int y] [(o, .inr (5, [.ref sa, .ref ia, .ref ka, .ref ea, .int (nI tr), .int fi, .ref ca])), (sa, aI G 40 (mSureX X x y))] (some (.int (mSureR X x y))) := by
  refine WR.start (by decide) rfl (Nat.le_of_ble_eq_true rfl) ?_
  intro p e s m below meth c hx hb hr hml hts hown hlocks hE A hA H locs hP hD hS ls hl
  have hown : s.vm.findClass RX6 = some m.cls := hown
  have hl : lv_has ls 4 [(0, .ref o), (1, .int x), (2, .int y)] := hl
  refine lv_iload_n hx hb dX6_sure_0 rfl (lv_at hl 1 rfl) ?_
  refine ro_S (rest := []) ⟨hx, hb, hml, hown, hts⟩ (c_X6_isPlace l G x) (va_cwS 1 hts gX6_sure_X6_isPlace rfl rfl rfl (by decide +kernel) ⟨Nat.le_of_ble_eq_true rfl, Nat.le_of_ble_eq_true rfl⟩) hE (hP.sub [] rfl) rfl hl.1 rfl (Nat.le_of_ble_eq_true rfl) dX6_sure_1 ⟨Nat.zero_le _, Nat.zero_le _⟩ ?_
  refine j_bool (fun c1 => ?_) (fun c1 => ?_)
  · skip
    obtain ⟨d, hd, rfl⟩ := blw_ex c1 (by decide)
    refine j_if_eq (tgt := 17) hx hb dX6_sure_4 (by decide) (fun q => absurd q (by decide)) (fun _ => ?_)
    refine lv_iload_n hx hb dX6_sure_7 rfl (lv_at hl 2 rfl) ?_
    refine lv_iconst (v := nI 0) hx hb dX6_sure_8 (by decide) ?_
    refine lv_bipush (v := nI 9) hx hb dX6_sure_9 (by decide) ?_
    refine ro_S (rest := []) ⟨hx, hb, hml, hown, hts⟩ (c_X6_in l G y (nI 0) (nI 9)) (va_cwS 3 hts gX6_sure_X6_in rfl rfl rfl (by decide +kernel) ⟨Nat.le_of_ble_eq_true rfl, Nat.le_of_ble_eq_true rfl⟩) hE (hP.sub [] rfl) rfl hl.1 rfl (Nat.le_of_ble_eq_true rfl) dX6_sure_11 ⟨Nat.zero_le _, Nat.zero_le _⟩ ?_
    refine j_bool (fun c11 => ?_) (fun c11 => ?_)
    · skip
      obtain ⟨j, hj, rfl⟩ := inI_ex (N := 9) rfl c11 (by decide)
      refine j_if_ne (tgt := 20) hx hb dX6_sure_14 (by decide) (fun _ => ?_) (fun q => absurd q (by decide))
      refine lv_aload_n hx hb dX6_sure_20 rfl (lv_at hl 0 rfl) ?_
      refine va_get (D := G.1) (ci := 5) (v := .ref sa) (C := RX6) (T := TX6) (N := 7) hx hb hts (fun w h => List.mem_cons_of_mem _ (List.mem_append_right _ h)) hown hE.1 hP 0 rfl rfl 0 (by decide) (hts (.fieldLink RX6 7 "TripleTrapModel" "state" "[I") (List.mem_of_getElem? (i := 1) rfl)) (fun _ h9 => h9) rfl dX6_sure_21 ?_
      refine lv_bipush (v := nI 17) hx hb dX6_sure_24 (by decide) ?_
      refine lv_iload_n hx hb dX6_sure_26 rfl (lv_at hl 1 rfl) ?_
      refine j_add hx hb dX6_sure_27 ?_
      refine j_iald hx hb hE hP 1 rfl dX6_sure_28 ?_
      refine j_top (fun x29 ex29 => ?_)
      refine lv_istore_n (lv' := [(3, .int (nI x29)), (0, .ref o), (1, .int (nI d)), (2, .int (nI j))]) hx hb dX6_sure_29 rfl hl (by decide) rfl (fun ls hl => ?_)
      refine lv_aload_n hx hb dX6_sure_30 rfl (lv_at hl 1 rfl) ?_
      refine va_get (D := G.1) (ci := 5) (v := .ref sa) (C := RX6) (T := TX6) (N := 7) hx hb hts (fun w h => List.mem_cons_of_mem _ (List.mem_append_right _ h)) hown hE.1 hP 0 rfl rfl 0 (by decide) (hts (.fieldLink RX6 7 "TripleTrapModel" "state" "[I") (List.mem_of_getElem? (i := 1) rfl)) (fun _ h9 => h9) rfl dX6_sure_31 ?_
      refine lv_bipush (v := nI 17) hx hb dX6_sure_34 (by decide) ?_
      refine lv_iload_n hx hb dX6_sure_36 rfl (lv_at hl 2 rfl) ?_
      refine j_add hx hb dX6_sure_37 ?_
      refine lv_iload_n hx hb dX6_sure_38 rfl (lv_at hl 3 rfl) ?_
      refine j_iast hx hb hE hP hD hS 1 rfl dX6_sure_39 (fun H locs hP hD hS => ?_)
      have hP : va_P G.1 vwCl [(o, .inr (5, [.ref sa, .ref ia, .ref ka, .ref ea, .int (nI tr), .int fi, .ref ca])), (sa, aI G 40 (va_up X (17 + d) j))] H := hP
      have hD : va_D A [(o, .inr (5, [.ref sa, .ref ia, .ref ka, .ref ea, .int (nI tr), .int fi, .ref ca])), (sa, aI G 40 (va_up X (17 + d) j))] := hD
      refine lv_iload_n hx hb dX6_sure_40 rfl (lv_at hl 0 rfl) ?_
      have eF : va_up X (17 + d) j = mSureX X (nI d) (nI j) := by rw [mSureX, if_pos ⟨c1, blw_j hj (by decide)⟩, cl_nI hd (by decide), cl_nI hj (by decide)]
      rw [eF] at hP hD
      clear eF
      exact wr_ret hx hb hr hlocks dX6_sure_41 hP hD hS (by rw [mSureR, if_pos ⟨c1, blw_j hj (by decide)⟩, cl_nI hd (by decide), ex29])
    · skip
      refine j_if_ne (tgt := 20) hx hb dX6_sure_14 (by decide) (fun q => absurd q (by decide)) (fun _ => ?_)
      refine lv_bipush (v := (-2)) hx hb dX6_sure_17 (by decide) ?_
      have eF : X = mSureX X (nI d) y := by rw [mSureX, if_neg (fun h => by rw [← inI_blw y (N := 10) (by decide) (by decide), show nI (10 - 1) = nI 9 from rfl, c11] at h; exact absurd h.2 (by decide))]
      rw [eF] at hP hD
      clear eF
      exact wr_ret hx hb hr hlocks dX6_sure_19 hP hD hS (by rw [mSureR, if_neg (fun h => by rw [← inI_blw y (N := 10) (by decide) (by decide), show nI (10 - 1) = nI 9 from rfl, c11] at h; exact absurd h.2 (by decide))])
  · skip
    refine j_if_eq (tgt := 17) hx hb dX6_sure_4 (by decide) (fun _ => ?_) (fun q => absurd q (by decide))
    refine lv_bipush (v := (-2)) hx hb dX6_sure_17 (by decide) ?_
    have eF : X = mSureX X x y := by rw [mSureX, if_neg (fun h => by rw [c1] at h; exact absurd h.1 (by decide))]
    rw [eF] at hP hD
    clear eF
    exact wr_ret hx hb hr hlocks dX6_sure_19 hP hD hS (by rw [mSureR, if_neg (fun h => by rw [c1] at h; exact absurd h.1 (by decide))])
set_option maxHeartbeats 4000000 in
set_option maxRecDepth 100000 in
/-- weakAt -/
theorem c_X6_weakAt (l : Launch) (G : EG) (o : Nat) (sa : Nat) (ia : Nat) (ka : Nat) (ea : Nat) (ca : Nat) (tr : Nat) (fi : Int32) (X : Nat → Nat) (hlv : ∀ q, q < 23 → X (17 + q) ≤ 9) (j : Nat) (hj : j < 2147483648) : RO l yX6_weakAt wsX6_weakAt (rmR 0 0) G [(o, .inr (5, [.ref sa, .ref ia, .ref ka, .ref ea, .int (nI tr), .int fi, .ref ca])), (sa, aI G 40 X)] [.ref o, .int (nI j)] (.int (wkL X j 23)) := by
  refine RO.start (by decide) rfl (Nat.le_of_ble_eq_true rfl) ?_
  intro p e s m below meth c hx hb hr hml hts hown hlocks hP hE ls hl
  have hown : s.vm.findClass RX6 = some m.cls := hown
  have hl : lv_has ls 7 [(0, .ref o), (1, .int (nI j))] := hl
  refine lv_bipush (v := (-6)) hx hb dX6_weakAt_0 (by decide) ?_
  refine lv_istore_n (lv' := [(2, .int (-6)), (0, .ref o), (1, .int (nI j))]) hx hb dX6_weakAt_2 rfl hl (by decide) rfl (fun ls hl => ?_)
  refine lv_iconst (v := nI 0) hx hb dX6_weakAt_3 (by decide) ?_
  refine lv_istore_n (lv' := [(3, .int (nI 0)), (2, .int (-6)), (0, .ref o), (1, .int (nI j))]) hx hb dX6_weakAt_4 rfl hl (by decide) rfl (fun ls hl => ?_)
  have loop5 : ∀ (fuel : Nat) (f : Int32) (k : Nat), (k ≤ 23) → (f = wkL X j k) → 23 - k < fuel → ∀ ls : Array Slot, lv_has ls 7 [(3, .int (nI k)), (2, .int f), (0, .ref o), (1, .int (nI j))] → W p l e (rmR 0 0) s m ([.ref o, .int (nI j)] : List Value).toArray below meth c s.heap [] 0 0 (MQ below (k2_QcV (.int (wkL X j 23))) ([.ref o, .int (nI j)] : List Value).toArray s 0 0 (fun _ => False)) (F0 m 5 ls []) := by
    intro fuel
    induction fuel with
    | zero => intro f k h1 h2 hf; exact absurd hf (Nat.not_lt_zero _)
    | succ fuel ih5 =>
      intro f k h1 h2 hf ls hl
      refine lv_iload_n hx hb dX6_weakAt_5 rfl (lv_at hl 0 rfl) ?_
      refine lv_bipush (v := nI 23) hx hb dX6_weakAt_6 (by decide) ?_
      refine j_icmp_ge (tgt := 120) hx hb dX6_weakAt_8 (by decide) (fun c8 => ?_) (fun c8 => ?_)
      · skip
        refine lv_iload_n hx hb dX6_weakAt_120 rfl (lv_at hl 1 rfl) ?_
        exact ro_ret hx hb hr hlocks dX6_weakAt_121 (by rw [h2, show k = 23 by omega])
      · skip
        refine lv_iconst (v := nI 0) hx hb dX6_weakAt_11 (by decide) ?_
        refine lv_istore (lv' := [(4, .int (nI 0)), (3, .int (nI k)), (2, .int f), (0, .ref o), (1, .int (nI j))]) hx hb dX6_weakAt_12 hl (by decide) rfl (fun ls hl => ?_)
        refine lv_iconst (v := nI 0) hx hb dX6_weakAt_14 (by decide) ?_
        refine lv_istore (lv' := [(5, .int (nI 0)), (4, .int (nI 0)), (3, .int (nI k)), (2, .int f), (0, .ref o), (1, .int (nI j))]) hx hb dX6_weakAt_15 hl (by decide) rfl (fun ls hl => ?_)
        have loop17 : ∀ (fuel : Nat) (t : Nat) (q : Nat), (q ≤ 23) → (t = ahdL X k q) → 23 - q < fuel → ∀ ls : Array Slot, lv_has ls 7 [(5, .int (nI q)), (4, .int (nI t)), (3, .int (nI k)), (2, .int f), (0, .ref o), (1, .int (nI j))] → W p l e (rmR 0 0) s m ([.ref o, .int (nI j)] : List Value).toArray below meth c s.heap [] 0 0 (MQ below (k2_QcV (.int (wkL X j 23))) ([.ref o, .int (nI j)] : List Value).toArray s 0 0 (fun _ => False)) (F0 m 17 ls []) := by
          intro fuel
          induction fuel with
          | zero => intro t q g1 g2 hf; exact absurd hf (Nat.not_lt_zero _)
          | succ fuel ih17 =>
            intro t q g1 g2 hf ls hl
            refine lv_iload hx hb dX6_weakAt_17 (lv_at hl 0 rfl) ?_
            refine lv_bipush (v := nI 23) hx hb dX6_weakAt_19 (by decide) ?_
            refine j_icmp_ge (tgt := 102) hx hb dX6_weakAt_21 (by decide) (fun c21 => ?_) (fun c21 => ?_)
            · skip
              refine lv_iload hx hb dX6_weakAt_102 (lv_at hl 1 rfl) ?_
              refine lv_iload_n hx hb dX6_weakAt_104 rfl (lv_at hl 5 rfl) ?_
              refine j_icmp_ne (tgt := 112) hx hb dX6_weakAt_105 (by decide) (fun c105 => ?_) (fun c105 => ?_) (h1 := by have := ahdL_le X k q; omega) (h2 := by omega)
              · skip
                refine lv_iload_n hx hb dX6_weakAt_112 rfl (lv_at hl 3 rfl) ?_
                refine lv_istore_n (lv' := [(2, .int f), (5, .int (nI q)), (4, .int (nI t)), (3, .int (nI k)), (0, .ref o), (1, .int (nI j))]) hx hb dX6_weakAt_113 rfl hl (by decide) rfl (fun ls hl => ?_)
                obtain ⟨x114, ex114⟩ : ∃ y : Nat, y = k + 1 := ⟨_, rfl⟩
                refine lv_iinc (v := nI x114) (lv' := [(3, .int (nI x114)), (2, .int f), (5, .int (nI q)), (4, .int (nI t)), (0, .ref o), (1, .int (nI j))]) hx hb dX6_weakAt_114 hl (k := 3) rfl (by rw [ex114]; exact nI_add _ _) (by decide) rfl (fun ls hl => ?_)
                refine lv_goto (tgt := 5) hx hb dX6_weakAt_117 (by decide) ?_
                exact ih5 f x114 (by omega) (by rw [ex114, wkL, if_neg (fun h => c105 (by rw [g2, show q = 23 by omega]; exact h))]; exact h2) (by omega) ls (lv_sub hl [0, 1, 4, 5] rfl)
              · skip
                refine lv_iload_n hx hb dX6_weakAt_108 rfl (lv_at hl 2 rfl) ?_
                refine lv_goto (tgt := 113) hx hb dX6_weakAt_109 (by decide) ?_
                refine lv_istore_n (lv' := [(2, .int (nI k)), (5, .int (nI q)), (4, .int (nI t)), (3, .int (nI k)), (0, .ref o), (1, .int (nI j))]) hx hb dX6_weakAt_113 rfl hl (by decide) rfl (fun ls hl => ?_)
                obtain ⟨x114, ex114⟩ : ∃ y : Nat, y = k + 1 := ⟨_, rfl⟩
                refine lv_iinc (v := nI x114) (lv' := [(3, .int (nI x114)), (2, .int (nI k)), (5, .int (nI q)), (4, .int (nI t)), (0, .ref o), (1, .int (nI j))]) hx hb dX6_weakAt_114 hl (k := 3) rfl (by rw [ex114]; exact nI_add _ _) (by decide) rfl (fun ls hl => ?_)
                refine lv_goto (tgt := 5) hx hb dX6_weakAt_117 (by decide) ?_
                exact ih5 (nI k) x114 (by omega) (by rw [ex114, wkL, if_pos (by rw [← c105, g2, show q = 23 by omega])]) (by omega) ls (lv_sub hl [0, 1, 4, 5] rfl)
            · skip
              refine lv_aload_n hx hb dX6_weakAt_24 rfl (lv_at hl 4 rfl) ?_
              refine va_get (D := G.1) (ci := 5) (v := .ref sa) (C := RX6) (T := TX6) (N := 7) hx hb hts (fun w h => List.mem_cons_of_mem _ (List.mem_append_right _ h)) hown hE.1 hP 0 rfl rfl 0 (by decide) (hts (.fieldLink RX6 7 "TripleTrapModel" "state" "[I") (List.mem_of_getElem? (i := 1) rfl)) (fun _ h9 => h9) rfl dX6_weakAt_25 ?_
              refine lv_bipush (v := nI 17) hx hb dX6_weakAt_28 (by decide) ?_
              refine lv_iload hx hb dX6_weakAt_30 (lv_at hl 0 rfl) ?_
              refine j_add hx hb dX6_weakAt_32 ?_
              refine j_iald hx hb hE hP 1 rfl dX6_weakAt_33 ?_
              refine lv_aload_n hx hb dX6_weakAt_34 rfl (lv_at hl 4 rfl) ?_
              refine va_get (D := G.1) (ci := 5) (v := .ref sa) (C := RX6) (T := TX6) (N := 7) hx hb hts (fun w h => List.mem_cons_of_mem _ (List.mem_append_right _ h)) hown hE.1 hP 0 rfl rfl 0 (by decide) (hts (.fieldLink RX6 7 "TripleTrapModel" "state" "[I") (List.mem_of_getElem? (i := 1) rfl)) (fun _ h9 => h9) rfl dX6_weakAt_35 ?_
              refine lv_bipush (v := nI 17) hx hb dX6_weakAt_38 (by decide) ?_
              refine lv_iload_n hx hb dX6_weakAt_40 rfl (lv_at hl 2 rfl) ?_
              refine j_add hx hb dX6_weakAt_41 ?_
              refine j_iald hx hb hE hP 1 rfl dX6_weakAt_42 ?_
              refine j_icmp_lt (tgt := 74) hx hb dX6_weakAt_43 (by decide) (fun c43 => ?_) (fun c43 => ?_) (h1 := by have := hlv q (by omega); omega) (h2 := by have := hlv k (by omega); omega)
              · skip
                refine lv_iconst (v := nI 1) hx hb dX6_weakAt_74 (by decide) ?_
                refine lv_goto (tgt := 79) hx hb dX6_weakAt_75 (by decide) ?_
                refine lv_istore (lv' := [(6, .int (nI 1)), (5, .int (nI q)), (4, .int (nI t)), (3, .int (nI k)), (2, .int f), (0, .ref o), (1, .int (nI j))]) hx hb dX6_weakAt_79 hl (by decide) rfl (fun ls hl => ?_)
                refine lv_iload hx hb dX6_weakAt_81 (lv_at hl 2 rfl) ?_
                refine lv_iload hx hb dX6_weakAt_83 (lv_at hl 0 rfl) ?_
                refine j_if_eq (tgt := 92) hx hb dX6_weakAt_85 (by decide) (fun q => absurd q (by decide)) (fun _ => ?_)
                refine lv_iconst (v := nI 1) hx hb dX6_weakAt_88 (by decide) ?_
                refine lv_goto (tgt := 93) hx hb dX6_weakAt_89 (by decide) ?_
                refine j_add hx hb dX6_weakAt_93 ?_
                refine j_top (fun x94 ex94 => ?_)
                refine lv_istore (lv' := [(4, .int (nI x94)), (6, .int (nI 1)), (5, .int (nI q)), (3, .int (nI k)), (2, .int f), (0, .ref o), (1, .int (nI j))]) hx hb dX6_weakAt_94 hl (by decide) rfl (fun ls hl => ?_)
                obtain ⟨x96, ex96⟩ : ∃ y : Nat, y = q + 1 := ⟨_, rfl⟩
                refine lv_iinc (v := nI x96) (lv' := [(5, .int (nI x96)), (4, .int (nI x94)), (6, .int (nI 1)), (3, .int (nI k)), (2, .int f), (0, .ref o), (1, .int (nI j))]) hx hb dX6_weakAt_96 hl (k := 2) rfl (by rw [ex96]; exact nI_add _ _) (by decide) rfl (fun ls hl => ?_)
                refine lv_goto (tgt := 17) hx hb dX6_weakAt_99 (by decide) ?_
                exact ih17 x94 x96 (by omega) (by rw [ex94, ex96, g2, ahdL, ahdB_t (Or.inl c43)]; rfl) (by omega) ls (lv_sub hl [0, 1, 3, 4, 5, 6] rfl)
              · skip
                refine lv_aload_n hx hb dX6_weakAt_46 rfl (lv_at hl 4 rfl) ?_
                refine va_get (D := G.1) (ci := 5) (v := .ref sa) (C := RX6) (T := TX6) (N := 7) hx hb hts (fun w h => List.mem_cons_of_mem _ (List.mem_append_right _ h)) hown hE.1 hP 0 rfl rfl 0 (by decide) (hts (.fieldLink RX6 7 "TripleTrapModel" "state" "[I") (List.mem_of_getElem? (i := 1) rfl)) (fun _ h9 => h9) rfl dX6_weakAt_47 ?_
                refine lv_bipush (v := nI 17) hx hb dX6_weakAt_50 (by decide) ?_
                refine lv_iload hx hb dX6_weakAt_52 (lv_at hl 0 rfl) ?_
                refine j_add hx hb dX6_weakAt_54 ?_
                refine j_iald hx hb hE hP 1 rfl dX6_weakAt_55 ?_
                refine lv_aload_n hx hb dX6_weakAt_56 rfl (lv_at hl 4 rfl) ?_
                refine va_get (D := G.1) (ci := 5) (v := .ref sa) (C := RX6) (T := TX6) (N := 7) hx hb hts (fun w h => List.mem_cons_of_mem _ (List.mem_append_right _ h)) hown hE.1 hP 0 rfl rfl 0 (by decide) (hts (.fieldLink RX6 7 "TripleTrapModel" "state" "[I") (List.mem_of_getElem? (i := 1) rfl)) (fun _ h9 => h9) rfl dX6_weakAt_57 ?_
                refine lv_bipush (v := nI 17) hx hb dX6_weakAt_60 (by decide) ?_
                refine lv_iload_n hx hb dX6_weakAt_62 rfl (lv_at hl 2 rfl) ?_
                refine j_add hx hb dX6_weakAt_63 ?_
                refine j_iald hx hb hE hP 1 rfl dX6_weakAt_64 ?_
                refine j_icmp_ne (tgt := 78) hx hb dX6_weakAt_65 (by decide) (fun c65 => ?_) (fun c65 => ?_) (h1 := by have := hlv q (by omega); omega) (h2 := by have := hlv k (by omega); omega)
                · skip
                  refine lv_iconst (v := nI 0) hx hb dX6_weakAt_78 (by decide) ?_
                  refine lv_istore (lv' := [(6, .int (nI 0)), (5, .int (nI q)), (4, .int (nI t)), (3, .int (nI k)), (2, .int f), (0, .ref o), (1, .int (nI j))]) hx hb dX6_weakAt_79 hl (by decide) rfl (fun ls hl => ?_)
                  refine lv_iload hx hb dX6_weakAt_81 (lv_at hl 2 rfl) ?_
                  refine lv_iload hx hb dX6_weakAt_83 (lv_at hl 0 rfl) ?_
                  refine j_if_eq (tgt := 92) hx hb dX6_weakAt_85 (by decide) (fun _ => ?_) (fun q => absurd q (by decide))
                  refine lv_iconst (v := nI 0) hx hb dX6_weakAt_92 (by decide) ?_
                  refine j_add hx hb dX6_weakAt_93 ?_
                  refine j_top (fun x94 ex94 => ?_)
                  refine lv_istore (lv' := [(4, .int (nI x94)), (6, .int (nI 0)), (5, .int (nI q)), (3, .int (nI k)), (2, .int f), (0, .ref o), (1, .int (nI j))]) hx hb dX6_weakAt_94 hl (by decide) rfl (fun ls hl => ?_)
                  obtain ⟨x96, ex96⟩ : ∃ y : Nat, y = q + 1 := ⟨_, rfl⟩
                  refine lv_iinc (v := nI x96) (lv' := [(5, .int (nI x96)), (4, .int (nI x94)), (6, .int (nI 0)), (3, .int (nI k)), (2, .int f), (0, .ref o), (1, .int (nI j))]) hx hb dX6_weakAt_96 hl (k := 2) rfl (by rw [ex96]; exact nI_add _ _) (by decide) rfl (fun ls hl => ?_)
                  refine lv_goto (tgt := 17) hx hb dX6_weakAt_99 (by decide) ?_
                  exact ih17 x94 x96 (by omega) (by rw [ex94, ex96, g2, ahdL, ahdB_f (ahdP_f c43 (fun h => c65 h.1))]; rfl) (by omega) ls (lv_sub hl [0, 1, 3, 4, 5, 6] rfl)
                · skip
                  refine lv_iload hx hb dX6_weakAt_68 (lv_at hl 0 rfl) ?_
                  refine lv_iload_n hx hb dX6_weakAt_70 rfl (lv_at hl 2 rfl) ?_
                  refine j_icmp_ge (tgt := 78) hx hb dX6_weakAt_71 (by decide) (fun c71 => ?_) (fun c71 => ?_)
                  · skip
                    refine lv_iconst (v := nI 0) hx hb dX6_weakAt_78 (by decide) ?_
                    refine lv_istore (lv' := [(6, .int (nI 0)), (5, .int (nI q)), (4, .int (nI t)), (3, .int (nI k)), (2, .int f), (0, .ref o), (1, .int (nI j))]) hx hb dX6_weakAt_79 hl (by decide) rfl (fun ls hl => ?_)
                    refine lv_iload hx hb dX6_weakAt_81 (lv_at hl 2 rfl) ?_
                    refine lv_iload hx hb dX6_weakAt_83 (lv_at hl 0 rfl) ?_
                    refine j_if_eq (tgt := 92) hx hb dX6_weakAt_85 (by decide) (fun _ => ?_) (fun q => absurd q (by decide))
                    refine lv_iconst (v := nI 0) hx hb dX6_weakAt_92 (by decide) ?_
                    refine j_add hx hb dX6_weakAt_93 ?_
                    refine j_top (fun x94 ex94 => ?_)
                    refine lv_istore (lv' := [(4, .int (nI x94)), (6, .int (nI 0)), (5, .int (nI q)), (3, .int (nI k)), (2, .int f), (0, .ref o), (1, .int (nI j))]) hx hb dX6_weakAt_94 hl (by decide) rfl (fun ls hl => ?_)
                    obtain ⟨x96, ex96⟩ : ∃ y : Nat, y = q + 1 := ⟨_, rfl⟩
                    refine lv_iinc (v := nI x96) (lv' := [(5, .int (nI x96)), (4, .int (nI x94)), (6, .int (nI 0)), (3, .int (nI k)), (2, .int f), (0, .ref o), (1, .int (nI j))]) hx hb dX6_weakAt_96 hl (k := 2) rfl (by rw [ex96]; exact nI_add _ _) (by decide) rfl (fun ls hl => ?_)
                    refine lv_goto (tgt := 17) hx hb dX6_weakAt_99 (by decide) ?_
                    exact ih17 x94 x96 (by omega) (by rw [ex94, ex96, g2, ahdL, ahdB_f (ahdP_f c43 (fun h => absurd h.2 (Nat.not_lt.mpr c71)))]; rfl) (by omega) ls (lv_sub hl [0, 1, 3, 4, 5, 6] rfl)
                  · skip
                    refine lv_iconst (v := nI 1) hx hb dX6_weakAt_74 (by decide) ?_
                    refine lv_goto (tgt := 79) hx hb dX6_weakAt_75 (by decide) ?_
                    refine lv_istore (lv' := [(6, .int (nI 1)), (5, .int (nI q)), (4, .int (nI t)), (3, .int (nI k)), (2, .int f), (0, .ref o), (1, .int (nI j))]) hx hb dX6_weakAt_79 hl (by decide) rfl (fun ls hl => ?_)
                    refine lv_iload hx hb dX6_weakAt_81 (lv_at hl 2 rfl) ?_
                    refine lv_iload hx hb dX6_weakAt_83 (lv_at hl 0 rfl) ?_
                    refine j_if_eq (tgt := 92) hx hb dX6_weakAt_85 (by decide) (fun q => absurd q (by decide)) (fun _ => ?_)
                    refine lv_iconst (v := nI 1) hx hb dX6_weakAt_88 (by decide) ?_
                    refine lv_goto (tgt := 93) hx hb dX6_weakAt_89 (by decide) ?_
                    refine j_add hx hb dX6_weakAt_93 ?_
                    refine j_top (fun x94 ex94 => ?_)
                    refine lv_istore (lv' := [(4, .int (nI x94)), (6, .int (nI 1)), (5, .int (nI q)), (3, .int (nI k)), (2, .int f), (0, .ref o), (1, .int (nI j))]) hx hb dX6_weakAt_94 hl (by decide) rfl (fun ls hl => ?_)
                    obtain ⟨x96, ex96⟩ : ∃ y : Nat, y = q + 1 := ⟨_, rfl⟩
                    refine lv_iinc (v := nI x96) (lv' := [(5, .int (nI x96)), (4, .int (nI x94)), (6, .int (nI 1)), (3, .int (nI k)), (2, .int f), (0, .ref o), (1, .int (nI j))]) hx hb dX6_weakAt_96 hl (k := 2) rfl (by rw [ex96]; exact nI_add _ _) (by decide) rfl (fun ls hl => ?_)
                    refine lv_goto (tgt := 17) hx hb dX6_weakAt_99 (by decide) ?_
                    exact ih17 x94 x96 (by omega) (by rw [ex94, ex96, g2, ahdL, ahdB_t (Or.inr ⟨c65, c71⟩)]; rfl) (by omega) ls (lv_sub hl [0, 1, 3, 4, 5, 6] rfl)
        exact loop17 _ 0 0 (by omega) rfl (Nat.lt_succ_self _) ls (lv_sub hl [0, 1, 2, 3, 4, 5] rfl)
  exact loop5 _ (-6) 0 (by omega) rfl (Nat.lt_succ_self _) ls (lv_sub hl [0, 1, 2, 3] rfl)
set_option maxHeartbeats 4000000 in
set_option maxRecDepth 100000 in
/-- weak -/
theorem c_X6_weak (l : Launch) (G : EG) (o : Nat) (sa : Nat) (ia : Nat) (ka : Nat) (ea : Nat) (ca : Nat) (tr : Nat) (fi : Int32) (X : Nat → Nat) (hlv : ∀ q, q < 23 → X (17 + q) ≤ 9) (x : Int32) : RO l yX6_weak wsX6_weak (rmR 1 26) G [(o, .inr (5, [.ref sa, .ref ia, .ref ka, .ref ea, .int (nI tr), .int fi, .ref ca])), (sa, aI G 40 X)] [.ref o, .int x] (.int (mWeak X x)) := by
  refine RO.start (by decide) rfl (Nat.le_of_ble_eq_true rfl) ?_
  intro p e s m below meth c hx hb hr hml hts hown hlocks hP hE ls hl
  have hown : s.vm.findClass RX6 = some m.cls := hown
  have hl : lv_has ls 2 [(0, .ref o), (1, .int x)] := hl
  refine lv_iload_n hx hb dX6_weak_0 rfl (lv_at hl 1 rfl) ?_
  refine lv_iconst (v := nI 0) hx hb dX6_weak_1 (by decide) ?_
  refine lv_iconst (v := nI 3) hx hb dX6_weak_2 (by decide) ?_
  refine ro_S (rest := []) ⟨hx, hb, hml, hown, hts⟩ (c_X6_in l G x (nI 0) (nI 3)) (va_cwS 3 hts gX6_weak_X6_in rfl rfl rfl (by decide +kernel) ⟨Nat.le_of_ble_eq_true rfl, Nat.le_of_ble_eq_true rfl⟩) hE (hP.sub [] rfl) rfl hl.1 rfl (Nat.le_of_ble_eq_true rfl) dX6_weak_3 ⟨Nat.zero_le _, Nat.zero_le _⟩ ?_
  refine j_bool (fun c3 => ?_) (fun c3 => ?_)
  · skip
    obtain ⟨j, hj, rfl⟩ := inI_ex (N := 3) rfl c3 (by decide)
    refine j_if_eq (tgt := 17) hx hb dX6_weak_6 (by decide) (fun q => absurd q (by decide)) (fun _ => ?_)
    refine lv_aload_n hx hb dX6_weak_9 rfl (lv_at hl 0 rfl) ?_
    refine lv_iload_n hx hb dX6_weak_10 rfl (lv_at hl 1 rfl) ?_
    refine ro_V 5 0 (rest := []) ⟨hx, hb, hml, hown, hts⟩ (c_X6_weakAt l G o sa ia ka ea ca tr fi X hlv j (by omega)) (cwV 1 hts gX6_weak_X6_weakAt rfl rfl rfl (by decide +kernel) ⟨Nat.le_of_ble_eq_true rfl, Nat.le_of_ble_eq_true rfl⟩) hE (hP.sub [0, 1] rfl) rfl rfl rfl hl.1 rfl (Nat.le_of_ble_eq_true rfl) dX6_weak_11 ⟨Nat.zero_le _, Nat.zero_le _⟩ ?_
    refine lv_goto (tgt := 19) hx hb dX6_weak_14 (by decide) ?_
    exact ro_ret hx hb hr hlocks dX6_weak_19 (by rw [mWeak, if_pos (blw_j hj (by decide)), cl_nI hj (by decide)])
  · skip
    refine j_if_eq (tgt := 17) hx hb dX6_weak_6 (by decide) (fun _ => ?_) (fun q => absurd q (by decide))
    refine lv_bipush (v := (-2)) hx hb dX6_weak_17 (by decide) ?_
    exact ro_ret hx hb hr hlocks dX6_weak_19 (by rw [mWeak, if_neg (fun h => by rw [← inI_blw x (N := 4) (by decide) (by decide), show nI (4 - 1) = nI 3 from rfl, c3] at h; exact absurd h (by decide))])
set_option maxHeartbeats 4000000 in
set_option maxRecDepth 100000 in
/-- loss -/
theorem c_X6_loss (l : Launch) (G : EG) (o : Nat) (sa : Nat) (ia : Nat) (ka : Nat) (ea : Nat) (ca : Nat) (tr : Nat) (fi : Int32) (X : Nat → Nat) (u : Nat) (v : Nat) (hu : u < 8388608) (hv : v < 8388608) : RO l yX6_loss wsX6_loss (rmR 0 0) G [(o, .inr (5, [.ref sa, .ref ia, .ref ka, .ref ea, .int (nI tr), .int fi, .ref ca])), (sa, aI G 40 X)] [.ref o, .int (nI u), .int (nI v)] (.int (nI (losL X (u ^^^ v) 23))) := by
  refine RO.start (by decide) rfl (Nat.le_of_ble_eq_true rfl) ?_
  intro p e s m below meth c hx hb hr hml hts hown hlocks hP hE ls hl
  have hown : s.vm.findClass RX6 = some m.cls := hown
  have hl : lv_has ls 5 [(0, .ref o), (1, .int (nI u)), (2, .int (nI v))] := hl
  refine lv_iconst (v := nI 0) hx hb dX6_loss_0 (by decide) ?_
  refine lv_istore_n (lv' := [(3, .int (nI 0)), (0, .ref o), (1, .int (nI u)), (2, .int (nI v))]) hx hb dX6_loss_1 rfl hl (by decide) rfl (fun ls hl => ?_)
  refine lv_iconst (v := nI 0) hx hb dX6_loss_2 (by decide) ?_
  refine lv_istore (lv' := [(4, .int (nI 0)), (3, .int (nI 0)), (0, .ref o), (1, .int (nI u)), (2, .int (nI v))]) hx hb dX6_loss_3 hl (by decide) rfl (fun ls hl => ?_)
  have loop5 : ∀ (fuel : Nat) (t : Nat) (q : Nat), (q ≤ 23) → (t = losL X (u ^^^ v) q) → 23 - q < fuel → ∀ ls : Array Slot, lv_has ls 5 [(4, .int (nI q)), (3, .int (nI t)), (0, .ref o), (1, .int (nI u)), (2, .int (nI v))] → W p l e (rmR 0 0) s m ([.ref o, .int (nI u), .int (nI v)] : List Value).toArray below meth c s.heap [] 0 0 (MQ below (k2_QcV (.int (nI (losL X (u ^^^ v) 23)))) ([.ref o, .int (nI u), .int (nI v)] : List Value).toArray s 0 0 (fun _ => False)) (F0 m 5 ls []) := by
    intro fuel
    induction fuel with
    | zero => intro t q h1 h2 hf; exact absurd hf (Nat.not_lt_zero _)
    | succ fuel ih5 =>
      intro t q h1 h2 hf ls hl
      refine lv_iload hx hb dX6_loss_5 (lv_at hl 0 rfl) ?_
      refine lv_bipush (v := nI 23) hx hb dX6_loss_7 (by decide) ?_
      refine j_icmp_ge (tgt := 40) hx hb dX6_loss_9 (by decide) (fun c9 => ?_) (fun c9 => ?_)
      · skip
        refine lv_iload_n hx hb dX6_loss_40 rfl (lv_at hl 1 rfl) ?_
        exact ro_ret hx hb hr hlocks dX6_loss_41 (by rw [h2, show q = 23 by omega])
      · skip
        refine lv_iload_n hx hb dX6_loss_12 rfl (lv_at hl 1 rfl) ?_
        refine lv_iload_n hx hb dX6_loss_13 rfl (lv_at hl 3 rfl) ?_
        refine lv_iload_n hx hb dX6_loss_14 rfl (lv_at hl 4 rfl) ?_
        refine j_xor hx hb dX6_loss_15 ?_
        refine lv_iload hx hb dX6_loss_16 (lv_at hl 0 rfl) ?_
        refine j_shr hx hb dX6_loss_18 ?_ (ha := Nat.lt_trans (bd_xor 23 hu hv) (by decide)) (h := by omega)
        refine lv_iconst (v := nI 1) hx hb dX6_loss_19 (by decide) ?_
        refine j_and hx hb dX6_loss_20 ?_
        refine lv_aload_n hx hb dX6_loss_21 rfl (lv_at hl 2 rfl) ?_
        refine va_get (D := G.1) (ci := 5) (v := .ref sa) (C := RX6) (T := TX6) (N := 7) hx hb hts (fun w h => List.mem_cons_of_mem _ (List.mem_append_right _ h)) hown hE.1 hP 0 rfl rfl 0 (by decide) (hts (.fieldLink RX6 7 "TripleTrapModel" "state" "[I") (List.mem_of_getElem? (i := 1) rfl)) (fun _ h9 => h9) rfl dX6_loss_22 ?_
        refine lv_bipush (v := nI 17) hx hb dX6_loss_25 (by decide) ?_
        refine lv_iload hx hb dX6_loss_27 (lv_at hl 0 rfl) ?_
        refine j_add hx hb dX6_loss_29 ?_
        refine j_iald hx hb hE hP 1 rfl dX6_loss_30 ?_
        refine j_mul hx hb dX6_loss_31 ?_
        refine j_add hx hb dX6_loss_32 ?_
        refine j_top (fun x33 ex33 => ?_)
        refine lv_istore_n (lv' := [(3, .int (nI x33)), (4, .int (nI q)), (0, .ref o), (1, .int (nI u)), (2, .int (nI v))]) hx hb dX6_loss_33 rfl hl (by decide) rfl (fun ls hl => ?_)
        obtain ⟨x34, ex34⟩ : ∃ y : Nat, y = q + 1 := ⟨_, rfl⟩
        refine lv_iinc (v := nI x34) (lv' := [(4, .int (nI x34)), (3, .int (nI x33)), (0, .ref o), (1, .int (nI u)), (2, .int (nI v))]) hx hb dX6_loss_34 hl (k := 1) rfl (by rw [ex34]; exact nI_add _ _) (by decide) rfl (fun ls hl => ?_)
        refine lv_goto (tgt := 5) hx hb dX6_loss_37 (by decide) ?_
        exact ih5 x33 x34 (by omega) (by rw [ex33, ex34, h2]; rfl) (by omega) ls (lv_sub hl [0, 1, 2, 3, 4] rfl)
  exact loop5 _ 0 0 (by omega) rfl (Nat.lt_succ_self _) ls (lv_sub hl [0, 1, 2, 3, 4] rfl)
end
section
set_option maxHeartbeats 4000000 in
set_option maxRecDepth 100000 in
/-- layTries -/
theorem c_X6_layTries (l : Launch) (G : EG) (o : Nat) (sa : Nat) (ia : Nat) (ka : Nat) (ea : Nat) (ca : Nat) (tr : Nat) (fi : Int32) (X : Nat → Nat) (hlv : ∀ q, q < 23 → X (17 + q) ≤ 9) (E : Nat → Nat) (hEb : ∀ i, i < 2048 → E i < 8388608) (C : Nat → Nat) (wk : Nat → Nat) (hwk : ∀ j, j < 4 → wkL X j 23 = nI (wk j)) (hwk2 : ∀ j, j < 4 → wk j < 23) (w : Nat) (t : Nat) (hw : w < 8388608) (ht : t ≤ 4) (sz : Nat) : WR l yX6_layTries wsX6_layTries (rmR 2 43) G sz [(o, .inr (5, [.ref sa, .ref ia, .ref ka, .ref ea, .int (nI tr), .int fi, .ref ca])), (sa, aI G 40 X), (ea, aI G 2048 E), (ca, aI G 16 C)] [.ref o, .int (nI w), .int (nI t)] [(o, .inr (5, [.ref sa, .ref ia, .ref ka, .ref ea, .int (nI tr), .int fi, .ref ca])), (sa, aI G 40 X), (ea, aI G 2048 E), (ca, aI G 16 (comA E wk w t C (1 <<< t)))] none := by
  refine WR.start (by decide) rfl (Nat.le_of_ble_eq_true rfl) ?_
  intro p e s m below meth c hx hb hr hml hts hown hlocks hE A hA H locs hP hD hS ls hl
  have hown : s.vm.findClass RX6 = some m.cls := hown
  have hl : lv_has ls 6 [(0, .ref o), (1, .int (nI w)), (2, .int (nI t))] := hl
  refine lv_iconst (v := nI 0) hx hb dX6_layTries_0 (by decide) ?_
  refine lv_istore_n (lv' := [(3, .int (nI 0)), (0, .ref o), (1, .int (nI w)), (2, .int (nI t))]) hx hb dX6_layTries_1 rfl hl (by decide) rfl (fun ls hl => ?_)
  have loop2 : ∀ (fuel : Nat) (k : Nat) (D : Nat → Nat), (k ≤ 1 <<< t) → (D = comA E wk w t C k) → 1 <<< t - k < fuel → ∀ (H : Heap) (locs : List Loc), va_P G.1 vwCl [(o, .inr (5, [.ref sa, .ref ia, .ref ka, .ref ea, .int (nI tr), .int fi, .ref ca])), (sa, aI G 40 X), (ea, aI G 2048 E), (ca, aI G 16 D)] H → va_D A [(o, .inr (5, [.ref sa, .ref ia, .ref ka, .ref ea, .int (nI tr), .int fi, .ref ca])), (sa, aI G 40 X), (ea, aI G 2048 E), (ca, aI G 16 D)] → va_S A s.heap H locs → ∀ ls : Array Slot, lv_has ls 6 [(3, .int (nI k)), (0, .ref o), (1, .int (nI w)), (2, .int (nI t))] → W p l e (rmR 2 43) s m ([.ref o, .int (nI w), .int (nI t)] : List Value).toArray below meth c H locs 0 0 (MQ below (postW G [(o, .inr (5, [.ref sa, .ref ia, .ref ka, .ref ea, .int (nI tr), .int fi, .ref ca])), (sa, aI G 40 X), (ea, aI G 2048 E), (ca, aI G 16 (comA E wk w t C (1 <<< t)))] none A) ([.ref o, .int (nI w), .int (nI t)] : List Value).toArray s 0 0 A) (F0 m 2 ls []) := by
    intro fuel
    induction fuel with
    | zero => intro k D h1 h2 hf; exact absurd hf (Nat.not_lt_zero _)
    | succ fuel ih2 =>
      intro k D h1 h2 hf H locs hP hD hS ls hl
      refine lv_iload_n hx hb dX6_layTries_2 rfl (lv_at hl 0 rfl) ?_
      refine lv_iconst (v := nI 1) hx hb dX6_layTries_3 (by decide) ?_
      refine lv_iload_n hx hb dX6_layTries_4 rfl (lv_at hl 3 rfl) ?_
      refine j_shl hx hb dX6_layTries_5 ?_
      refine j_icmp_ge (tgt := 63) hx hb dX6_layTries_6 (by decide) (fun c6 => ?_) (fun c6 => ?_) (h1 := by have := shl16 ht; omega) (h2 := by have := shl16 ht; omega)
      · skip
        have eF : D = comA E wk w t C (1 <<< t) := by rw [h2, show k = 1 <<< t by omega]
        rw [eF] at hP hD
        clear eF
        exact wr_vret hx hb hr hlocks dX6_layTries_63 hP hD hS
      · skip
        refine lv_iload_n hx hb dX6_layTries_9 rfl (lv_at hl 2 rfl) ?_
        refine lv_istore (lv' := [(4, .int (nI w)), (3, .int (nI k)), (0, .ref o), (1, .int (nI w)), (2, .int (nI t))]) hx hb dX6_layTries_10 hl (by decide) rfl (fun ls hl => ?_)
        refine lv_iconst (v := nI 0) hx hb dX6_layTries_12 (by decide) ?_
        refine lv_istore (lv' := [(5, .int (nI 0)), (4, .int (nI w)), (3, .int (nI k)), (0, .ref o), (1, .int (nI w)), (2, .int (nI t))]) hx hb dX6_layTries_13 hl (by decide) rfl (fun ls hl => ?_)
        have loop15 : ∀ (fuel : Nat) (v : Nat) (j : Nat), (j ≤ t) → (v = tryL wk w k j) → t - j < fuel → ∀ (H : Heap) (locs : List Loc), va_P G.1 vwCl [(o, .inr (5, [.ref sa, .ref ia, .ref ka, .ref ea, .int (nI tr), .int fi, .ref ca])), (sa, aI G 40 X), (ea, aI G 2048 E), (ca, aI G 16 D)] H → va_D A [(o, .inr (5, [.ref sa, .ref ia, .ref ka, .ref ea, .int (nI tr), .int fi, .ref ca])), (sa, aI G 40 X), (ea, aI G 2048 E), (ca, aI G 16 D)] → va_S A s.heap H locs → ∀ ls : Array Slot, lv_has ls 6 [(5, .int (nI j)), (4, .int (nI v)), (3, .int (nI k)), (0, .ref o), (1, .int (nI w)), (2, .int (nI t))] → W p l e (rmR 2 43) s m ([.ref o, .int (nI w), .int (nI t)] : List Value).toArray below meth c H locs 0 0 (MQ below (postW G [(o, .inr (5, [.ref sa, .ref ia, .ref ka, .ref ea, .int (nI tr), .int fi, .ref ca])), (sa, aI G 40 X), (ea, aI G 2048 E), (ca, aI G 16 (comA E wk w t C (1 <<< t)))] none A) ([.ref o, .int (nI w), .int (nI t)] : List Value).toArray s 0 0 A) (F0 m 15 ls []) := by
          intro fuel
          induction fuel with
          | zero => intro v j g1 g2 hf; exact absurd hf (Nat.not_lt_zero _)
          | succ fuel ih15 =>
            intro v j g1 g2 hf H locs hP hD hS ls hl
            refine lv_iload hx hb dX6_layTries_15 (lv_at hl 0 rfl) ?_
            refine lv_iload_n hx hb dX6_layTries_17 rfl (lv_at hl 5 rfl) ?_
            refine j_icmp_ge (tgt := 45) hx hb dX6_layTries_18 (by decide) (fun c18 => ?_) (fun c18 => ?_)
            · skip
              refine lv_aload_n hx hb dX6_layTries_45 rfl (lv_at hl 3 rfl) ?_
              refine va_get (D := G.1) (ci := 5) (v := .ref ca) (C := RX6) (T := TX6) (N := 7) hx hb hts (fun w h => List.mem_cons_of_mem _ (List.mem_append_right _ h)) hown hE.1 hP 0 rfl rfl 6 (by decide) (hts (.fieldLink RX6 23 "TripleTrapModel" "comes" "[I") (List.mem_of_getElem? (i := 1) rfl)) (fun _ h9 => h9) rfl dX6_layTries_46 ?_
              refine lv_iload_n hx hb dX6_layTries_49 rfl (lv_at hl 2 rfl) ?_
              refine lv_aload_n hx hb dX6_layTries_50 rfl (lv_at hl 3 rfl) ?_
              refine lv_iload hx hb dX6_layTries_51 (lv_at hl 1 rfl) ?_
              refine ro_V 5 0 (rest := [.int (nI k), .ref ca]) ⟨hx, hb, hml, hown, hts⟩ (c_X6_nearest l G o sa ia ka ea ca tr fi E v (by rw [g2]; exact tryL_lt hw hwk2 _ (by omega))) (cwV 1 hts gX6_layTries_X6_nearest rfl rfl rfl (by decide +kernel) ⟨Nat.le_of_ble_eq_true rfl, Nat.le_of_ble_eq_true rfl⟩) hE (hP.sub [0, 2] rfl) rfl rfl rfl hl.1 rfl (Nat.le_of_ble_eq_true rfl) dX6_layTries_53 ⟨Nat.zero_le _, Nat.zero_le _⟩ ?_
              refine j_iast hx hb hE hP hD hS 3 rfl dX6_layTries_56 (fun H locs hP hD hS => ?_) (hk := by have := shl16 ht; omega) (hn := by decide)
              have hP : va_P G.1 vwCl [(o, .inr (5, [.ref sa, .ref ia, .ref ka, .ref ea, .int (nI tr), .int fi, .ref ca])), (sa, aI G 40 X), (ea, aI G 2048 E), (ca, aI G 16 (va_up D k (nearE E v)))] H := hP
              have hD : va_D A [(o, .inr (5, [.ref sa, .ref ia, .ref ka, .ref ea, .int (nI tr), .int fi, .ref ca])), (sa, aI G 40 X), (ea, aI G 2048 E), (ca, aI G 16 (va_up D k (nearE E v)))] := hD
              obtain ⟨x57, ex57⟩ : ∃ y : Nat, y = k + 1 := ⟨_, rfl⟩
              refine lv_iinc (v := nI x57) (lv' := [(3, .int (nI x57)), (5, .int (nI j)), (4, .int (nI v)), (0, .ref o), (1, .int (nI w)), (2, .int (nI t))]) hx hb dX6_layTries_57 hl (k := 2) rfl (by rw [ex57]; exact nI_add _ _) (by decide) rfl (fun ls hl => ?_)
              refine lv_goto (tgt := 2) hx hb dX6_layTries_60 (by decide) ?_
              exact ih2 x57 (va_up D k (nearE E v)) (by omega) (by rw [ex57, comA, ← h2, g2, show j = t by omega]) (by omega) H locs hP hD hS ls (lv_sub hl [0, 3, 4, 5] rfl)
            · skip
              refine lv_iload hx hb dX6_layTries_21 (lv_at hl 1 rfl) ?_
              refine lv_iload_n hx hb dX6_layTries_23 rfl (lv_at hl 2 rfl) ?_
              refine lv_iload hx hb dX6_layTries_24 (lv_at hl 0 rfl) ?_
              refine j_shr hx hb dX6_layTries_26 ?_ (ha := by have := shl16 ht; omega) (h := by omega)
              refine lv_iconst (v := nI 1) hx hb dX6_layTries_27 (by decide) ?_
              refine j_and hx hb dX6_layTries_28 ?_
              refine lv_aload_n hx hb dX6_layTries_29 rfl (lv_at hl 3 rfl) ?_
              refine lv_iload hx hb dX6_layTries_30 (lv_at hl 0 rfl) ?_
              refine ro_V 5 0 (rest := [.int (nI ((k >>> j) &&& 1)), .int (nI v)]) ⟨hx, hb, hml, hown, hts⟩ (c_X6_weakAt l G o sa ia ka ea ca tr fi X hlv j (by omega)) (cwV 1 hts gX6_layTries_X6_weakAt rfl rfl rfl (by decide +kernel) ⟨Nat.le_of_ble_eq_true rfl, Nat.le_of_ble_eq_true rfl⟩) hE (hP.sub [0, 1] rfl) rfl rfl rfl hl.1 rfl (Nat.le_of_ble_eq_true rfl) dX6_layTries_32 ⟨Nat.zero_le _, Nat.zero_le _⟩ ?_
              rw [hwk j (by omega)]
              refine j_shl hx hb dX6_layTries_35 ?_ (h := Nat.lt_trans (hwk2 j (by omega)) (by decide))
              refine j_xor hx hb dX6_layTries_36 ?_
              refine j_top (fun x37 ex37 => ?_)
              refine lv_istore (lv' := [(4, .int (nI x37)), (5, .int (nI j)), (3, .int (nI k)), (0, .ref o), (1, .int (nI w)), (2, .int (nI t))]) hx hb dX6_layTries_37 hl (by decide) rfl (fun ls hl => ?_)
              obtain ⟨x39, ex39⟩ : ∃ y : Nat, y = j + 1 := ⟨_, rfl⟩
              refine lv_iinc (v := nI x39) (lv' := [(5, .int (nI x39)), (4, .int (nI x37)), (3, .int (nI k)), (0, .ref o), (1, .int (nI w)), (2, .int (nI t))]) hx hb dX6_layTries_39 hl (k := 1) rfl (by rw [ex39]; exact nI_add _ _) (by decide) rfl (fun ls hl => ?_)
              refine lv_goto (tgt := 15) hx hb dX6_layTries_42 (by decide) ?_
              exact ih15 x37 x39 (by omega) (by rw [ex37, ex39, g2]; rfl) (by omega) H locs hP hD hS ls (lv_sub hl [0, 1, 2, 3, 4, 5] rfl)
        exact loop15 _ w 0 (by omega) rfl (Nat.lt_succ_self _) H locs hP hD hS ls (lv_sub hl [0, 1, 2, 3, 4, 5] rfl)
  exact loop2 _ 0 C (Nat.zero_le _) rfl (Nat.lt_succ_self _) H locs hP hD hS ls (lv_sub hl [0, 1, 2, 3] rfl)
set_option maxHeartbeats 4000000 in
set_option maxRecDepth 100000 in
/-- unlike -/
theorem c_X6_unlike (l : Launch) (G : EG) (o : Nat) (sa : Nat) (ia : Nat) (ka : Nat) (ea : Nat) (ca : Nat) (tr : Nat) (fi : Int32) (C : Nat → Nat) (d : Nat) (hd : d ≤ 16) (hC : ∀ i, i < 16 → C i < 8388608) : RO l yX6_unlike wsX6_unlike (rmR 0 0) G [(o, .inr (5, [.ref sa, .ref ia, .ref ka, .ref ea, .int (nI tr), .int fi, .ref ca])), (ca, aI G 16 C)] [.ref o, .int (nI d)] (.int (nI (unlL C d))) := by
  refine RO.start (by decide) rfl (Nat.le_of_ble_eq_true rfl) ?_
  intro p e s m below meth c hx hb hr hml hts hown hlocks hP hE ls hl
  have hown : s.vm.findClass RX6 = some m.cls := hown
  have hl : lv_has ls 6 [(0, .ref o), (1, .int (nI d))] := hl
  refine lv_iconst (v := nI 0) hx hb dX6_unlike_0 (by decide) ?_
  refine lv_istore_n (lv' := [(2, .int (nI 0)), (0, .ref o), (1, .int (nI d))]) hx hb dX6_unlike_1 rfl hl (by decide) rfl (fun ls hl => ?_)
  refine lv_iconst (v := nI 0) hx hb dX6_unlike_2 (by decide) ?_
  refine lv_istore_n (lv' := [(3, .int (nI 0)), (2, .int (nI 0)), (0, .ref o), (1, .int (nI d))]) hx hb dX6_unlike_3 rfl hl (by decide) rfl (fun ls hl => ?_)
  have loop4 : ∀ (fuel : Nat) (t : Nat) (k : Nat), (k ≤ d) → (t = unlL C k) → d - k < fuel → ∀ ls : Array Slot, lv_has ls 6 [(3, .int (nI k)), (2, .int (nI t)), (0, .ref o), (1, .int (nI d))] → W p l e (rmR 0 0) s m ([.ref o, .int (nI d)] : List Value).toArray below meth c s.heap [] 0 0 (MQ below (k2_QcV (.int (nI (unlL C d)))) ([.ref o, .int (nI d)] : List Value).toArray s 0 0 (fun _ => False)) (F0 m 4 ls []) := by
    intro fuel
    induction fuel with
    | zero => intro t k h1 h2 hf; exact absurd hf (Nat.not_lt_zero _)
    | succ fuel ih4 =>
      intro t k h1 h2 hf ls hl
      refine lv_iload_n hx hb dX6_unlike_4 rfl (lv_at hl 0 rfl) ?_
      refine lv_iload_n hx hb dX6_unlike_5 rfl (lv_at hl 3 rfl) ?_
      refine j_icmp_ge (tgt := 74) hx hb dX6_unlike_6 (by decide) (fun c6 => ?_) (fun c6 => ?_)
      · skip
        refine lv_iload_n hx hb dX6_unlike_74 rfl (lv_at hl 1 rfl) ?_
        exact ro_ret hx hb hr hlocks dX6_unlike_75 (by rw [h2, show k = d by omega])
      · skip
        refine lv_iconst (v := nI 1) hx hb dX6_unlike_9 (by decide) ?_
        refine lv_istore (lv' := [(4, .int (nI 1)), (3, .int (nI k)), (2, .int (nI t)), (0, .ref o), (1, .int (nI d))]) hx hb dX6_unlike_10 hl (by decide) rfl (fun ls hl => ?_)
        refine lv_iconst (v := nI 0) hx hb dX6_unlike_12 (by decide) ?_
        refine lv_istore (lv' := [(5, .int (nI 0)), (4, .int (nI 1)), (3, .int (nI k)), (2, .int (nI t)), (0, .ref o), (1, .int (nI d))]) hx hb dX6_unlike_13 hl (by decide) rfl (fun ls hl => ?_)
        have loop15 : ∀ (fuel : Nat) (f : Nat) (q : Nat), (q ≤ k) → (f = 0 ∨ f = 1) → (f = 1 → ∀ i, i < q → ¬ C i = C k) → (f = 0 → ∃ i, i < k ∧ C i = C k) → k - q < fuel → ∀ ls : Array Slot, lv_has ls 6 [(5, .int (nI q)), (4, .int (nI f)), (3, .int (nI k)), (2, .int (nI t)), (0, .ref o), (1, .int (nI d))] → W p l e (rmR 0 0) s m ([.ref o, .int (nI d)] : List Value).toArray below meth c s.heap [] 0 0 (MQ below (k2_QcV (.int (nI (unlL C d)))) ([.ref o, .int (nI d)] : List Value).toArray s 0 0 (fun _ => False)) (F0 m 15 ls []) := by
          intro fuel
          induction fuel with
          | zero => intro f q g1 g2 g3 g4 hf; exact absurd hf (Nat.not_lt_zero _)
          | succ fuel ih15 =>
            intro f q g1 g2 g3 g4 hf ls hl
            refine lv_iload hx hb dX6_unlike_15 (lv_at hl 0 rfl) ?_
            refine lv_iload_n hx hb dX6_unlike_17 rfl (lv_at hl 2 rfl) ?_
            refine j_icmp_ge (tgt := 55) hx hb dX6_unlike_18 (by decide) (fun c18 => ?_) (fun c18 => ?_)
            · skip
              refine lv_iload_n hx hb dX6_unlike_55 rfl (lv_at hl 3 rfl) ?_
              refine lv_iload hx hb dX6_unlike_56 (lv_at hl 1 rfl) ?_
              refine j_if_eq (tgt := 65) hx hb dX6_unlike_58 (by decide) (fun c58 => ?_) (fun c58 => ?_)
              · skip
                refine lv_iconst (v := nI 0) hx hb dX6_unlike_65 (by decide) ?_
                refine j_add hx hb dX6_unlike_66 ?_
                refine j_top (fun x67 ex67 => ?_)
                refine lv_istore_n (lv' := [(2, .int (nI x67)), (5, .int (nI q)), (4, .int (nI f)), (3, .int (nI k)), (0, .ref o), (1, .int (nI d))]) hx hb dX6_unlike_67 rfl hl (by decide) rfl (fun ls hl => ?_)
                obtain ⟨x68, ex68⟩ : ∃ y : Nat, y = k + 1 := ⟨_, rfl⟩
                refine lv_iinc (v := nI x68) (lv' := [(3, .int (nI x68)), (2, .int (nI x67)), (5, .int (nI q)), (4, .int (nI f)), (0, .ref o), (1, .int (nI d))]) hx hb dX6_unlike_68 hl (k := 3) rfl (by rw [ex68]; exact nI_add _ _) (by decide) rfl (fun ls hl => ?_)
                refine lv_goto (tgt := 4) hx hb dX6_unlike_71 (by decide) ?_
                exact ih4 x67 x68 (by omega) (by obtain ⟨i, q1, q2⟩ := g4 c58; rw [ex67, ex68, h2, unlL, uq_f q1 q2]; rfl) (by omega) ls (lv_sub hl [0, 1, 4, 5] rfl)
              · skip
                refine lv_iconst (v := nI 1) hx hb dX6_unlike_61 (by decide) ?_
                refine lv_goto (tgt := 66) hx hb dX6_unlike_62 (by decide) ?_
                refine j_add hx hb dX6_unlike_66 ?_
                refine j_top (fun x67 ex67 => ?_)
                refine lv_istore_n (lv' := [(2, .int (nI x67)), (5, .int (nI q)), (4, .int (nI f)), (3, .int (nI k)), (0, .ref o), (1, .int (nI d))]) hx hb dX6_unlike_67 rfl hl (by decide) rfl (fun ls hl => ?_)
                obtain ⟨x68, ex68⟩ : ∃ y : Nat, y = k + 1 := ⟨_, rfl⟩
                refine lv_iinc (v := nI x68) (lv' := [(3, .int (nI x68)), (2, .int (nI x67)), (5, .int (nI q)), (4, .int (nI f)), (0, .ref o), (1, .int (nI d))]) hx hb dX6_unlike_68 hl (k := 3) rfl (by rw [ex68]; exact nI_add _ _) (by decide) rfl (fun ls hl => ?_)
                refine lv_goto (tgt := 4) hx hb dX6_unlike_71 (by decide) ?_
                exact ih4 x67 x68 (by omega) (by rw [ex67, ex68, h2, unlL, uq_t (fun i hi => g3 (by omega) i (by omega))]; rfl) (by omega) ls (lv_sub hl [0, 1, 4, 5] rfl)
            · skip
              refine lv_iload hx hb dX6_unlike_21 (lv_at hl 1 rfl) ?_
              refine j_if_eq (tgt := 46) hx hb dX6_unlike_23 (by decide) (fun c23 => ?_) (fun c23 => ?_)
              · skip
                refine lv_iconst (v := nI 0) hx hb dX6_unlike_46 (by decide) ?_
                refine lv_istore (lv' := [(4, .int (nI 0)), (5, .int (nI q)), (3, .int (nI k)), (2, .int (nI t)), (0, .ref o), (1, .int (nI d))]) hx hb dX6_unlike_47 hl (by decide) rfl (fun ls hl => ?_)
                obtain ⟨x49, ex49⟩ : ∃ y : Nat, y = q + 1 := ⟨_, rfl⟩
                refine lv_iinc (v := nI x49) (lv' := [(5, .int (nI x49)), (4, .int (nI 0)), (3, .int (nI k)), (2, .int (nI t)), (0, .ref o), (1, .int (nI d))]) hx hb dX6_unlike_49 hl (k := 1) rfl (by rw [ex49]; exact nI_add _ _) (by decide) rfl (fun ls hl => ?_)
                refine lv_goto (tgt := 15) hx hb dX6_unlike_52 (by decide) ?_
                exact ih15 0 x49 (by omega) (Or.inl rfl) (fun h => absurd h (by decide)) (fun _ => g4 c23) (by omega) ls (lv_sub hl [0, 1, 2, 3, 4, 5] rfl)
              · skip
                refine lv_aload_n hx hb dX6_unlike_26 rfl (lv_at hl 4 rfl) ?_
                refine va_get (D := G.1) (ci := 5) (v := .ref ca) (C := RX6) (T := TX6) (N := 7) hx hb hts (fun w h => List.mem_cons_of_mem _ (List.mem_append_right _ h)) hown hE.1 hP 0 rfl rfl 6 (by decide) (hts (.fieldLink RX6 23 "TripleTrapModel" "comes" "[I") (List.mem_of_getElem? (i := 1) rfl)) (fun _ h9 => h9) rfl dX6_unlike_27 ?_
                refine lv_iload hx hb dX6_unlike_30 (lv_at hl 0 rfl) ?_
                refine j_iald hx hb hE hP 1 rfl dX6_unlike_32 ?_
                refine lv_aload_n hx hb dX6_unlike_33 rfl (lv_at hl 4 rfl) ?_
                refine va_get (D := G.1) (ci := 5) (v := .ref ca) (C := RX6) (T := TX6) (N := 7) hx hb hts (fun w h => List.mem_cons_of_mem _ (List.mem_append_right _ h)) hown hE.1 hP 0 rfl rfl 6 (by decide) (hts (.fieldLink RX6 23 "TripleTrapModel" "comes" "[I") (List.mem_of_getElem? (i := 1) rfl)) (fun _ h9 => h9) rfl dX6_unlike_34 ?_
                refine lv_iload_n hx hb dX6_unlike_37 rfl (lv_at hl 2 rfl) ?_
                refine j_iald hx hb hE hP 1 rfl dX6_unlike_38 ?_
                refine j_icmp_eq (tgt := 46) hx hb dX6_unlike_39 (by decide) (fun c39 => ?_) (fun c39 => ?_) (h1 := Nat.lt_trans (hC q (by omega)) (by decide)) (h2 := Nat.lt_trans (hC k (by omega)) (by decide))
                · skip
                  refine lv_iconst (v := nI 0) hx hb dX6_unlike_46 (by decide) ?_
                  refine lv_istore (lv' := [(4, .int (nI 0)), (5, .int (nI q)), (3, .int (nI k)), (2, .int (nI t)), (0, .ref o), (1, .int (nI d))]) hx hb dX6_unlike_47 hl (by decide) rfl (fun ls hl => ?_)
                  obtain ⟨x49, ex49⟩ : ∃ y : Nat, y = q + 1 := ⟨_, rfl⟩
                  refine lv_iinc (v := nI x49) (lv' := [(5, .int (nI x49)), (4, .int (nI 0)), (3, .int (nI k)), (2, .int (nI t)), (0, .ref o), (1, .int (nI d))]) hx hb dX6_unlike_49 hl (k := 1) rfl (by rw [ex49]; exact nI_add _ _) (by decide) rfl (fun ls hl => ?_)
                  refine lv_goto (tgt := 15) hx hb dX6_unlike_52 (by decide) ?_
                  exact ih15 0 x49 (by omega) (Or.inl rfl) (fun h => absurd h (by decide)) (fun _ => ⟨q, by omega, c39⟩) (by omega) ls (lv_sub hl [0, 1, 2, 3, 4, 5] rfl)
                · skip
                  refine lv_iconst (v := nI 1) hx hb dX6_unlike_42 (by decide) ?_
                  refine lv_goto (tgt := 47) hx hb dX6_unlike_43 (by decide) ?_
                  refine lv_istore (lv' := [(4, .int (nI 1)), (5, .int (nI q)), (3, .int (nI k)), (2, .int (nI t)), (0, .ref o), (1, .int (nI d))]) hx hb dX6_unlike_47 hl (by decide) rfl (fun ls hl => ?_)
                  obtain ⟨x49, ex49⟩ : ∃ y : Nat, y = q + 1 := ⟨_, rfl⟩
                  refine lv_iinc (v := nI x49) (lv' := [(5, .int (nI x49)), (4, .int (nI 1)), (3, .int (nI k)), (2, .int (nI t)), (0, .ref o), (1, .int (nI d))]) hx hb dX6_unlike_49 hl (k := 1) rfl (by rw [ex49]; exact nI_add _ _) (by decide) rfl (fun ls hl => ?_)
                  refine lv_goto (tgt := 15) hx hb dX6_unlike_52 (by decide) ?_
                  exact ih15 1 x49 (by omega) (Or.inr rfl) (by rw [ex49]; intro _; exact lt_s (g3 (g2.resolve_left c23)) c39) (fun h => absurd h (by decide)) (by omega) ls (lv_sub hl [0, 1, 2, 3, 4, 5] rfl)
        exact loop15 _ 1 0 (by omega) (Or.inr rfl) (fun _ _ h => absurd h (Nat.not_lt_zero _)) (fun h => absurd h (by decide)) (Nat.lt_succ_self _) ls (lv_sub hl [0, 1, 2, 3, 4, 5] rfl)
  exact loop4 _ 0 0 (by omega) rfl (Nat.lt_succ_self _) ls (lv_sub hl [0, 1, 2, 3] rfl)
set_option maxHeartbeats 4000000 in
set_option maxRecDepth 100000 in
/-- chosen -/
theorem c_X6_chosen (l : Launch) (G : EG) (o : Nat) (sa : Nat) (ia : Nat) (ka : Nat) (ea : Nat) (ca : Nat) (tr : Nat) (fi : Int32) (X : Nat → Nat) (hlv : ∀ q, q < 23 → X (17 + q) ≤ 9) (E : Nat → Nat) (hEb : ∀ i, i < 2048 → E i < 8388608) (C : Nat → Nat) (hC : ∀ i, i < 16 → C i < 8388608) (wk : Nat → Nat) (hwk : ∀ j, j < 4 → wkL X j 23 = nI (wk j)) (hwk2 : ∀ j, j < 4 → wk j < 23) (x : Int32) (y : Int32) (z : Int32) (sz : Nat) : WR l yX6_chosen wsX6_chosen (rmR 3 68) G sz [(o, .inr (5, [.ref sa, .ref ia, .ref ka, .ref ea, .int (nI tr), .int fi, .ref ca])), (sa, aI G 40 X), (ea, aI G 2048 E), (ca, aI G 16 C)] [.ref o, .int x, .int y, .int z] [(o, .inr (5, [.ref sa, .ref ia, .ref ka, .ref ea, .int (nI tr), .int fi, .ref ca])), (sa, aI G 40 X), (ea, aI G 2048 E), (ca, aI G 16 (mChosenC E wk C x y z))] (some (.int (mChosen E wk X C x y z))) := by
  refine WR.start (by decide) rfl (Nat.le_of_ble_eq_true rfl) ?_
  intro p e s m below meth c hx hb hr hml hts hown hlocks hE A hA H locs hP hD hS ls hl
  have hown : s.vm.findClass RX6 = some m.cls := hown
  have hl : lv_has ls 6 [(0, .ref o), (1, .int x), (2, .int y), (3, .int z)] := hl
  refine lv_iload_n hx hb dX6_chosen_0 rfl (lv_at hl 1 rfl) ?_
  refine ro_S (rest := []) ⟨hx, hb, hml, hown, hts⟩ (c_X6_isWord l G x) (va_cwS 1 hts gX6_chosen_X6_isWord rfl rfl rfl (by decide +kernel) ⟨Nat.le_of_ble_eq_true rfl, Nat.le_of_ble_eq_true rfl⟩) hE (hP.sub [] rfl) rfl hl.1 rfl (Nat.le_of_ble_eq_true rfl) dX6_chosen_1 ⟨Nat.zero_le _, Nat.zero_le _⟩ ?_
  refine j_bool (fun c1 => ?_) (fun c1 => ?_)
  · skip
    obtain ⟨w, hw, rfl⟩ := blw_ex c1 (by decide)
    refine j_if_eq (tgt := 25) hx hb dX6_chosen_4 (by decide) (fun q => absurd q (by decide)) (fun _ => ?_)
    refine lv_iload_n hx hb dX6_chosen_7 rfl (lv_at hl 2 rfl) ?_
    refine lv_iconst (v := nI 0) hx hb dX6_chosen_8 (by decide) ?_
    refine lv_iconst (v := nI 4) hx hb dX6_chosen_9 (by decide) ?_
    refine ro_S (rest := []) ⟨hx, hb, hml, hown, hts⟩ (c_X6_in l G y (nI 0) (nI 4)) (va_cwS 3 hts gX6_chosen_X6_in rfl rfl rfl (by decide +kernel) ⟨Nat.le_of_ble_eq_true rfl, Nat.le_of_ble_eq_true rfl⟩) hE (hP.sub [] rfl) rfl hl.1 rfl (Nat.le_of_ble_eq_true rfl) dX6_chosen_10 ⟨Nat.zero_le _, Nat.zero_le _⟩ ?_
    refine j_bool (fun c10 => ?_) (fun c10 => ?_)
    · skip
      obtain ⟨t, ht, rfl⟩ := inI_ex (N := 4) rfl c10 (by decide)
      refine j_if_eq (tgt := 25) hx hb dX6_chosen_13 (by decide) (fun q => absurd q (by decide)) (fun _ => ?_)
      refine lv_iload_n hx hb dX6_chosen_16 rfl (lv_at hl 3 rfl) ?_
      refine lv_iconst (v := nI 0) hx hb dX6_chosen_17 (by decide) ?_
      refine lv_iconst (v := nI 3) hx hb dX6_chosen_18 (by decide) ?_
      refine ro_S (rest := []) ⟨hx, hb, hml, hown, hts⟩ (c_X6_in l G z (nI 0) (nI 3)) (va_cwS 3 hts gX6_chosen_X6_in rfl rfl rfl (by decide +kernel) ⟨Nat.le_of_ble_eq_true rfl, Nat.le_of_ble_eq_true rfl⟩) hE (hP.sub [] rfl) rfl hl.1 rfl (Nat.le_of_ble_eq_true rfl) dX6_chosen_19 ⟨Nat.zero_le _, Nat.zero_le _⟩ ?_
      refine j_bool (fun c19 => ?_) (fun c19 => ?_)
      · skip
        obtain ⟨j, hj, rfl⟩ := inI_ex (N := 3) rfl c19 (by decide)
        refine j_if_ne (tgt := 28) hx hb dX6_chosen_22 (by decide) (fun _ => ?_) (fun q => absurd q (by decide))
        refine lv_aload_n hx hb dX6_chosen_28 rfl (lv_at hl 0 rfl) ?_
        refine lv_iload_n hx hb dX6_chosen_29 rfl (lv_at hl 1 rfl) ?_
        refine lv_iload_n hx hb dX6_chosen_30 rfl (lv_at hl 2 rfl) ?_
        refine wr_V 5 0 (rest := []) (wr := []) ⟨hx, hb, hml, hown, hts⟩ (c_X6_layTries l G o sa ia ka ea ca tr fi X hlv E hEb C wk hwk hwk2 w t (by omega) (by omega) H.size) (cwV 2 hts gX6_chosen_X6_layTries rfl rfl rfl (by decide +kernel) ⟨Nat.le_of_ble_eq_true rfl, Nat.le_of_ble_eq_true rfl⟩) hE hP hD hS hA [0, 1, 2, 3] [] rfl rfl (by decide) (by decide) (by decide) rfl rfl rfl hl.1 rfl (Nat.le_of_ble_eq_true rfl) dX6_chosen_31 ⟨Nat.zero_le _, Nat.zero_le _⟩ (fun H locs hP hD hS => ?_)
        have hP : va_P G.1 vwCl [(o, .inr (5, [.ref sa, .ref ia, .ref ka, .ref ea, .int (nI tr), .int fi, .ref ca])), (sa, aI G 40 X), (ea, aI G 2048 E), (ca, aI G 16 (comA E wk w t C (1 <<< t)))] H := hP.sub [0, 1, 2, 3] rfl
        have hD : va_D A [(o, .inr (5, [.ref sa, .ref ia, .ref ka, .ref ea, .int (nI tr), .int fi, .ref ca])), (sa, aI G 40 X), (ea, aI G 2048 E), (ca, aI G 16 (comA E wk w t C (1 <<< t)))] := hD.sub [0, 1, 2, 3] (by decide) rfl
        obtain ⟨D, eD⟩ : ∃ z : Nat → Nat, z = comA E wk w t C (1 <<< t) := ⟨_, rfl⟩
        rw [← eD] at hP hD
        have hDb : ∀ i, i < 16 → D i < 8388608 := by rw [eD]; exact comA_lt hEb hwk2 hw (by omega) hC _
        have h16 := shl16 (show t ≤ 4 by omega)
        have h01 : 1 ≤ 1 <<< t := by rw [Nat.shiftLeft_eq, Nat.one_mul]; exact Nat.one_le_two_pow
        refine lv_iconst (v := nI 0) hx hb dX6_chosen_34 (by decide) ?_
        refine lv_istore (lv' := [(4, .int (nI 0)), (0, .ref o), (1, .int (nI w)), (2, .int (nI t)), (3, .int (nI j))]) hx hb dX6_chosen_35 hl (by decide) rfl (fun ls hl => ?_)
        refine lv_iconst (v := nI 1) hx hb dX6_chosen_37 (by decide) ?_
        refine lv_istore (lv' := [(5, .int (nI 1)), (4, .int (nI 0)), (0, .ref o), (1, .int (nI w)), (2, .int (nI t)), (3, .int (nI j))]) hx hb dX6_chosen_38 hl (by decide) rfl (fun ls hl => ?_)
        have loop40 : ∀ (fuel : Nat) (u : Nat) (k : Nat), (1 ≤ k) → (k ≤ 1 <<< t) → (u = bstL X D w (k - 1)) → 1 <<< t - k < fuel → ∀ (H : Heap) (locs : List Loc), va_P G.1 vwCl [(o, .inr (5, [.ref sa, .ref ia, .ref ka, .ref ea, .int (nI tr), .int fi, .ref ca])), (sa, aI G 40 X), (ea, aI G 2048 E), (ca, aI G 16 D)] H → va_D A [(o, .inr (5, [.ref sa, .ref ia, .ref ka, .ref ea, .int (nI tr), .int fi, .ref ca])), (sa, aI G 40 X), (ea, aI G 2048 E), (ca, aI G 16 D)] → va_S A s.heap H locs → ∀ ls : Array Slot, lv_has ls 6 [(5, .int (nI k)), (4, .int (nI u)), (0, .ref o), (1, .int (nI w)), (2, .int (nI t)), (3, .int (nI j))] → W p l e (rmR 3 68) s m ([.ref o, .int (nI w), .int (nI t), .int (nI j)] : List Value).toArray below meth c H locs 0 0 (MQ below (postW G [(o, .inr (5, [.ref sa, .ref ia, .ref ka, .ref ea, .int (nI tr), .int fi, .ref ca])), (sa, aI G 40 X), (ea, aI G 2048 E), (ca, aI G 16 (mChosenC E wk C (nI w) (nI t) (nI j)))] (some (.int (mChosen E wk X C (nI w) (nI t) (nI j)))) A) ([.ref o, .int (nI w), .int (nI t), .int (nI j)] : List Value).toArray s 0 0 A) (F0 m 40 ls []) := by
          intro fuel
          induction fuel with
          | zero => intro u k h1 h2 h3 hf; exact absurd hf (Nat.not_lt_zero _)
          | succ fuel ih40 =>
            intro u k h1 h2 h3 hf H locs hP hD hS ls hl
            have hu : u ≤ k - 1 := by rw [h3]; exact bstL_le _ _ _ _
            refine lv_iload hx hb dX6_chosen_40 (lv_at hl 0 rfl) ?_
            refine lv_iconst (v := nI 1) hx hb dX6_chosen_42 (by decide) ?_
            refine lv_iload_n hx hb dX6_chosen_43 rfl (lv_at hl 4 rfl) ?_
            refine j_shl hx hb dX6_chosen_44 ?_
            refine j_icmp_ge (tgt := 90) hx hb dX6_chosen_45 (by decide) (fun c45 => ?_) (fun c45 => ?_)
            · skip
              refine lv_iload_n hx hb dX6_chosen_90 rfl (lv_at hl 5 rfl) ?_
              refine j_if_ne (tgt := 104) hx hb dX6_chosen_91 (by decide) (fun c91 => ?_) (fun c91 => ?_)
              · skip
                refine lv_iload_n hx hb dX6_chosen_104 rfl (lv_at hl 5 rfl) ?_
                refine lv_iconst (v := nI 1) hx hb dX6_chosen_105 (by decide) ?_
                refine j_icmp_ne (tgt := 124) hx hb dX6_chosen_106 (by decide) (fun c106 => ?_) (fun c106 => ?_)
                · skip
                  refine lv_iload_n hx hb dX6_chosen_124 rfl (lv_at hl 5 rfl) ?_
                  refine lv_iconst (v := nI 2) hx hb dX6_chosen_125 (by decide) ?_
                  refine j_icmp_ne (tgt := 134) hx hb dX6_chosen_126 (by decide) (fun c126 => ?_) (fun c126 => ?_)
                  · skip
                    refine lv_aload_n hx hb dX6_chosen_134 rfl (lv_at hl 2 rfl) ?_
                    refine lv_iconst (v := nI 1) hx hb dX6_chosen_135 (by decide) ?_
                    refine lv_iload_n hx hb dX6_chosen_136 rfl (lv_at hl 4 rfl) ?_
                    refine j_shl hx hb dX6_chosen_137 ?_
                    refine ro_V 5 0 (rest := []) ⟨hx, hb, hml, hown, hts⟩ (c_X6_unlike l G o sa ia ka ea ca tr fi D (1 <<< t) (by omega) hDb) (cwV 1 hts gX6_chosen_X6_unlike rfl rfl rfl (by decide +kernel) ⟨Nat.le_of_ble_eq_true rfl, Nat.le_of_ble_eq_true rfl⟩) hE (hP.sub [0, 3] rfl) rfl rfl rfl hl.1 rfl (Nat.le_of_ble_eq_true rfl) dX6_chosen_138 ⟨Nat.zero_le _, Nat.zero_le _⟩ ?_
                    have eF : D = mChosenC E wk C (nI w) (nI t) (nI j) := by rw [mChosenC, if_pos ⟨c1, blw_j ht (by decide), blw_j hj (by decide)⟩, cl_nI hw (by decide), cl_nI ht (by decide), eD]
                    rw [eF] at hP hD
                    clear eF
                    exact wr_ret hx hb hr hlocks dX6_chosen_141 hP hD hS (by rw [mChosen, if_pos ⟨c1, blw_j ht (by decide), blw_j hj (by decide)⟩, cl_nI hw (by decide), cl_nI ht (by decide), cl_nI hj (by decide), ← eD, chsV, if_neg c91, if_neg c106, if_neg c126])
                  · skip
                    refine lv_iload hx hb dX6_chosen_129 (lv_at hl 1 rfl) ?_
                    refine lv_goto (tgt := 141) hx hb dX6_chosen_131 (by decide) ?_
                    have eF : D = mChosenC E wk C (nI w) (nI t) (nI j) := by rw [mChosenC, if_pos ⟨c1, blw_j ht (by decide), blw_j hj (by decide)⟩, cl_nI hw (by decide), cl_nI ht (by decide), eD]
                    rw [eF] at hP hD
                    clear eF
                    exact wr_ret hx hb hr hlocks dX6_chosen_141 hP hD hS (by rw [mChosen, if_pos ⟨c1, blw_j ht (by decide), blw_j hj (by decide)⟩, cl_nI hw (by decide), cl_nI ht (by decide), cl_nI hj (by decide), ← eD, chsV, if_neg c91, if_neg c106, if_pos c126, h3, show k - 1 = 1 <<< t - 1 by omega])
                · skip
                  refine lv_aload_n hx hb dX6_chosen_109 rfl (lv_at hl 2 rfl) ?_
                  refine lv_aload_n hx hb dX6_chosen_110 rfl (lv_at hl 2 rfl) ?_
                  refine va_get (D := G.1) (ci := 5) (v := .ref ca) (C := RX6) (T := TX6) (N := 7) hx hb hts (fun w h => List.mem_cons_of_mem _ (List.mem_append_right _ h)) hown hE.1 hP 0 rfl rfl 6 (by decide) (hts (.fieldLink RX6 23 "TripleTrapModel" "comes" "[I") (List.mem_of_getElem? (i := 1) rfl)) (fun _ h9 => h9) rfl dX6_chosen_111 ?_
                  refine lv_iload hx hb dX6_chosen_114 (lv_at hl 1 rfl) ?_
                  refine j_iald hx hb hE hP 3 rfl dX6_chosen_116 ?_
                  refine lv_iload_n hx hb dX6_chosen_117 rfl (lv_at hl 3 rfl) ?_
                  refine ro_V 5 0 (rest := []) ⟨hx, hb, hml, hown, hts⟩ (c_X6_loss l G o sa ia ka ea ca tr fi X (D u) w (hDb _ (by omega)) (by omega)) (cwV 2 hts gX6_chosen_X6_loss rfl rfl rfl (by decide +kernel) ⟨Nat.le_of_ble_eq_true rfl, Nat.le_of_ble_eq_true rfl⟩) hE (hP.sub [0, 1] rfl) rfl rfl rfl hl.1 rfl (Nat.le_of_ble_eq_true rfl) dX6_chosen_118 ⟨Nat.zero_le _, Nat.zero_le _⟩ ?_
                  refine lv_goto (tgt := 141) hx hb dX6_chosen_121 (by decide) ?_
                  have eF : D = mChosenC E wk C (nI w) (nI t) (nI j) := by rw [mChosenC, if_pos ⟨c1, blw_j ht (by decide), blw_j hj (by decide)⟩, cl_nI hw (by decide), cl_nI ht (by decide), eD]
                  rw [eF] at hP hD
                  clear eF
                  exact wr_ret hx hb hr hlocks dX6_chosen_141 hP hD hS (by rw [mChosen, if_pos ⟨c1, blw_j ht (by decide), blw_j hj (by decide)⟩, cl_nI hw (by decide), cl_nI ht (by decide), cl_nI hj (by decide), ← eD, chsV, if_neg c91, if_pos c106, h3, show k - 1 = 1 <<< t - 1 by omega])
              · skip
                refine lv_aload_n hx hb dX6_chosen_94 rfl (lv_at hl 2 rfl) ?_
                refine va_get (D := G.1) (ci := 5) (v := .ref ca) (C := RX6) (T := TX6) (N := 7) hx hb hts (fun w h => List.mem_cons_of_mem _ (List.mem_append_right _ h)) hown hE.1 hP 0 rfl rfl 6 (by decide) (hts (.fieldLink RX6 23 "TripleTrapModel" "comes" "[I") (List.mem_of_getElem? (i := 1) rfl)) (fun _ h9 => h9) rfl dX6_chosen_95 ?_
                refine lv_iload hx hb dX6_chosen_98 (lv_at hl 1 rfl) ?_
                refine j_iald hx hb hE hP 3 rfl dX6_chosen_100 ?_
                refine lv_goto (tgt := 141) hx hb dX6_chosen_101 (by decide) ?_
                have eF : D = mChosenC E wk C (nI w) (nI t) (nI j) := by rw [mChosenC, if_pos ⟨c1, blw_j ht (by decide), blw_j hj (by decide)⟩, cl_nI hw (by decide), cl_nI ht (by decide), eD]
                rw [eF] at hP hD
                clear eF
                exact wr_ret hx hb hr hlocks dX6_chosen_141 hP hD hS (by rw [mChosen, if_pos ⟨c1, blw_j ht (by decide), blw_j hj (by decide)⟩, cl_nI hw (by decide), cl_nI ht (by decide), cl_nI hj (by decide), ← eD, chsV, if_pos c91, h3, show k - 1 = 1 <<< t - 1 by omega])
            · skip
              refine lv_aload_n hx hb dX6_chosen_48 rfl (lv_at hl 2 rfl) ?_
              refine lv_aload_n hx hb dX6_chosen_49 rfl (lv_at hl 2 rfl) ?_
              refine va_get (D := G.1) (ci := 5) (v := .ref ca) (C := RX6) (T := TX6) (N := 7) hx hb hts (fun w h => List.mem_cons_of_mem _ (List.mem_append_right _ h)) hown hE.1 hP 0 rfl rfl 6 (by decide) (hts (.fieldLink RX6 23 "TripleTrapModel" "comes" "[I") (List.mem_of_getElem? (i := 1) rfl)) (fun _ h9 => h9) rfl dX6_chosen_50 ?_
              refine lv_iload hx hb dX6_chosen_53 (lv_at hl 0 rfl) ?_
              refine j_iald hx hb hE hP 3 rfl dX6_chosen_55 ?_
              refine lv_iload_n hx hb dX6_chosen_56 rfl (lv_at hl 3 rfl) ?_
              refine ro_V 5 0 (rest := []) ⟨hx, hb, hml, hown, hts⟩ (c_X6_loss l G o sa ia ka ea ca tr fi X (D k) w (hDb _ (by omega)) (by omega)) (cwV 2 hts gX6_chosen_X6_loss rfl rfl rfl (by decide +kernel) ⟨Nat.le_of_ble_eq_true rfl, Nat.le_of_ble_eq_true rfl⟩) hE (hP.sub [0, 1] rfl) rfl rfl rfl hl.1 rfl (Nat.le_of_ble_eq_true rfl) dX6_chosen_57 ⟨Nat.zero_le _, Nat.zero_le _⟩ ?_
              refine lv_aload_n hx hb dX6_chosen_60 rfl (lv_at hl 2 rfl) ?_
              refine lv_aload_n hx hb dX6_chosen_61 rfl (lv_at hl 2 rfl) ?_
              refine va_get (D := G.1) (ci := 5) (v := .ref ca) (C := RX6) (T := TX6) (N := 7) hx hb hts (fun w h => List.mem_cons_of_mem _ (List.mem_append_right _ h)) hown hE.1 hP 0 rfl rfl 6 (by decide) (hts (.fieldLink RX6 23 "TripleTrapModel" "comes" "[I") (List.mem_of_getElem? (i := 1) rfl)) (fun _ h9 => h9) rfl dX6_chosen_62 ?_
              refine lv_iload hx hb dX6_chosen_65 (lv_at hl 1 rfl) ?_
              refine j_iald hx hb hE hP 3 rfl dX6_chosen_67 ?_
              refine lv_iload_n hx hb dX6_chosen_68 rfl (lv_at hl 3 rfl) ?_
              refine ro_V 5 0 (rest := [.int (nI (losL X ((D k) ^^^ w) 23))]) ⟨hx, hb, hml, hown, hts⟩ (c_X6_loss l G o sa ia ka ea ca tr fi X (D u) w (hDb _ (by omega)) (by omega)) (cwV 2 hts gX6_chosen_X6_loss rfl rfl rfl (by decide +kernel) ⟨Nat.le_of_ble_eq_true rfl, Nat.le_of_ble_eq_true rfl⟩) hE (hP.sub [0, 1] rfl) rfl rfl rfl hl.1 rfl (Nat.le_of_ble_eq_true rfl) dX6_chosen_69 ⟨Nat.zero_le _, Nat.zero_le _⟩ ?_
              refine j_icmp_ge (tgt := 80) hx hb dX6_chosen_72 (by decide) (fun c72 => ?_) (fun c72 => ?_) (h1 := Nat.lt_of_le_of_lt (losL_le hlv _ 23 (by decide)) (by decide)) (h2 := Nat.lt_of_le_of_lt (losL_le hlv _ 23 (by decide)) (by decide))
              · skip
                refine lv_iload hx hb dX6_chosen_80 (lv_at hl 1 rfl) ?_
                refine lv_istore (lv' := [(4, .int (nI u)), (5, .int (nI k)), (0, .ref o), (1, .int (nI w)), (2, .int (nI t)), (3, .int (nI j))]) hx hb dX6_chosen_82 hl (by decide) rfl (fun ls hl => ?_)
                obtain ⟨x84, ex84⟩ : ∃ y : Nat, y = k + 1 := ⟨_, rfl⟩
                refine lv_iinc (v := nI x84) (lv' := [(5, .int (nI x84)), (4, .int (nI u)), (0, .ref o), (1, .int (nI w)), (2, .int (nI t)), (3, .int (nI j))]) hx hb dX6_chosen_84 hl (k := 1) rfl (by rw [ex84]; exact nI_add _ _) (by decide) rfl (fun ls hl => ?_)
                refine lv_goto (tgt := 40) hx hb dX6_chosen_87 (by decide) ?_
                exact ih40 u x84 (by omega) (by omega) (by rw [ex84, show k + 1 - 1 = (k - 1) + 1 by omega, bstL, show k - 1 + 1 = k by omega, ← h3, if_neg (Nat.not_lt.mpr c72)]) (by omega) H locs hP hD hS ls (lv_sub hl [0, 1, 2, 3, 4, 5] rfl)
              · skip
                refine lv_iload hx hb dX6_chosen_75 (lv_at hl 0 rfl) ?_
                refine lv_goto (tgt := 82) hx hb dX6_chosen_77 (by decide) ?_
                refine lv_istore (lv' := [(4, .int (nI k)), (5, .int (nI k)), (0, .ref o), (1, .int (nI w)), (2, .int (nI t)), (3, .int (nI j))]) hx hb dX6_chosen_82 hl (by decide) rfl (fun ls hl => ?_)
                obtain ⟨x84, ex84⟩ : ∃ y : Nat, y = k + 1 := ⟨_, rfl⟩
                refine lv_iinc (v := nI x84) (lv' := [(5, .int (nI x84)), (4, .int (nI k)), (0, .ref o), (1, .int (nI w)), (2, .int (nI t)), (3, .int (nI j))]) hx hb dX6_chosen_84 hl (k := 1) rfl (by rw [ex84]; exact nI_add _ _) (by decide) rfl (fun ls hl => ?_)
                refine lv_goto (tgt := 40) hx hb dX6_chosen_87 (by decide) ?_
                exact ih40 k x84 (by omega) (by omega) (by rw [ex84, show k + 1 - 1 = (k - 1) + 1 by omega, bstL, show k - 1 + 1 = k by omega, if_pos (by rw [← h3]; exact c72)]) (by omega) H locs hP hD hS ls (lv_sub hl [0, 1, 2, 3, 4, 5] rfl)
        exact loop40 _ 0 1 (by omega) h01 rfl (Nat.lt_succ_self _) H locs hP hD hS ls (lv_sub hl [0, 1, 2, 3, 4, 5] rfl)
      · skip
        refine j_if_ne (tgt := 28) hx hb dX6_chosen_22 (by decide) (fun q => absurd q (by decide)) (fun _ => ?_)
        refine lv_bipush (v := (-2)) hx hb dX6_chosen_25 (by decide) ?_
        have eF : C = mChosenC E wk C (nI w) (nI t) z := by rw [mChosenC, if_neg (fun h => by rw [← inI_blw z (N := 4) (by decide) (by decide), show nI (4 - 1) = nI 3 from rfl, c19] at h; exact absurd h.2.2 (by decide))]
        rw [eF] at hP hD
        clear eF
        exact wr_ret hx hb hr hlocks dX6_chosen_27 hP hD hS (by rw [mChosen, if_neg (fun h => by rw [← inI_blw z (N := 4) (by decide) (by decide), show nI (4 - 1) = nI 3 from rfl, c19] at h; exact absurd h.2.2 (by decide))])
    · skip
      refine j_if_eq (tgt := 25) hx hb dX6_chosen_13 (by decide) (fun _ => ?_) (fun q => absurd q (by decide))
      refine lv_bipush (v := (-2)) hx hb dX6_chosen_25 (by decide) ?_
      have eF : C = mChosenC E wk C (nI w) y z := by rw [mChosenC, if_neg (fun h => by rw [← inI_blw y (N := 5) (by decide) (by decide), show nI (5 - 1) = nI 4 from rfl, c10] at h; exact absurd h.2.1 (by decide))]
      rw [eF] at hP hD
      clear eF
      exact wr_ret hx hb hr hlocks dX6_chosen_27 hP hD hS (by rw [mChosen, if_neg (fun h => by rw [← inI_blw y (N := 5) (by decide) (by decide), show nI (5 - 1) = nI 4 from rfl, c10] at h; exact absurd h.2.1 (by decide))])
  · skip
    refine j_if_eq (tgt := 25) hx hb dX6_chosen_4 (by decide) (fun _ => ?_) (fun q => absurd q (by decide))
    refine lv_bipush (v := (-2)) hx hb dX6_chosen_25 (by decide) ?_
    have eF : C = mChosenC E wk C x y z := by rw [mChosenC, if_neg (fun h => by rw [c1] at h; exact absurd h.1 (by decide))]
    rw [eF] at hP hD
    clear eF
    exact wr_ret hx hb hr hlocks dX6_chosen_27 hP hD hS (by rw [mChosen, if_neg (fun h => by rw [c1] at h; exact absurd h.1 (by decide))])
set_option maxHeartbeats 4000000 in
set_option maxRecDepth 100000 in
/-- image -/
theorem c_X6_image (l : Launch) (G : EG) (o : Nat) (sa : Nat) (ia : Nat) (ka : Nat) (ea : Nat) (ca : Nat) (tr : Nat) (fi : Int32) (X : Nat → Nat) (Y : Nat → Nat) (K : Nat → Nat) (x : Int32) (sz : Nat) : WR l yX6_image wsX6_image (rmR 1 22) G sz [(o, .inr (5, [.ref sa, .ref ia, .ref ka, .ref ea, .int (nI tr), .int fi, .ref ca])), (sa, aI G 40 X), (ia, aI G 80 Y), (ka, aZ G 2 K)] [.ref o, .int x] [(o, .inr (5, [.ref sa, .ref ia, .ref ka, .ref ea, .int (nI tr), .int fi, .ref ca])), (sa, aI G 40 X), (ia, aI G 80 (mImageY X Y x)), (ka, aZ G 2 (mImageK K x))] (some (.int (mImageR x))) := by
  refine WR.start (by decide) rfl (Nat.le_of_ble_eq_true rfl) ?_
  intro p e s m below meth c hx hb hr hml hts hown hlocks hE A hA H locs hP hD hS ls hl
  have hown : s.vm.findClass RX6 = some m.cls := hown
  have hl : lv_has ls 3 [(0, .ref o), (1, .int x)] := hl
  refine lv_iload_n hx hb dX6_image_0 rfl (lv_at hl 1 rfl) ?_
  refine lv_iconst (v := nI 0) hx hb dX6_image_1 (by decide) ?_
  refine lv_iconst (v := nI 1) hx hb dX6_image_2 (by decide) ?_
  refine ro_S (rest := []) ⟨hx, hb, hml, hown, hts⟩ (c_X6_in l G x (nI 0) (nI 1)) (va_cwS 3 hts gX6_image_X6_in rfl rfl rfl (by decide +kernel) ⟨Nat.le_of_ble_eq_true rfl, Nat.le_of_ble_eq_true rfl⟩) hE (hP.sub [] rfl) rfl hl.1 rfl (Nat.le_of_ble_eq_true rfl) dX6_image_3 ⟨Nat.zero_le _, Nat.zero_le _⟩ ?_
  refine j_bool (fun c3 => ?_) (fun c3 => ?_)
  · skip
    obtain ⟨d, hd, rfl⟩ := inI_ex (N := 1) rfl c3 (by decide)
    refine j_if_ne (tgt := 12) hx hb dX6_image_6 (by decide) (fun _ => ?_) (fun q => absurd q (by decide))
    refine lv_iconst (v := nI 0) hx hb dX6_image_12 (by decide) ?_
    refine lv_istore_n (lv' := [(2, .int (nI 0)), (0, .ref o), (1, .int (nI d))]) hx hb dX6_image_13 rfl hl (by decide) rfl (fun ls hl => ?_)
    have loop14 : ∀ (fuel : Nat) (k : Nat) (D : Nat → Nat), (k ≤ 40) → (D = imgF X Y d k) → 40 - k < fuel → ∀ (H : Heap) (locs : List Loc), va_P G.1 vwCl [(o, .inr (5, [.ref sa, .ref ia, .ref ka, .ref ea, .int (nI tr), .int fi, .ref ca])), (sa, aI G 40 X), (ia, aI G 80 D), (ka, aZ G 2 K)] H → va_D A [(o, .inr (5, [.ref sa, .ref ia, .ref ka, .ref ea, .int (nI tr), .int fi, .ref ca])), (sa, aI G 40 X), (ia, aI G 80 D), (ka, aZ G 2 K)] → va_S A s.heap H locs → ∀ ls : Array Slot, lv_has ls 3 [(2, .int (nI k)), (0, .ref o), (1, .int (nI d))] → W p l e (rmR 1 22) s m ([.ref o, .int (nI d)] : List Value).toArray below meth c H locs 0 0 (MQ below (postW G [(o, .inr (5, [.ref sa, .ref ia, .ref ka, .ref ea, .int (nI tr), .int fi, .ref ca])), (sa, aI G 40 X), (ia, aI G 80 (mImageY X Y (nI d))), (ka, aZ G 2 (mImageK K (nI d)))] (some (.int (mImageR (nI d)))) A) ([.ref o, .int (nI d)] : List Value).toArray s 0 0 A) (F0 m 14 ls []) := by
      intro fuel
      induction fuel with
      | zero => intro k D h1 h2 hf; exact absurd hf (Nat.not_lt_zero _)
      | succ fuel ih14 =>
        intro k D h1 h2 hf H locs hP hD hS ls hl
        refine lv_iload_n hx hb dX6_image_14 rfl (lv_at hl 0 rfl) ?_
        refine lv_bipush (v := nI 40) hx hb dX6_image_15 (by decide) ?_
        refine j_icmp_ge (tgt := 43) hx hb dX6_image_17 (by decide) (fun c17 => ?_) (fun c17 => ?_)
        · skip
          refine lv_aload_n hx hb dX6_image_43 rfl (lv_at hl 1 rfl) ?_
          refine va_get (D := G.1) (ci := 5) (v := .ref ka) (C := RX6) (T := TX6) (N := 7) hx hb hts (fun w h => List.mem_cons_of_mem _ (List.mem_append_right _ h)) hown hE.1 hP 0 rfl rfl 2 (by decide) (hts (.fieldLink RX6 16 "TripleTrapModel" "isKept" "[Z") (List.mem_of_getElem? (i := 3) rfl)) (fun _ h9 => h9) rfl dX6_image_44 ?_
          refine lv_iload_n hx hb dX6_image_47 rfl (lv_at hl 2 rfl) ?_
          refine lv_iconst (v := nI 1) hx hb dX6_image_48 (by decide) ?_
          refine j_zast hx hb hE hP hD hS 3 rfl dX6_image_49 (fun H locs hP hD hS => ?_)
          have hP : va_P G.1 vwCl [(o, .inr (5, [.ref sa, .ref ia, .ref ka, .ref ea, .int (nI tr), .int fi, .ref ca])), (sa, aI G 40 X), (ia, aI G 80 D), (ka, aZ G 2 (va_up K d 1))] H := hP
          have hD : va_D A [(o, .inr (5, [.ref sa, .ref ia, .ref ka, .ref ea, .int (nI tr), .int fi, .ref ca])), (sa, aI G 40 X), (ia, aI G 80 D), (ka, aZ G 2 (va_up K d 1))] := hD
          refine lv_iconst (v := nI 1) hx hb dX6_image_50 (by decide) ?_
          have eF : D = mImageY X Y (nI d) := by rw [mImageY, if_pos (blw_j hd (by decide)), cl_nI hd (by decide), h2, show k = 40 by omega]
          rw [eF] at hP hD
          clear eF
          have eF : va_up K d 1 = mImageK K (nI d) := by rw [mImageK, if_pos (blw_j hd (by decide)), cl_nI hd (by decide)]
          rw [eF] at hP hD
          clear eF
          exact wr_ret hx hb hr hlocks dX6_image_51 hP hD hS (by rw [mImageR, if_pos (blw_j hd (by decide))])
        · skip
          refine lv_aload_n hx hb dX6_image_20 rfl (lv_at hl 1 rfl) ?_
          refine va_get (D := G.1) (ci := 5) (v := .ref ia) (C := RX6) (T := TX6) (N := 7) hx hb hts (fun w h => List.mem_cons_of_mem _ (List.mem_append_right _ h)) hown hE.1 hP 0 rfl rfl 1 (by decide) (hts (.fieldLink RX6 13 "TripleTrapModel" "images" "[I") (List.mem_of_getElem? (i := 1) rfl)) (fun _ h9 => h9) rfl dX6_image_21 ?_
          refine lv_bipush (v := nI 40) hx hb dX6_image_24 (by decide) ?_
          refine lv_iload_n hx hb dX6_image_26 rfl (lv_at hl 2 rfl) ?_
          refine j_mul hx hb dX6_image_27 ?_
          refine lv_iload_n hx hb dX6_image_28 rfl (lv_at hl 0 rfl) ?_
          refine j_add hx hb dX6_image_29 ?_
          refine lv_aload_n hx hb dX6_image_30 rfl (lv_at hl 1 rfl) ?_
          refine va_get (D := G.1) (ci := 5) (v := .ref sa) (C := RX6) (T := TX6) (N := 7) hx hb hts (fun w h => List.mem_cons_of_mem _ (List.mem_append_right _ h)) hown hE.1 hP 0 rfl rfl 0 (by decide) (hts (.fieldLink RX6 7 "TripleTrapModel" "state" "[I") (List.mem_of_getElem? (i := 2) rfl)) (fun _ h9 => h9) rfl dX6_image_31 ?_
          refine lv_iload_n hx hb dX6_image_34 rfl (lv_at hl 0 rfl) ?_
          refine j_iald hx hb hE hP 1 rfl dX6_image_35 ?_
          refine j_iast hx hb hE hP hD hS 2 rfl dX6_image_36 (fun H locs hP hD hS => ?_)
          have hP : va_P G.1 vwCl [(o, .inr (5, [.ref sa, .ref ia, .ref ka, .ref ea, .int (nI tr), .int fi, .ref ca])), (sa, aI G 40 X), (ia, aI G 80 (va_up D ((40 * d) + k) (X k))), (ka, aZ G 2 K)] H := hP
          have hD : va_D A [(o, .inr (5, [.ref sa, .ref ia, .ref ka, .ref ea, .int (nI tr), .int fi, .ref ca])), (sa, aI G 40 X), (ia, aI G 80 (va_up D ((40 * d) + k) (X k))), (ka, aZ G 2 K)] := hD
          obtain ⟨x37, ex37⟩ : ∃ y : Nat, y = k + 1 := ⟨_, rfl⟩
          refine lv_iinc (v := nI x37) (lv' := [(2, .int (nI x37)), (0, .ref o), (1, .int (nI d))]) hx hb dX6_image_37 hl (k := 0) rfl (by rw [ex37]; exact nI_add _ _) (by decide) rfl (fun ls hl => ?_)
          refine lv_goto (tgt := 14) hx hb dX6_image_40 (by decide) ?_
          exact ih14 x37 (va_up D ((40 * d) + k) (X k)) (by omega) (by rw [ex37, imgF, ← h2]) (by omega) H locs hP hD hS ls (lv_sub hl [0, 1, 2] rfl)
    exact loop14 _ 0 Y (by omega) rfl (Nat.lt_succ_self _) H locs hP hD hS ls (lv_sub hl [0, 1, 2] rfl)
  · skip
    refine j_if_ne (tgt := 12) hx hb dX6_image_6 (by decide) (fun q => absurd q (by decide)) (fun _ => ?_)
    refine lv_bipush (v := (-2)) hx hb dX6_image_9 (by decide) ?_
    have eF : Y = mImageY X Y x := by rw [mImageY, if_neg (fun h => by rw [← inI_blw x (N := 2) (by decide) (by decide), show nI (2 - 1) = nI 1 from rfl, c3] at h; exact absurd h (by decide))]
    rw [eF] at hP hD
    clear eF
    have eF : K = mImageK K x := by rw [mImageK, if_neg (fun h => by rw [← inI_blw x (N := 2) (by decide) (by decide), show nI (2 - 1) = nI 1 from rfl, c3] at h; exact absurd h (by decide))]
    rw [eF] at hP hD
    clear eF
    exact wr_ret hx hb hr hlocks dX6_image_11 hP hD hS (by rw [mImageR, if_neg (fun h => by rw [← inI_blw x (N := 2) (by decide) (by decide), show nI (2 - 1) = nI 1 from rfl, c3] at h; exact absurd h (by decide))])
set_option maxHeartbeats 4000000 in
set_option maxRecDepth 100000 in
/-- restore -/
theorem c_X6_restore (l : Launch) (G : EG) (o : Nat) (sa : Nat) (ia : Nat) (ka : Nat) (ea : Nat) (ca : Nat) (tr : Nat) (fi : Int32) (X : Nat → Nat) (Y : Nat → Nat) (K : Nat → Nat) (hK : ∀ i, i < 2 → K i ≤ 1) (x : Int32) (sz : Nat) : WR l yX6_restore wsX6_restore (rmR 1 22) G sz [(o, .inr (5, [.ref sa, .ref ia, .ref ka, .ref ea, .int (nI tr), .int fi, .ref ca])), (sa, aI G 40 X), (ia, aI G 80 Y), (ka, aZ G 2 K)] [.ref o, .int x] [(o, .inr (5, [.ref sa, .ref ia, .ref ka, .ref ea, .int (nI tr), .int fi, .ref ca])), (sa, aI G 40 (mRestoreX X Y K x)), (ia, aI G 80 Y), (ka, aZ G 2 K)] (some (.int (mRestoreR K x))) := by
  refine WR.start (by decide) rfl (Nat.le_of_ble_eq_true rfl) ?_
  intro p e s m below meth c hx hb hr hml hts hown hlocks hE A hA H locs hP hD hS ls hl
  have hown : s.vm.findClass RX6 = some m.cls := hown
  have hl : lv_has ls 3 [(0, .ref o), (1, .int x)] := hl
  refine lv_iload_n hx hb dX6_restore_0 rfl (lv_at hl 1 rfl) ?_
  refine lv_iconst (v := nI 0) hx hb dX6_restore_1 (by decide) ?_
  refine lv_iconst (v := nI 1) hx hb dX6_restore_2 (by decide) ?_
  refine ro_S (rest := []) ⟨hx, hb, hml, hown, hts⟩ (c_X6_in l G x (nI 0) (nI 1)) (va_cwS 3 hts gX6_restore_X6_in rfl rfl rfl (by decide +kernel) ⟨Nat.le_of_ble_eq_true rfl, Nat.le_of_ble_eq_true rfl⟩) hE (hP.sub [] rfl) rfl hl.1 rfl (Nat.le_of_ble_eq_true rfl) dX6_restore_3 ⟨Nat.zero_le _, Nat.zero_le _⟩ ?_
  refine j_bool (fun c3 => ?_) (fun c3 => ?_)
  · skip
    obtain ⟨d, hd, rfl⟩ := inI_ex (N := 1) rfl c3 (by decide)
    refine j_if_ne (tgt := 12) hx hb dX6_restore_6 (by decide) (fun _ => ?_) (fun q => absurd q (by decide))
    refine lv_aload_n hx hb dX6_restore_12 rfl (lv_at hl 0 rfl) ?_
    refine va_get (D := G.1) (ci := 5) (v := .ref ka) (C := RX6) (T := TX6) (N := 7) hx hb hts (fun w h => List.mem_cons_of_mem _ (List.mem_append_right _ h)) hown hE.1 hP 0 rfl rfl 2 (by decide) (hts (.fieldLink RX6 16 "TripleTrapModel" "isKept" "[Z") (List.mem_of_getElem? (i := 1) rfl)) (fun _ h9 => h9) rfl dX6_restore_13 ?_
    refine lv_iload_n hx hb dX6_restore_16 rfl (lv_at hl 1 rfl) ?_
    refine j_zald hx hb hE hP 3 rfl dX6_restore_17 ?_
    refine j_if_ne (tgt := 24) hx hb dX6_restore_18 (by decide) (fun c18 => ?_) (fun c18 => ?_) (h1 := by have := hK d (by omega); omega)
    · skip
      refine lv_iconst (v := nI 0) hx hb dX6_restore_24 (by decide) ?_
      refine lv_istore_n (lv' := [(2, .int (nI 0)), (0, .ref o), (1, .int (nI d))]) hx hb dX6_restore_25 rfl hl (by decide) rfl (fun ls hl => ?_)
      have loop26 : ∀ (fuel : Nat) (k : Nat) (D : Nat → Nat), (k ≤ 40) → (D = rstF X Y d k) → 40 - k < fuel → ∀ (H : Heap) (locs : List Loc), va_P G.1 vwCl [(o, .inr (5, [.ref sa, .ref ia, .ref ka, .ref ea, .int (nI tr), .int fi, .ref ca])), (sa, aI G 40 D), (ia, aI G 80 Y), (ka, aZ G 2 K)] H → va_D A [(o, .inr (5, [.ref sa, .ref ia, .ref ka, .ref ea, .int (nI tr), .int fi, .ref ca])), (sa, aI G 40 D), (ia, aI G 80 Y), (ka, aZ G 2 K)] → va_S A s.heap H locs → ∀ ls : Array Slot, lv_has ls 3 [(2, .int (nI k)), (0, .ref o), (1, .int (nI d))] → W p l e (rmR 1 22) s m ([.ref o, .int (nI d)] : List Value).toArray below meth c H locs 0 0 (MQ below (postW G [(o, .inr (5, [.ref sa, .ref ia, .ref ka, .ref ea, .int (nI tr), .int fi, .ref ca])), (sa, aI G 40 (mRestoreX X Y K (nI d))), (ia, aI G 80 Y), (ka, aZ G 2 K)] (some (.int (mRestoreR K (nI d)))) A) ([.ref o, .int (nI d)] : List Value).toArray s 0 0 A) (F0 m 26 ls []) := by
        intro fuel
        induction fuel with
        | zero => intro k D h1 h2 hf; exact absurd hf (Nat.not_lt_zero _)
        | succ fuel ih26 =>
          intro k D h1 h2 hf H locs hP hD hS ls hl
          refine lv_iload_n hx hb dX6_restore_26 rfl (lv_at hl 0 rfl) ?_
          refine lv_bipush (v := nI 40) hx hb dX6_restore_27 (by decide) ?_
          refine j_icmp_ge (tgt := 55) hx hb dX6_restore_29 (by decide) (fun c29 => ?_) (fun c29 => ?_)
          · skip
            refine lv_iconst (v := nI 1) hx hb dX6_restore_55 (by decide) ?_
            have eF : D = mRestoreX X Y K (nI d) := by rw [mRestoreX, cl_nI hd (by decide), if_pos ⟨blw_j hd (by decide), c18⟩, h2, show k = 40 by omega]
            rw [eF] at hP hD
            clear eF
            exact wr_ret hx hb hr hlocks dX6_restore_56 hP hD hS (by rw [mRestoreR, if_pos (blw_j hd (by decide)), cl_nI hd (by decide), if_neg c18])
          · skip
            refine lv_aload_n hx hb dX6_restore_32 rfl (lv_at hl 1 rfl) ?_
            refine va_get (D := G.1) (ci := 5) (v := .ref sa) (C := RX6) (T := TX6) (N := 7) hx hb hts (fun w h => List.mem_cons_of_mem _ (List.mem_append_right _ h)) hown hE.1 hP 0 rfl rfl 0 (by decide) (hts (.fieldLink RX6 7 "TripleTrapModel" "state" "[I") (List.mem_of_getElem? (i := 2) rfl)) (fun _ h9 => h9) rfl dX6_restore_33 ?_
            refine lv_iload_n hx hb dX6_restore_36 rfl (lv_at hl 0 rfl) ?_
            refine lv_aload_n hx hb dX6_restore_37 rfl (lv_at hl 1 rfl) ?_
            refine va_get (D := G.1) (ci := 5) (v := .ref ia) (C := RX6) (T := TX6) (N := 7) hx hb hts (fun w h => List.mem_cons_of_mem _ (List.mem_append_right _ h)) hown hE.1 hP 0 rfl rfl 1 (by decide) (hts (.fieldLink RX6 13 "TripleTrapModel" "images" "[I") (List.mem_of_getElem? (i := 3) rfl)) (fun _ h9 => h9) rfl dX6_restore_38 ?_
            refine lv_bipush (v := nI 40) hx hb dX6_restore_41 (by decide) ?_
            refine lv_iload_n hx hb dX6_restore_43 rfl (lv_at hl 2 rfl) ?_
            refine j_mul hx hb dX6_restore_44 ?_
            refine lv_iload_n hx hb dX6_restore_45 rfl (lv_at hl 0 rfl) ?_
            refine j_add hx hb dX6_restore_46 ?_
            refine j_iald hx hb hE hP 2 rfl dX6_restore_47 ?_
            refine j_iast hx hb hE hP hD hS 1 rfl dX6_restore_48 (fun H locs hP hD hS => ?_)
            have hP : va_P G.1 vwCl [(o, .inr (5, [.ref sa, .ref ia, .ref ka, .ref ea, .int (nI tr), .int fi, .ref ca])), (sa, aI G 40 (va_up D k (Y ((40 * d) + k)))), (ia, aI G 80 Y), (ka, aZ G 2 K)] H := hP
            have hD : va_D A [(o, .inr (5, [.ref sa, .ref ia, .ref ka, .ref ea, .int (nI tr), .int fi, .ref ca])), (sa, aI G 40 (va_up D k (Y ((40 * d) + k)))), (ia, aI G 80 Y), (ka, aZ G 2 K)] := hD
            obtain ⟨x49, ex49⟩ : ∃ y : Nat, y = k + 1 := ⟨_, rfl⟩
            refine lv_iinc (v := nI x49) (lv' := [(2, .int (nI x49)), (0, .ref o), (1, .int (nI d))]) hx hb dX6_restore_49 hl (k := 0) rfl (by rw [ex49]; exact nI_add _ _) (by decide) rfl (fun ls hl => ?_)
            refine lv_goto (tgt := 26) hx hb dX6_restore_52 (by decide) ?_
            exact ih26 x49 (va_up D k (Y ((40 * d) + k))) (by omega) (by rw [ex49, rstF, ← h2]) (by omega) H locs hP hD hS ls (lv_sub hl [0, 1, 2] rfl)
      exact loop26 _ 0 X (by omega) rfl (Nat.lt_succ_self _) H locs hP hD hS ls (lv_sub hl [0, 1, 2] rfl)
    · skip
      refine lv_bipush (v := (-3)) hx hb dX6_restore_21 (by decide) ?_
      have eF : X = mRestoreX X Y K (nI d) := by rw [mRestoreX, if_neg (fun h => by rw [cl_nI hd (by decide)] at h; exact h.2 c18)]
      rw [eF] at hP hD
      clear eF
      exact wr_ret hx hb hr hlocks dX6_restore_23 hP hD hS (by rw [mRestoreR, if_pos (blw_j hd (by decide)), cl_nI hd (by decide), if_pos c18])
  · skip
    refine j_if_ne (tgt := 12) hx hb dX6_restore_6 (by decide) (fun q => absurd q (by decide)) (fun _ => ?_)
    refine lv_bipush (v := (-2)) hx hb dX6_restore_9 (by decide) ?_
    have eF : X = mRestoreX X Y K x := by rw [mRestoreX, if_neg (fun h => by rw [← inI_blw x (N := 2) (by decide) (by decide), show nI (2 - 1) = nI 1 from rfl, c3] at h; exact absurd h.1 (by decide))]
    rw [eF] at hP hD
    clear eF
    exact wr_ret hx hb hr hlocks dX6_restore_11 hP hD hS (by rw [mRestoreR, if_neg (fun h => by rw [← inI_blw x (N := 2) (by decide) (by decide), show nI (2 - 1) = nI 1 from rfl, c3] at h; exact absurd h (by decide))])
set_option maxHeartbeats 4000000 in
set_option maxRecDepth 100000 in
/-- sureOfAll -/
theorem c_X6_sureOfAll (l : Launch) (G : EG) (o : Nat) (sa : Nat) (ia : Nat) (ka : Nat) (ea : Nat) (ca : Nat) (tr : Nat) (fi : Int32) (X : Nat → Nat) : RO l yX6_sureOfAll wsX6_sureOfAll (rmR 0 0) G [(o, .inr (5, [.ref sa, .ref ia, .ref ka, .ref ea, .int (nI tr), .int fi, .ref ca])), (sa, aI G 40 X)] [.ref o] (.int (nI (sumL X 23))) := by
  refine RO.start (by decide) rfl (Nat.le_of_ble_eq_true rfl) ?_
  intro p e s m below meth c hx hb hr hml hts hown hlocks hP hE ls hl
  have hown : s.vm.findClass RX6 = some m.cls := hown
  have hl : lv_has ls 3 [(0, .ref o)] := hl
  refine lv_iconst (v := nI 0) hx hb dX6_sureOfAll_0 (by decide) ?_
  refine lv_istore_n (lv' := [(1, .int (nI 0)), (0, .ref o)]) hx hb dX6_sureOfAll_1 rfl hl (by decide) rfl (fun ls hl => ?_)
  refine lv_iconst (v := nI 0) hx hb dX6_sureOfAll_2 (by decide) ?_
  refine lv_istore_n (lv' := [(2, .int (nI 0)), (1, .int (nI 0)), (0, .ref o)]) hx hb dX6_sureOfAll_3 rfl hl (by decide) rfl (fun ls hl => ?_)
  have loop4 : ∀ (fuel : Nat) (t : Nat) (q : Nat), (q ≤ 23) → (t = sumL X q) → 23 - q < fuel → ∀ ls : Array Slot, lv_has ls 3 [(2, .int (nI q)), (1, .int (nI t)), (0, .ref o)] → W p l e (rmR 0 0) s m ([.ref o] : List Value).toArray below meth c s.heap [] 0 0 (MQ below (k2_QcV (.int (nI (sumL X 23)))) ([.ref o] : List Value).toArray s 0 0 (fun _ => False)) (F0 m 4 ls []) := by
    intro fuel
    induction fuel with
    | zero => intro t q h1 h2 hf; exact absurd hf (Nat.not_lt_zero _)
    | succ fuel ih4 =>
      intro t q h1 h2 hf ls hl
      refine lv_iload_n hx hb dX6_sureOfAll_4 rfl (lv_at hl 0 rfl) ?_
      refine lv_bipush (v := nI 23) hx hb dX6_sureOfAll_5 (by decide) ?_
      refine j_icmp_ge (tgt := 28) hx hb dX6_sureOfAll_7 (by decide) (fun c7 => ?_) (fun c7 => ?_)
      · skip
        refine lv_iload_n hx hb dX6_sureOfAll_28 rfl (lv_at hl 1 rfl) ?_
        exact ro_ret hx hb hr hlocks dX6_sureOfAll_29 (by rw [h2, show q = 23 by omega])
      · skip
        refine lv_iload_n hx hb dX6_sureOfAll_10 rfl (lv_at hl 1 rfl) ?_
        refine lv_aload_n hx hb dX6_sureOfAll_11 rfl (lv_at hl 2 rfl) ?_
        refine va_get (D := G.1) (ci := 5) (v := .ref sa) (C := RX6) (T := TX6) (N := 7) hx hb hts (fun w h => List.mem_cons_of_mem _ (List.mem_append_right _ h)) hown hE.1 hP 0 rfl rfl 0 (by decide) (hts (.fieldLink RX6 7 "TripleTrapModel" "state" "[I") (List.mem_of_getElem? (i := 1) rfl)) (fun _ h9 => h9) rfl dX6_sureOfAll_12 ?_
        refine lv_bipush (v := nI 17) hx hb dX6_sureOfAll_15 (by decide) ?_
        refine lv_iload_n hx hb dX6_sureOfAll_17 rfl (lv_at hl 0 rfl) ?_
        refine j_add hx hb dX6_sureOfAll_18 ?_
        refine j_iald hx hb hE hP 1 rfl dX6_sureOfAll_19 ?_
        refine j_add hx hb dX6_sureOfAll_20 ?_
        refine j_top (fun x21 ex21 => ?_)
        refine lv_istore_n (lv' := [(1, .int (nI x21)), (2, .int (nI q)), (0, .ref o)]) hx hb dX6_sureOfAll_21 rfl hl (by decide) rfl (fun ls hl => ?_)
        obtain ⟨x22, ex22⟩ : ∃ y : Nat, y = q + 1 := ⟨_, rfl⟩
        refine lv_iinc (v := nI x22) (lv' := [(2, .int (nI x22)), (1, .int (nI x21)), (0, .ref o)]) hx hb dX6_sureOfAll_22 hl (k := 1) rfl (by rw [ex22]; exact nI_add _ _) (by decide) rfl (fun ls hl => ?_)
        refine lv_goto (tgt := 4) hx hb dX6_sureOfAll_25 (by decide) ?_
        exact ih4 x21 x22 (by omega) (by rw [ex21, ex22, h2]; rfl) (by omega) ls (lv_sub hl [0, 1, 2] rfl)
  exact loop4 _ 0 0 (by omega) rfl (Nat.lt_succ_self _) ls (lv_sub hl [0, 1, 2] rfl)
set_option maxHeartbeats 4000000 in
set_option maxRecDepth 100000 in
/-- ofWeight -/
theorem c_X6_ofWeight (l : Launch) (G : EG) (d : Nat) (hd : d < 2147483648) : RO l yX6_ofWeight wsX6_ofWeight (rmR 2 43) G [] [.int (nI d)] (.int (nI (aroL 0 d 4096))) := by
  refine RO.start (by decide) rfl (Nat.le_of_ble_eq_true rfl) ?_
  intro p e s m below meth c hx hb hr hml hts hown hlocks hP hE ls hl
  have hown : s.vm.findClass RX6 = some m.cls := hown
  have hl : lv_has ls 3 [(0, .int (nI d))] := hl
  refine lv_iconst (v := nI 0) hx hb dX6_ofWeight_0 (by decide) ?_
  refine lv_istore_n (lv' := [(1, .int (nI 0)), (0, .int (nI d))]) hx hb dX6_ofWeight_1 rfl hl (by decide) rfl (fun ls hl => ?_)
  refine lv_iconst (v := nI 0) hx hb dX6_ofWeight_2 (by decide) ?_
  refine lv_istore_n (lv' := [(2, .int (nI 0)), (1, .int (nI 0)), (0, .int (nI d))]) hx hb dX6_ofWeight_3 rfl hl (by decide) rfl (fun ls hl => ?_)
  have loop4 : ∀ (fuel : Nat) (t : Nat) (k : Nat), (k ≤ 4096) → (t = aroL 0 d k) → 4096 - k < fuel → ∀ ls : Array Slot, lv_has ls 3 [(2, .int (nI k)), (1, .int (nI t)), (0, .int (nI d))] → W p l e (rmR 2 43) s m ([.int (nI d)] : List Value).toArray below meth c s.heap [] 0 0 (MQ below (k2_QcV (.int (nI (aroL 0 d 4096)))) ([.int (nI d)] : List Value).toArray s 0 0 (fun _ => False)) (F0 m 4 ls []) := by
    intro fuel
    induction fuel with
    | zero => intro t k h1 h2 hf; exact absurd hf (Nat.not_lt_zero _)
    | succ fuel ih4 =>
      intro t k h1 h2 hf ls hl
      refine lv_iload_n hx hb dX6_ofWeight_4 rfl (lv_at hl 0 rfl) ?_
      refine lv_sipush (v := nI 4096) hx hb dX6_ofWeight_5 (by decide) ?_
      refine j_icmp_ge (tgt := 36) hx hb dX6_ofWeight_8 (by decide) (fun c8 => ?_) (fun c8 => ?_)
      · skip
        refine lv_iload_n hx hb dX6_ofWeight_36 rfl (lv_at hl 1 rfl) ?_
        exact ro_ret hx hb hr hlocks dX6_ofWeight_37 (by rw [h2, show k = 4096 by omega])
      · skip
        refine lv_iload_n hx hb dX6_ofWeight_11 rfl (lv_at hl 1 rfl) ?_
        refine lv_iload_n hx hb dX6_ofWeight_12 rfl (lv_at hl 0 rfl) ?_
        refine ro_S (rest := [.int (nI t)]) ⟨hx, hb, hml, hown, hts⟩ (c_X6_madeOf l G k (by omega)) (va_cwS 1 hts gX6_ofWeight_X6_madeOf rfl rfl rfl (by decide +kernel) ⟨Nat.le_of_ble_eq_true rfl, Nat.le_of_ble_eq_true rfl⟩) hE (hP.sub [] rfl) rfl hl.1 rfl (Nat.le_of_ble_eq_true rfl) dX6_ofWeight_13 ⟨Nat.zero_le _, Nat.zero_le _⟩ ?_
        refine ro_S (rest := [.int (nI t)]) ⟨hx, hb, hml, hown, hts⟩ (c_X6_weight l G (madeN k) (Nat.lt_trans (made_lt (by omega)) (by decide))) (va_cwS 1 hts gX6_ofWeight_X6_weight rfl rfl rfl (by decide +kernel) ⟨Nat.le_of_ble_eq_true rfl, Nat.le_of_ble_eq_true rfl⟩) hE (hP.sub [] rfl) rfl hl.1 rfl (Nat.le_of_ble_eq_true rfl) dX6_ofWeight_16 ⟨Nat.zero_le _, Nat.zero_le _⟩ ?_
        refine lv_iload_n hx hb dX6_ofWeight_19 rfl (lv_at hl 2 rfl) ?_
        refine j_icmp_ne (tgt := 27) hx hb dX6_ofWeight_20 (by decide) (fun c20 => ?_) (fun c20 => ?_) (h1 := Nat.lt_of_le_of_lt (wtN_le _) (by decide)) (h2 := by omega)
        · skip
          refine lv_iconst (v := nI 0) hx hb dX6_ofWeight_27 (by decide) ?_
          refine j_add hx hb dX6_ofWeight_28 ?_
          refine j_top (fun x29 ex29 => ?_)
          refine lv_istore_n (lv' := [(1, .int (nI x29)), (2, .int (nI k)), (0, .int (nI d))]) hx hb dX6_ofWeight_29 rfl hl (by decide) rfl (fun ls hl => ?_)
          obtain ⟨x30, ex30⟩ : ∃ y : Nat, y = k + 1 := ⟨_, rfl⟩
          refine lv_iinc (v := nI x30) (lv' := [(2, .int (nI x30)), (1, .int (nI x29)), (0, .int (nI d))]) hx hb dX6_ofWeight_30 hl (k := 1) rfl (by rw [ex30]; exact nI_add _ _) (by decide) rfl (fun ls hl => ?_)
          refine lv_goto (tgt := 4) hx hb dX6_ofWeight_33 (by decide) ?_
          exact ih4 x29 x30 (by omega) (by rw [ex29, ex30, h2, aroL, Nat.xor_zero, if_neg c20]) (by omega) ls (lv_sub hl [0, 1, 2] rfl)
        · skip
          refine lv_iconst (v := nI 1) hx hb dX6_ofWeight_23 (by decide) ?_
          refine lv_goto (tgt := 28) hx hb dX6_ofWeight_24 (by decide) ?_
          refine j_add hx hb dX6_ofWeight_28 ?_
          refine j_top (fun x29 ex29 => ?_)
          refine lv_istore_n (lv' := [(1, .int (nI x29)), (2, .int (nI k)), (0, .int (nI d))]) hx hb dX6_ofWeight_29 rfl hl (by decide) rfl (fun ls hl => ?_)
          obtain ⟨x30, ex30⟩ : ∃ y : Nat, y = k + 1 := ⟨_, rfl⟩
          refine lv_iinc (v := nI x30) (lv' := [(2, .int (nI x30)), (1, .int (nI x29)), (0, .int (nI d))]) hx hb dX6_ofWeight_30 hl (k := 1) rfl (by rw [ex30]; exact nI_add _ _) (by decide) rfl (fun ls hl => ?_)
          refine lv_goto (tgt := 4) hx hb dX6_ofWeight_33 (by decide) ?_
          exact ih4 x29 x30 (by omega) (by rw [ex29, ex30, h2, aroL, Nat.xor_zero, if_pos c20]) (by omega) ls (lv_sub hl [0, 1, 2] rfl)
  exact loop4 _ 0 0 (by omega) rfl (Nat.lt_succ_self _) ls (lv_sub hl [0, 1, 2] rfl)
set_option maxHeartbeats 4000000 in
set_option maxRecDepth 100000 in
/-- count -/
theorem c_X6_count (l : Launch) (G : EG) (o : Nat) (sa : Nat) (ia : Nat) (ka : Nat) (ea : Nat) (ca : Nat) (tr : Nat) (fi : Int32) (X : Nat → Nat) (K : Nat → Nat) (hK : ∀ i, i < 2 → K i ≤ 1) (x : Int32) : RO l yX6_count wsX6_count (rmR 3 65) G [(o, .inr (5, [.ref sa, .ref ia, .ref ka, .ref ea, .int (nI tr), .int fi, .ref ca])), (sa, aI G 40 X), (ka, aZ G 2 K)] [.ref o, .int x] (.int (mCount X K x)) := by
  refine RO.start (by decide) rfl (Nat.le_of_ble_eq_true rfl) ?_
  intro p e s m below meth c hx hb hr hml hts hown hlocks hP hE ls hl
  have hown : s.vm.findClass RX6 = some m.cls := hown
  have hl : lv_has ls 2 [(0, .ref o), (1, .int x)] := hl
  refine lv_iload_n hx hb dX6_count_0 rfl (lv_at hl 1 rfl) ?_
  refine lv_bipush (v := nI 10) hx hb dX6_count_1 (by decide) ?_
  refine lv_bipush (v := nI 33) hx hb dX6_count_3 (by decide) ?_
  refine ro_S (rest := []) ⟨hx, hb, hml, hown, hts⟩ (c_X6_in l G x (nI 10) (nI 33)) (va_cwS 3 hts gX6_count_X6_in rfl rfl rfl (by decide +kernel) ⟨Nat.le_of_ble_eq_true rfl, Nat.le_of_ble_eq_true rfl⟩) hE (hP.sub [] rfl) rfl hl.1 rfl (Nat.le_of_ble_eq_true rfl) dX6_count_5 ⟨Nat.zero_le _, Nat.zero_le _⟩ ?_
  refine j_bool (fun c5 => ?_) (fun c5 => ?_)
  · skip
    obtain ⟨j, hj1, hj2, rfl⟩ := inI_ex2 c5 (by decide) (by decide)
    refine j_if_eq (tgt := 19) hx hb dX6_count_8 (by decide) (fun q => absurd q (by decide)) (fun _ => ?_)
    refine lv_iload_n hx hb dX6_count_11 rfl (lv_at hl 1 rfl) ?_
    refine lv_bipush (v := nI 10) hx hb dX6_count_12 (by decide) ?_
    refine j_sub hx hb dX6_count_14 ?_
    refine ro_S (rest := []) ⟨hx, hb, hml, hown, hts⟩ (c_X6_ofWeight l G (j - 10) (by omega)) (va_cwS 1 hts gX6_count_X6_ofWeight rfl rfl rfl (by decide +kernel) ⟨Nat.le_of_ble_eq_true rfl, Nat.le_of_ble_eq_true rfl⟩) hE (hP.sub [] rfl) rfl hl.1 rfl (Nat.le_of_ble_eq_true rfl) dX6_count_15 ⟨Nat.zero_le _, Nat.zero_le _⟩ ?_
    exact ro_ret hx hb hr hlocks dX6_count_18 (by rw [mCount, if_pos c5, cl_nI (N := 34) (by omega) (by decide)])
  · skip
    refine j_if_eq (tgt := 19) hx hb dX6_count_8 (by decide) (fun _ => ?_) (fun q => absurd q (by decide))
    refine lv_iload_n hx hb dX6_count_19 rfl (lv_at hl 1 rfl) ?_
    refine lv_bipush (v := nI 40) hx hb dX6_count_20 (by decide) ?_
    refine lv_bipush (v := nI 62) hx hb dX6_count_22 (by decide) ?_
    refine ro_S (rest := []) ⟨hx, hb, hml, hown, hts⟩ (c_X6_in l G x (nI 40) (nI 62)) (va_cwS 3 hts gX6_count_X6_in rfl rfl rfl (by decide +kernel) ⟨Nat.le_of_ble_eq_true rfl, Nat.le_of_ble_eq_true rfl⟩) hE (hP.sub [] rfl) rfl hl.1 rfl (Nat.le_of_ble_eq_true rfl) dX6_count_24 ⟨Nat.zero_le _, Nat.zero_le _⟩ ?_
    refine j_bool (fun c24 => ?_) (fun c24 => ?_)
    · skip
      obtain ⟨j, hj1, hj2, rfl⟩ := inI_ex2 c24 (by decide) (by decide)
      refine j_if_eq (tgt := 43) hx hb dX6_count_27 (by decide) (fun q => absurd q (by decide)) (fun _ => ?_)
      refine lv_aload_n hx hb dX6_count_30 rfl (lv_at hl 0 rfl) ?_
      refine va_get (D := G.1) (ci := 5) (v := .ref sa) (C := RX6) (T := TX6) (N := 7) hx hb hts (fun w h => List.mem_cons_of_mem _ (List.mem_append_right _ h)) hown hE.1 hP 0 rfl rfl 0 (by decide) (hts (.fieldLink RX6 7 "TripleTrapModel" "state" "[I") (List.mem_of_getElem? (i := 1) rfl)) (fun _ h9 => h9) rfl dX6_count_31 ?_
      refine lv_bipush (v := nI 17) hx hb dX6_count_34 (by decide) ?_
      refine lv_iload_n hx hb dX6_count_36 rfl (lv_at hl 1 rfl) ?_
      refine j_add hx hb dX6_count_37 ?_
      refine lv_bipush (v := nI 40) hx hb dX6_count_38 (by decide) ?_
      refine j_sub hx hb dX6_count_40 ?_
      refine j_iald hx hb hE hP 1 rfl dX6_count_41 ?_
      exact ro_ret hx hb hr hlocks dX6_count_42 (by rw [mCount, if_neg (by rw [c5]; decide), if_pos c24, cl_nI (N := 63) (by omega) (by decide)])
    · skip
      refine j_if_eq (tgt := 43) hx hb dX6_count_27 (by decide) (fun _ => ?_) (fun q => absurd q (by decide))
      refine lv_iload_n hx hb dX6_count_43 rfl (lv_at hl 1 rfl) ?_
      by_cases c44_0 : x = nI 0
      · subst c44_0
        refine lv_tableIn (off := 28) (tgt := 72) hx hb dX6_count_44 (by decide) (by decide) rfl (by decide) ?_
        refine lv_aload_n hx hb dX6_count_72 rfl (lv_at hl 0 rfl) ?_
        refine va_get (D := G.1) (ci := 5) (v := .ref sa) (C := RX6) (T := TX6) (N := 7) hx hb hts (fun w h => List.mem_cons_of_mem _ (List.mem_append_right _ h)) hown hE.1 hP 0 rfl rfl 0 (by decide) (hts (.fieldLink RX6 7 "TripleTrapModel" "state" "[I") (List.mem_of_getElem? (i := 1) rfl)) (fun _ h9 => h9) rfl dX6_count_73 ?_
        refine lv_iconst (v := nI 0) hx hb dX6_count_76 (by decide) ?_
        refine j_iald hx hb hE hP 1 rfl dX6_count_77 ?_
        exact ro_ret hx hb hr hlocks dX6_count_78 (by rw [mCount, if_neg (by rw [c5]; decide), if_neg (by rw [c24]; decide), if_pos rfl])
      by_cases c44_1 : x = nI 1
      · subst c44_1
        refine lv_tableIn (off := 35) (tgt := 79) hx hb dX6_count_44 (by decide) (by decide) rfl (by decide) ?_
        refine lv_aload_n hx hb dX6_count_79 rfl (lv_at hl 0 rfl) ?_
        refine ro_V 5 0 (rest := []) ⟨hx, hb, hml, hown, hts⟩ (c_X6_sureOfAll l G o sa ia ka ea ca tr fi X) (cwV 0 hts gX6_count_X6_sureOfAll rfl rfl rfl (by decide +kernel) ⟨Nat.le_of_ble_eq_true rfl, Nat.le_of_ble_eq_true rfl⟩) hE (hP.sub [0, 1] rfl) rfl rfl rfl hl.1 rfl (Nat.le_of_ble_eq_true rfl) dX6_count_80 ⟨Nat.zero_le _, Nat.zero_le _⟩ ?_
        exact ro_ret hx hb hr hlocks dX6_count_83 (by rw [mCount, if_neg (by rw [c5]; decide), if_neg (by rw [c24]; decide), if_neg (by decide), if_pos rfl])
      by_cases c44_2 : x = nI 2
      · subst c44_2
        refine lv_tableIn (off := 40) (tgt := 84) hx hb dX6_count_44 (by decide) (by decide) rfl (by decide) ?_
        refine lv_aload_n hx hb dX6_count_84 rfl (lv_at hl 0 rfl) ?_
        refine va_get (D := G.1) (ci := 5) (v := .ref ka) (C := RX6) (T := TX6) (N := 7) hx hb hts (fun w h => List.mem_cons_of_mem _ (List.mem_append_right _ h)) hown hE.1 hP 0 rfl rfl 2 (by decide) (hts (.fieldLink RX6 16 "TripleTrapModel" "isKept" "[Z") (List.mem_of_getElem? (i := 2) rfl)) (fun _ h9 => h9) rfl dX6_count_85 ?_
        refine lv_iconst (v := nI 0) hx hb dX6_count_88 (by decide) ?_
        refine j_zald hx hb hE hP 2 rfl dX6_count_89 ?_
        refine j_if_eq (tgt := 97) hx hb dX6_count_90 (by decide) (fun c90 => ?_) (fun c90 => ?_) (h1 := by have := hK 0 (by decide); omega)
        · skip
          refine lv_iconst (v := nI 0) hx hb dX6_count_97 (by decide) ?_
          refine lv_aload_n hx hb dX6_count_98 rfl (lv_at hl 0 rfl) ?_
          refine va_get (D := G.1) (ci := 5) (v := .ref ka) (C := RX6) (T := TX6) (N := 7) hx hb hts (fun w h => List.mem_cons_of_mem _ (List.mem_append_right _ h)) hown hE.1 hP 0 rfl rfl 2 (by decide) (hts (.fieldLink RX6 16 "TripleTrapModel" "isKept" "[Z") (List.mem_of_getElem? (i := 2) rfl)) (fun _ h9 => h9) rfl dX6_count_99 ?_
          refine lv_iconst (v := nI 1) hx hb dX6_count_102 (by decide) ?_
          refine j_zald hx hb hE hP 2 rfl dX6_count_103 ?_
          refine j_if_eq (tgt := 111) hx hb dX6_count_104 (by decide) (fun c104 => ?_) (fun c104 => ?_) (h1 := by have := hK 1 (by decide); omega)
          · skip
            refine lv_iconst (v := nI 0) hx hb dX6_count_111 (by decide) ?_
            refine j_add hx hb dX6_count_112 ?_
            exact ro_ret hx hb hr hlocks dX6_count_113 (by rw [mCount, if_neg (by rw [c5]; decide), if_neg (by rw [c24]; decide), if_neg (by decide), if_neg (by decide), if_pos rfl, if_pos c90, if_pos c104])
          · skip
            refine lv_iconst (v := nI 2) hx hb dX6_count_107 (by decide) ?_
            refine lv_goto (tgt := 112) hx hb dX6_count_108 (by decide) ?_
            refine j_add hx hb dX6_count_112 ?_
            exact ro_ret hx hb hr hlocks dX6_count_113 (by rw [mCount, if_neg (by rw [c5]; decide), if_neg (by rw [c24]; decide), if_neg (by decide), if_neg (by decide), if_pos rfl, if_pos c90, if_neg c104])
        · skip
          refine lv_iconst (v := nI 1) hx hb dX6_count_93 (by decide) ?_
          refine lv_goto (tgt := 98) hx hb dX6_count_94 (by decide) ?_
          refine lv_aload_n hx hb dX6_count_98 rfl (lv_at hl 0 rfl) ?_
          refine va_get (D := G.1) (ci := 5) (v := .ref ka) (C := RX6) (T := TX6) (N := 7) hx hb hts (fun w h => List.mem_cons_of_mem _ (List.mem_append_right _ h)) hown hE.1 hP 0 rfl rfl 2 (by decide) (hts (.fieldLink RX6 16 "TripleTrapModel" "isKept" "[Z") (List.mem_of_getElem? (i := 2) rfl)) (fun _ h9 => h9) rfl dX6_count_99 ?_
          refine lv_iconst (v := nI 1) hx hb dX6_count_102 (by decide) ?_
          refine j_zald hx hb hE hP 2 rfl dX6_count_103 ?_
          refine j_if_eq (tgt := 111) hx hb dX6_count_104 (by decide) (fun c104 => ?_) (fun c104 => ?_) (h1 := by have := hK 1 (by decide); omega)
          · skip
            refine lv_iconst (v := nI 0) hx hb dX6_count_111 (by decide) ?_
            refine j_add hx hb dX6_count_112 ?_
            exact ro_ret hx hb hr hlocks dX6_count_113 (by rw [mCount, if_neg (by rw [c5]; decide), if_neg (by rw [c24]; decide), if_neg (by decide), if_neg (by decide), if_pos rfl, if_neg c90, if_pos c104])
          · skip
            refine lv_iconst (v := nI 2) hx hb dX6_count_107 (by decide) ?_
            refine lv_goto (tgt := 112) hx hb dX6_count_108 (by decide) ?_
            refine j_add hx hb dX6_count_112 ?_
            exact ro_ret hx hb hr hlocks dX6_count_113 (by rw [mCount, if_neg (by rw [c5]; decide), if_neg (by rw [c24]; decide), if_neg (by decide), if_neg (by decide), if_pos rfl, if_neg c90, if_neg c104])
      refine lv_tableOut (tgt := 114) hx hb dX6_count_44 (by have q0 := i32_ne c44_0 (by decide); have q1 := i32_ne c44_1 (by decide); have q2 := i32_ne c44_2 (by decide); omega) (by decide) ?_
      refine lv_bipush (v := (-2)) hx hb dX6_count_114 (by decide) ?_
      exact ro_ret hx hb hr hlocks dX6_count_116 (by rw [mCount, if_neg (by rw [c5]; decide), if_neg (by rw [c24]; decide), if_neg c44_0, if_neg c44_1, if_neg c44_2])
end
section
/-! the static table AROUND, and methods that read it -/
def arL : List Nat := [1, 0, 0, 0, 0, 0, 0, 253, 506, 0, 0, 1288, 1288, 0, 0, 506, 253, 0, 0, 0, 0, 0, 0, 1, 0, 1, 0, 0, 0, 0, 77, 176, 176, 330, 616, 672, 672, 616, 330, 176, 176, 77, 0, 0, 0, 0, 1, 0, 0, 0, 1, 0, 0, 21, 56, 112, 240, 400, 546, 672, 672, 546, 400, 240, 112, 56, 21, 0, 0, 1, 0, 0, 0, 0, 0, 1, 5, 16, 48, 120, 240, 400, 560, 658, 658, 560, 400, 240, 120, 48, 16, 5, 1, 0, 0, 0]
def arT (i : Nat) : Nat := arL.getD i 0
def ArAt (t : Nat) (U : State) : Prop := va_Z "TripleTrap" "AROUND" "[I" (.ref t) (fun _ => False) U U.heap ∧ va_T .int t 96 (fun i => .int (nI (arT i))) (fun _ => False) U U.heap
theorem ArAt.calling {t : Nat} {U : State} (g : JFrame) (mk : MethodId) (a : Array Value) (h : ArAt t U) : ArAt t (U.calling g mk a) := ⟨va_Z.moved (u := U) (U := U.calling g mk a) (Vm.Alike.refl U.vm) h.1, va_T.moved (u := U) (U := U.calling g mk a) (Vm.Alike.refl U.vm) h.2⟩
/-- the table, where the heap has changed only in A -/
theorem ArAt.warm {t : Nat} {s U : State} {A : Nat → Prop} {H : Heap} {locs : List Loc} (h1 : va_Z "TripleTrap" "AROUND" "[I" (.ref t) A s s.heap) (h2 : va_T .int t 96 (fun i => .int (nI (arT i))) A s s.heap) (hS : va_S A s.heap H locs) (hU : U.heap = H) (hW : s.WarmedH U.vm) : ArAt t U := by
  refine ⟨?_, ?_⟩
  · rw [hU]
    exact ((h1.kept hS.2.1).moved hW.alike).narrow (fun _ h => h.elim)
  · rw [hU]
    exact ((h2.kept hS.2.1).moved hW.alike).narrow (fun _ h => h.elim)
def preA (G : EG) (t : Nat) (w : va_W) (av : List Value) : Array Value → State → Prop := va_Pc av (fun U => va_P G.1 vwCl w U.heap ∧ Ev G U ∧ ArAt t U)
theorem preA_blind (G : EG) (t : Nat) (w : va_W) (av : List Value) : FrameBlind (preA G t w av) := fun a U g mk h => ⟨h.1, h.2.1, h.2.2.1.calling g mk a, h.2.2.2.calling g mk a⟩
abbrev RA (l : Launch) (y : MethodName) (ws : List Cond) (rm : Room) (G : EG) (t : Nat) (w : va_W) (av : List Value) (r : Value) : Prop := Met l y ws rm (preA G t w av) (k2_QcV r) 0 0 (fun _ => False)
theorem RA.start {l : Launch} {y : MethodName} {ws ws' : List Cond} {rm : Room} {G : EG} {t : Nat} {w : va_W} {av : List Value} {r : Value} {cc : ByteArray} {maxL : Nat} {ret : Option FieldType} (hy : plainName y.cls = true) (hw : ws = Cond.code y cc maxL ret :: ws') (hn : (lg_sl av).length ≤ maxL)
    (body : ∀ (p : Program) (e : Env) (s : State) (m : MethodId) (below : List Frame) (meth : Method) (c : Code), p.tables.exec = Jvm.exec → c.code = cc → meth.sig.returnType = ret → c.maxLocals = maxL → (∀ w ∈ ws, w.before av.toArray s = true) → s.vm.findClass y.cls = some m.cls → meth.locks = false → va_P G.1 vwCl w s.heap → Ev G s → ArAt t s → ∀ ls : Array Slot, lv_has ls maxL (lv_args 0 av) → W p l e rm s m av.toArray below meth c s.heap [] 0 0 (MQ below (k2_QcV r) av.toArray s 0 0 (fun _ => False)) (F0 m 0 ls [])) : RA l y ws rm G t w av r := by
  refine Met.ofW hy hw ?_
  intro p e s m args below meth c s₁ B hml hv
  obtain ⟨rfl, hP, hE, hR⟩ := hv
  have hl := lv_entry av hn
  rw [lg_entry_eq]
  exact body p e s m below meth c B.exec B.bytes B.returns hml (atoms_spec (ws := ws) B.pre) (findClass_of_methodNamed B.named) B.notSynchronized hP hE hR _ hl
section RAK
variable {p : Program} {l : Launch} {e : Env} {R : Room} {s : State} {m : MethodId} {args : Array Value} {below : List Frame} {meth : Method} {c : Code} {locs : List Loc} {cells slots : Nat} {Q : State → Prop}
variable {cc bytes : ByteArray} {pc nL maxL n index t : Nat} {ls : Array Slot} {rest As : List Value} {G : EG} {w wc : va_W} {ws Ts : List Cond} {own : String} {y : MethodName} {ret : Option FieldType} {rm : Room} {r : Value}
theorem ArAt.same {s U : State} (h : ArAt t s) (hU : U.heap = s.heap) (hW : s.WarmedH U.vm) : ArAt t U := ⟨by rw [hU]; exact h.1.moved hW.alike, by rw [hU]; exact h.2.moved hW.alike⟩
theorem ra_S (S : CallFix p m c cc nL s args Ts own) (hM : RA l y ws rm G t wc As r) (cw : CallB R s args own index y bytes maxL ret ws rm 0 0 n ∧ (Cond.static y).before args s = true) (hE : Ev G s) (hP : va_P G.1 vwCl wc s.heap) (hR : ArAt t s) (hn : As.length = n) (hsize : ls.size = nL) {st : List Value} (hst : st = As.reverse ++ rest) (hW : (rest.map fun v => v.category).sum ≤ 8) (hdg : decode cc pc = .ok (.invokestatic index, 3)) (hf : cells ≤ R.cells ∧ slots ≤ R.slots)
    (kk : W p l e R s m args below meth c s.heap locs cells slots Q (F0 m (pc + 3) ls (r :: rest))) : W p l e R s m args below meth c s.heap locs cells slots Q (F0 m pc ls st) :=
  W.callV (va_runS S hM cw ⟨preA_blind G t wc As, fun U hU hW => ⟨rfl, by rw [hU]; exact hP, hE.warm hW, hR.same hU hW⟩⟩ rfl hn hsize hst (lv_room hW) hdg hf).run kk
end RAK
theorem nI_ne6 {a : Nat} (h : a < 2147483648) : ¬ nI a = -6 := fun q => by
  have h1 := congrArg Int32.toInt q
  rw [nI_toInt h] at h1
  have h2 : (-6 : Int32).toInt = -6 := by decide
  rw [h2] at h1
  omega
theorem rng_ex {x : Int32} {a b : Nat} (h1 : ¬ x < nI a) (h2 : ¬ nI b ≤ x) (ha : a < 2147483648) (hb : b < 2147483648) : ∃ j : Nat, a ≤ j ∧ j < b ∧ x = nI j := by
  have g1 : ¬ x.toInt < (nI a).toInt := fun q => h1 (Int32.lt_iff_toInt_lt.mpr q)
  have g2 : ¬ (nI b).toInt ≤ x.toInt := fun q => h2 (Int32.le_iff_toInt_le.mpr q)
  rw [nI_toInt ha] at g1
  rw [nI_toInt hb] at g2
  obtain ⟨j, hj, rfl⟩ := nI_of (x := x) (fun q => by
    have := Int32.lt_iff_toInt_lt.mp q
    rw [Int32.toInt_zero] at this
    omega)
  rw [nI_toInt hj] at g1 g2
  exact ⟨j, by omega, by omega, rfl⟩
/-! the class's mirrors -/
theorem PD_arr {G : EG} {w : va_W} {H : Heap} {A : Nat → Prop} {a n : Nat} {F F' : Nat → Nat} (hP : va_P G.1 vwCl w H) (hD : va_D A w) (q : Nat) (ha : w[q]? = some (a, aI G n F)) (h : ∀ i, i < n → F i = F' i) : va_P G.1 vwCl (w.set q (a, aI G n F')) H ∧ va_D A (w.set q (a, aI G n F')) :=
  ⟨hP.set hD ha (aI_ext h (hP q _ ha)) (fun _ _ => rfl), hD.set ha⟩
def cpyL (F F1 : Nat → Nat) : Nat → (Nat → Nat)
  | 0 => F
  | k + 1 => va_up (cpyL F F1 k) k (F1 k)
theorem cpyL_eq (F F1 : Nat → Nat) : ∀ k i, i < k → cpyL F F1 k i = F1 i
  | 0, i, h => absurd h (Nat.not_lt_zero _)
  | k + 1, i, h => by
    by_cases e : i = k
    · rw [e]; exact up_eq
    · rw [cpyL, up_ne e]; exact cpyL_eq F F1 k i (by omega)
def shL (F : Nat → Nat) (d : Nat) : Nat → (Nat → Nat)
  | 0 => F
  | k + 1 => va_up (shL F d k) (d + k) (shL F d k (d + k + 1))
def pr (a b : Nat) : Nat := (1 <<< a) ||| (1 <<< b)
theorem shl1 {a n : Nat} (h : a < n) : 1 <<< a < 2 ^ n := by
  rw [Nat.shiftLeft_eq, Nat.one_mul]; exact Nat.pow_lt_pow_right (by decide) h
theorem pr_lt {a b : Nat} (ha : a < 23) (hb : b < 23) : pr a b < 8388608 := bd_or 23 (shl1 ha) (shl1 hb)
def jonL (B : Nat → Nat) (q : Nat) : Nat → Nat
  | 0 => 0
  | k + 1 => if B k &&& q = q then jonL B q k ||| B k else jonL B q k
theorem jonL_lt {B : Nat → Nat} {q n : Nat} (hB : ∀ i, i < n → B i < 8388608) : ∀ k, k ≤ n → jonL B q k < 8388608
  | 0, _ => Nat.le_of_ble_eq_true rfl
  | k + 1, h => by
    rw [jonL]
    split
    · exact bd_or 23 (jonL_lt hB k (by omega)) (hB k (by omega))
    · exact jonL_lt hB k (by omega)
def cbQ (B : Nat → Nat) (d a : Nat) : Nat → Nat → Nat
  | 0, t => t
  | k + 1, t => cbQ B d a k (t + bcN (jonL B (pr a (22 - k)) d >>> (22 - k + 1)))
def cbP (B : Nat → Nat) (d : Nat) : Nat → Nat → Nat
  | 0, t => t
  | k + 1, t => cbP B d k (cbQ B d (22 - k) k t)
def fnR (J a b : Nat) : Nat → Int32 → Int32
  | 0, z => z
  | k + 1, z => if J >>> (22 - k) &&& 1 = 0 then nI ((a * 23 + b) * 23 + (22 - k)) else fnR J a b k z
def fnQ (B : Nat → Nat) (d a : Nat) : Nat → Int32 → Int32
  | 0, z => z
  | k + 1, z => fnR (jonL B (pr a (22 - k)) d) a (22 - k) k (fnQ B d a k z)
def fnP (B : Nat → Nat) (d : Nat) : Nat → Int32 → Int32
  | 0, z => z
  | k + 1, z => fnQ B d (22 - k) k (fnP B d k z)
def smL (V : Nat → Nat) (v : Nat) : Nat → Nat
  | 0 => 0
  | k + 1 => if v >>> k &&& 1 = 1 then smL V v k + V k else smL V v k
theorem smL_le {V : Nat → Nat} (h : ∀ q, q < 23 → V q ≤ 9) (v : Nat) : ∀ k, k ≤ 23 → smL V v k ≤ 9 * k
  | 0, _ => Nat.le_refl 0
  | k + 1, hk => by
    have h1 := smL_le h v k (by omega)
    have h2 := h k (by omega)
    rw [smL]
    split <;> omega
def wbL (V : Nat → Nat) (v : Nat) : Nat → Nat × Nat
  | 0 => (0, 10)
  | k + 1 => if v >>> k &&& 1 = 0 ∧ V k < (wbL V v k).2 then (k, V k) else wbL V v k
def wbN (V : Nat → Nat) (v : Nat) : Nat := (wbL V v 23).1
theorem wbL_lt (V : Nat → Nat) (v : Nat) : ∀ k, k ≤ 23 → (wbL V v k).1 < 23
  | 0, _ => Nat.le_of_ble_eq_true rfl
  | k + 1, h => by
    rw [wbL]
    split
    · show k < 23; omega
    · exact wbL_lt V v k (by omega)
theorem wbN_lt (V : Nat → Nat) (v : Nat) : wbN V v < 23 := wbL_lt V v 23 (Nat.le_refl _)
theorem wb_t {V : Nat → Nat} {v k u t : Nat} (h : (u, t) = wbL V v k) (h1 : v >>> k &&& 1 = 0) (h2 : V k < t) : (k, V k) = wbL V v (k + 1) := by
  rw [wbL, ← h, if_pos ⟨h1, h2⟩]
theorem wb_f1 {V : Nat → Nat} {v k u t : Nat} (h : (u, t) = wbL V v k) (h1 : ¬ v >>> k &&& 1 = 0) : (u, t) = wbL V v (k + 1) := by
  rw [wbL, ← h, if_neg (fun q => h1 q.1)]
theorem wb_f2 {V : Nat → Nat} {v k u t : Nat} (h : (u, t) = wbL V v k) (h1 : t ≤ V k) : (u, t) = wbL V v (k + 1) := by
  rw [wbL, ← h, if_neg (fun q => absurd q.2 (Nat.not_lt.mpr h1))]
def tkN (V : Nat → Nat) : Nat → Nat
  | 0 => 0
  | j + 1 => tkN V j ||| (1 <<< wbN V (tkN V j))
def wsN (V : Nat → Nat) (j : Nat) : Nat := wbN V (tkN V j)
theorem tkN_lt (V : Nat → Nat) : ∀ j, tkN V j < 8388608
  | 0 => Nat.le_of_ble_eq_true rfl
  | j + 1 => bd_or 23 (tkN_lt V j) (shl1 (wbN_lt V _))
def flI (D : Nat → Nat) (g q : Nat) : Nat → (Nat → Nat)
  | 0 => D
  | k + 1 => va_up (flI D g q k) (q + k) (flI D g q k k ^^^ g)
def flO (V : Nat → Nat) (w : Nat) (C : Nat → Nat) : Nat → (Nat → Nat)
  | 0 => va_up C 0 w
  | j + 1 => flI (flO V w C j) (1 <<< wsN V j) (1 <<< j) (1 <<< j)
def flN (E D : Nat → Nat) : Nat → (Nat → Nat)
  | 0 => D
  | k + 1 => va_up (flN E D k) k (nearE E (flN E D k k))
theorem up_lt {F : Nat → Nat} {k x n M : Nat} (hF : ∀ i, i < n → F i < M) (hx : x < M) : ∀ i, i < n → va_up F k x i < M := fun i hi => by
  unfold va_up
  split
  · exact hx
  · exact hF i hi
theorem flI_lt {D : Nat → Nat} {g q : Nat} (hD : ∀ i, i < 16 → D i < 8388608) (hg : g < 8388608) : ∀ k, k ≤ 16 → ∀ i, i < 16 → flI D g q k i < 8388608
  | 0, _ => hD
  | k + 1, hk => up_lt (flI_lt hD hg k (by omega)) (bd_xor 23 (flI_lt hD hg k (by omega) k (by omega)) hg)
theorem flO_lt {V C : Nat → Nat} {w : Nat} (hw : w < 8388608) (hC : ∀ i, i < 16 → C i < 8388608) : ∀ j, j ≤ 4 → ∀ i, i < 16 → flO V w C j i < 8388608
  | 0, _ => up_lt hC hw
  | j + 1, hj => flI_lt (flO_lt hw hC j (by omega)) (shl1 (wbN_lt V _)) _ (shl16 (by omega))
theorem flN_lt {E D : Nat → Nat} (hE : ∀ i, i < 2048 → E i < 8388608) (hD : ∀ i, i < 16 → D i < 8388608) : ∀ k, k ≤ 16 → ∀ i, i < 16 → flN E D k i < 8388608
  | 0, _ => hD
  | k + 1, hk => up_lt (flN_lt hE hD k (by omega)) (near_lt hE (flN_lt hE hD k (by omega) k (by omega)))
def btL (V C : Nat → Nat) (w : Nat) : Nat → Nat × Nat
  | 0 => (0, smL V (C 0 ^^^ w) 23)
  | k + 1 => if smL V (C (k + 1) ^^^ w) 23 < (btL V C w k).2 then (k + 1, smL V (C (k + 1) ^^^ w) 23) else btL V C w k
theorem btL_le (V C : Nat → Nat) (w : Nat) : ∀ k, (btL V C w k).1 ≤ k
  | 0 => Nat.le_refl 0
  | k + 1 => by
    rw [btL]
    split
    · exact Nat.le_refl _
    · exact Nat.le_trans (btL_le V C w k) (Nat.le_succ k)
theorem bt_t {V C : Nat → Nat} {w k u t : Nat} (h : (u, t) = btL V C w k) (h1 : smL V (C (k + 1) ^^^ w) 23 < t) : (k + 1, smL V (C (k + 1) ^^^ w) 23) = btL V C w (k + 1) := by
  rw [btL, ← h, if_pos h1]
theorem bt_f {V C : Nat → Nat} {w k u t : Nat} (h : (u, t) = btL V C w k) (h1 : t ≤ smL V (C (k + 1) ^^^ w) 23) : (u, t) = btL V C w (k + 1) := by
  rw [btL, ← h, if_neg (Nat.not_lt.mpr h1)]
def imF (a b : Nat) : Nat → Option Nat := fun i => if i = 0 then some a else some b
def cMade (x : Int32) : Int32 := if blw x 4096 = true then nI (codedN (cl x)) else -2
def cOf (E : Nat → Nat) (x y : Int32) : Int32 := if blw x 8388608 = true ∧ blw y 4 = true then (if cl y = 0 then nI (bcN (cl x)) else if cl y = 1 then nI (nearE E (cl x)) else if cl y = 2 then nI (bcN (E (remN (cl x)))) else nI (nearE E (cl x) >>> 11)) else -2
def cAround (E : Nat → Nat) (x y : Int32) : Int32 := if blw x 8388608 = true ∧ blw y 24 = true then nI (arT (bcN (E (remN (cl x))) * 24 + cl y)) else -2
def cTurned (x y : Int32) : Int32 := if blw x 8388608 = true ∧ blw y 23 = true then nI (turnN (cl x) (cl y)) else -2
def cErrOk (w way : Nat) : Bool := decide (bcN (errN w way) ≤ 3)
def ctpV (w j r way : Nat) : Int32 := if j = 0 then nI r else if j = 1 then nI way else nI (turnN (errN (turnN w r) way) (23 - r))
def ctpW (w j r : Nat) (d : Int32) : Nat → Int32
  | 0 => d
  | k + 1 => if bcN (errN (turnN w r) (2 - k)) ≤ 3 then ctpV w j r (2 - k) else ctpW w j r d k
def ctpT (w j : Nat) : Nat → Int32
  | 0 => -6
  | k + 1 => ctpW w j (22 - k) (ctpT w j k) 3
def cTrapped (x y : Int32) : Int32 := if blw x 8388608 = true ∧ blw y 3 = true then ctpT (cl x) (cl y) 23 else -2
theorem turnN_lt (w k : Nat) : turnN w k < 8388608 := bd_and (by decide)
theorem chgN_lt (k : Nat) : chgN k < 8388608 := by
  unfold chgN
  split
  · decide
  · split <;> decide
theorem errN_lt {w k : Nat} (hw : w < 8388608) : errN w k < 8388608 := bd_or 23 (Nat.lt_trans (remN_lt11 (bd_xor 23 hw (chgN_lt k))) (by decide)) (chgN_lt k)
def cWide (x : Int32) : Int32 := if blw x 4096 = true then nI (widenN (codedN (cl x))) else -2
theorem coded_lt {k : Nat} (h : k < 4096) : codedN k < 8388608 := bd_or 23 (shl11_lt h) (Nat.lt_trans (remN_lt11 (shl11_lt h)) (by decide))
theorem widen_lt {w : Nat} (h : w < 8388608) : widenN w < 16777216 := bd_or 24 (Nat.lt_trans h (by decide)) (shl1_lt (by decide))
def cRead (E : Nat → Nat) (x y : Int32) : Int32 := if blw x 16777216 = true ∧ blw y 2 = true then (if bcN (widenN (nearE E (cl x &&& 8388607)) ^^^ cl x) ≤ 3 then (if cl y = 0 then nI (nearE E (cl x &&& 8388607) >>> 11) else nI (bcN (widenN (nearE E (cl x &&& 8388607)) ^^^ cl x))) else -6) else -2
def cKeeps (x y : Int32) : Int32 := if mvOk x y = true then (if stayN (cl x) (cl y) = true then nI 1 else nI 0) else -2
def cTold (n0 : Nat) (F S B : Nat → Nat) (x y : Int32) : Int32 := if blw x n0 = true then (if y = nI 0 then nI (F (cl x)) else if y = nI 1 then nI (S (cl x)) else if y = nI 2 then nI (cbP B (cl x + 1) 23 0) - nI (cbP B (cl x) 23 0) else -2) else -1
def cfR (F S : Nat → Nat) (w i : Nat) : Nat := remN (carN w (F i) (S i))
def cfF (n0 : Nat) (F S : Nat → Nat) (w j : Nat) : Nat → Int32
  | 0 => -6
  | k + 1 => if bcN (cfR F S w (n0 - (k + 1))) ≤ 3 then (if j = 0 then nI (n0 - (k + 1)) else nI (bakN (cfR F S w (n0 - (k + 1))) (F (n0 - (k + 1))) (S (n0 - (k + 1))))) else cfF n0 F S w j k
def cFreed (n0 : Nat) (F S : Nat → Nat) (x y : Int32) : Int32 := if blw x 8388608 = true ∧ blw y 2 = true then cfF n0 F S (cl x) (cl y) n0 else -2
def cOpen (n0 : Nat) (B : Nat → Nat) (x : Int32) : Int32 := if x = nI 0 then nI 1771 - nI (cbP B n0 23 0) else if x = nI 1 then fnP B n0 23 (-6) else -2
def cWeak (V : Nat → Nat) (x : Int32) : Int32 := if blw x 4 = true then nI (wsN V (cl x)) else -2
def chcV (V C : Nat → Nat) (w t j : Nat) : Int32 := if j = 3 then nI (unlL C (1 <<< t)) else if j = 2 then nI (btL V C w (1 <<< t - 1)).1 else if j = 0 then nI (C (btL V C w (1 <<< t - 1)).1) else nI (smL V (C (btL V C w (1 <<< t - 1)).1 ^^^ w) 23)
def cChosen (E V C : Nat → Nat) (x y z : Int32) : Int32 := if blw x 8388608 = true ∧ blw y 5 = true ∧ blw z 4 = true then chcV V (flN E (flO V (cl x) C (cl y)) (1 <<< cl y)) (cl x) (cl y) (cl z) else -2
def cChosenC (E V C : Nat → Nat) (x y z : Int32) : Nat → Nat := if blw x 8388608 = true ∧ blw y 5 = true ∧ blw z 4 = true then flN E (flO V (cl x) C (cl y)) (1 <<< cl y) else C
def cCount (n0 kp : Nat) (V : Nat → Nat) (x : Int32) : Int32 := if x = 0 then nI n0 else if x = nI 1 then nI (smL V 8388607 23) else if x = nI 2 then nI kp else if inI x (nI 10) (nI 33) = true then nI (arT (cl x - 10)) else if inI x (nI 40) (nI 62) = true then nI (V (cl x - 40)) else -2
def cMoveR (n0 : Nat) (x y : Int32) : Int32 := if mvOk x y = true then (if stayN (cl x) (cl y) = true then (if n0 = 8 then -4 else nI n0) else -5) else -2
def cMoveOk (n0 : Nat) (x y : Int32) : Bool := decide (mvOk x y = true ∧ stayN (cl x) (cl y) = true ∧ ¬ n0 = 8)
def cMoveN (n0 : Nat) (x y : Int32) : Nat := if cMoveOk n0 x y = true then n0 + 1 else n0
def cMoveF (n0 : Nat) (F : Nat → Nat) (x y : Int32) : Nat → Nat := if cMoveOk n0 x y = true then va_up F n0 (cl x) else F
def cMoveS (n0 : Nat) (S : Nat → Nat) (x y : Int32) : Nat → Nat := if cMoveOk n0 x y = true then va_up S n0 (cl y) else S
def cMoveB (n0 : Nat) (B : Nat → Nat) (x y : Int32) : Nat → Nat := if cMoveOk n0 x y = true then va_up B n0 (bakN 2047 (cl x) (cl y)) else B
def cDropR (n0 : Nat) (x : Int32) : Int32 := if blw x n0 = true then nI (n0 - 1) else -1
def cDropN (n0 : Nat) (x : Int32) : Nat := if blw x n0 = true then n0 - 1 else n0
def cDropA (n0 : Nat) (F : Nat → Nat) (x : Int32) : Nat → Nat := if blw x n0 = true then shL F (cl x) (n0 - 1 - cl x) else F
def cSureR (V : Nat → Nat) (x y : Int32) : Int32 := if blw x 23 = true ∧ blw y 10 = true then nI (V (cl x)) else -2
def cSureV (V : Nat → Nat) (x y : Int32) : Nat → Nat := if blw x 23 = true ∧ blw y 10 = true then va_up V (cl x) (cl y) else V
end
section
set_option maxHeartbeats 4000000 in
set_option maxRecDepth 100000 in
/-- Mender.enter -/
theorem c_X2_enter (l : Launch) (G : EG) (me : Nat) (et : Nat) (E : Nat → Nat) (q : Nat) (x : Nat) (hq : q < 2048) (sz : Nat) : WR l yX2_enter wsX2_enter (rmR 1 21) G sz [(me, .inr (1, [.ref et])), (et, aI G 2048 E)] [.ref me, .int (nI q), .int (nI x)] [(me, .inr (1, [.ref et])), (et, aI G 2048 (va_up E q x))] none := by
  refine WR.start (by decide) rfl (Nat.le_of_ble_eq_true rfl) ?_
  intro p e s m below meth c hx hb hr hml hts hown hlocks hE A hA H locs hP hD hS ls hl
  have hown : s.vm.findClass RX2 = some m.cls := hown
  have hl : lv_has ls 3 [(0, .ref me), (1, .int (nI q)), (2, .int (nI x))] := hl
  refine lv_iload_n hx hb dX2_enter_0 rfl (lv_at hl 1 rfl) ?_
  refine lv_sipush (v := nI 2048) hx hb dX2_enter_1 (by decide) ?_
  refine ro_SN (rest := []) (host := "TripleTrap") ⟨hx, hb, hml, hown, hts⟩ (c_X5_isBelow l G (nI q) 2048) ⟨va_cnB 2 hts gX2_enter_X5_isBelow_n25 rfl rfl rfl (hE.nest (w := .methodLinkNest RX2 25 yX5_isBelow "TripleTrap") 2 rfl) (hts (.initialized RX5) (List.mem_of_getElem? (i := 3) rfl)) (by decide +kernel) ⟨Nat.le_of_ble_eq_true rfl, Nat.le_of_ble_eq_true rfl⟩, hts (.static yX5_isBelow) (List.mem_of_getElem? (i := 2) rfl), trivial⟩ hE (hP.sub [] rfl) rfl hl.1 rfl (Nat.le_of_ble_eq_true rfl) dX2_enter_4 ⟨Nat.zero_le _, Nat.zero_le _⟩ ?_
  refine j_bool (fun c4 => ?_) (fun c4 => ?_)
  · skip
    refine j_if_eq (tgt := 17) hx hb dX2_enter_7 (by decide) (fun q => absurd q (by decide)) (fun _ => ?_)
    refine lv_aload_n hx hb dX2_enter_10 rfl (lv_at hl 0 rfl) ?_
    refine va_get (D := G.1) (ci := 1) (v := .ref et) (C := RX2) (T := TX2) (N := 1) hx hb hts (fun w h => List.mem_cons_of_mem _ (List.mem_append_right _ h)) hown hE.1 hP 0 rfl rfl 0 (by decide) (hts (.fieldLink RX2 9 "TripleTrap$Mender" "errorsByRest" "[I") (List.mem_of_getElem? (i := 1) rfl)) (fun _ h9 => h9) rfl dX2_enter_11 ?_
    refine lv_iload_n hx hb dX2_enter_14 rfl (lv_at hl 1 rfl) ?_
    refine lv_iload_n hx hb dX2_enter_15 rfl (lv_at hl 2 rfl) ?_
    refine j_iast hx hb hE hP hD hS 1 rfl dX2_enter_16 (fun H locs hP hD hS => ?_)
    have hP : va_P G.1 vwCl [(me, .inr (1, [.ref et])), (et, aI G 2048 (va_up E q x))] H := hP
    have hD : va_D A [(me, .inr (1, [.ref et])), (et, aI G 2048 (va_up E q x))] := hD
    exact wr_vret hx hb hr hlocks dX2_enter_17 hP hD hS
  · skip
    rw [blw_j hq (by decide)] at c4; exact absurd c4 (by decide)
set_option maxHeartbeats 4000000 in
set_option maxRecDepth 100000 in
/-- Mender.errors -/
theorem c_X2_errors (l : Launch) (G : EG) (me : Nat) (et : Nat) (E : Nat → Nat) (w : Nat) (hw : w < 8388608) : RO l yX2_errors wsX2_errors (rmR 1 22) G [(me, .inr (1, [.ref et])), (et, aI G 2048 E)] [.ref me, .int (nI w)] (.int (nI (E (remN w)))) := by
  refine RO.start (by decide) rfl (Nat.le_of_ble_eq_true rfl) ?_
  intro p e s m below meth c hx hb hr hml hts hown hlocks hP hE ls hl
  have hown : s.vm.findClass RX2 = some m.cls := hown
  have hl : lv_has ls 3 [(0, .ref me), (1, .int (nI w))] := hl
  refine lv_iload_n hx hb dX2_errors_0 rfl (lv_at hl 1 rfl) ?_
  refine ro_SN (rest := []) (host := "TripleTrap") ⟨hx, hb, hml, hown, hts⟩ (c_X0_remainder l G w (by omega)) ⟨va_cnB 1 hts gX2_errors_X0_remainder_n15 rfl rfl rfl (hE.nest (w := .methodLinkNest RX2 15 yX0_remainder "TripleTrap") 1 rfl) (hts (.initialized RX0) (List.mem_of_getElem? (i := 3) rfl)) (by decide +kernel) ⟨Nat.le_of_ble_eq_true rfl, Nat.le_of_ble_eq_true rfl⟩, hts (.static yX0_remainder) (List.mem_of_getElem? (i := 2) rfl), trivial⟩ hE (hP.sub [] rfl) rfl hl.1 rfl (Nat.le_of_ble_eq_true rfl) dX2_errors_1 ⟨Nat.zero_le _, Nat.zero_le _⟩ ?_
  refine j_top (fun x4 ex4 => ?_)
  refine lv_istore_n (lv' := [(2, .int (nI x4)), (0, .ref me), (1, .int (nI w))]) hx hb dX2_errors_4 rfl hl (by decide) rfl (fun ls hl => ?_)
  have hq : x4 < 2048 := by rw [ex4]; exact remN_lt11 hw
  refine lv_iload_n hx hb dX2_errors_5 rfl (lv_at hl 0 rfl) ?_
  refine lv_sipush (v := nI 2048) hx hb dX2_errors_6 (by decide) ?_
  refine ro_SN (rest := []) (host := "TripleTrap") ⟨hx, hb, hml, hown, hts⟩ (c_X5_isBelow l G (nI x4) 2048) ⟨va_cnB 2 hts gX2_errors_X5_isBelow_n25 rfl rfl rfl (hE.nest (w := .methodLinkNest RX2 25 yX5_isBelow "TripleTrap") 2 rfl) (hts (.initialized RX5) (List.mem_of_getElem? (i := 6) rfl)) (by decide +kernel) ⟨Nat.le_of_ble_eq_true rfl, Nat.le_of_ble_eq_true rfl⟩, hts (.static yX5_isBelow) (List.mem_of_getElem? (i := 5) rfl), trivial⟩ hE (hP.sub [] rfl) rfl hl.1 rfl (Nat.le_of_ble_eq_true rfl) dX2_errors_9 ⟨Nat.zero_le _, Nat.zero_le _⟩ ?_
  refine j_bool (fun c9 => ?_) (fun c9 => ?_)
  · skip
    refine j_if_eq (tgt := 24) hx hb dX2_errors_12 (by decide) (fun q => absurd q (by decide)) (fun _ => ?_)
    refine lv_aload_n hx hb dX2_errors_15 rfl (lv_at hl 1 rfl) ?_
    refine va_get (D := G.1) (ci := 1) (v := .ref et) (C := RX2) (T := TX2) (N := 1) hx hb hts (fun w h => List.mem_cons_of_mem _ (List.mem_append_right _ h)) hown hE.1 hP 0 rfl rfl 0 (by decide) (hts (.fieldLink RX2 9 "TripleTrap$Mender" "errorsByRest" "[I") (List.mem_of_getElem? (i := 1) rfl)) (fun _ h9 => h9) rfl dX2_errors_16 ?_
    refine lv_iload_n hx hb dX2_errors_19 rfl (lv_at hl 0 rfl) ?_
    refine j_iald hx hb hE hP 1 rfl dX2_errors_20 ?_ (hk := hq)
    refine lv_goto (tgt := 25) hx hb dX2_errors_21 (by decide) ?_
    exact ro_ret hx hb hr hlocks dX2_errors_25 (by rw [ex4])
  · skip
    rw [blw_j hq (by decide)] at c9; exact absurd c9 (by decide)
set_option maxHeartbeats 4000000 in
set_option maxRecDepth 100000 in
/-- Mender.nearest -/
theorem c_X2_nearest (l : Launch) (G : EG) (me : Nat) (et : Nat) (E : Nat → Nat) (w : Nat) (hw : w < 8388608) : RO l yX2_nearest wsX2_nearest (rmR 2 44) G [(me, .inr (1, [.ref et])), (et, aI G 2048 E)] [.ref me, .int (nI w)] (.int (nI (nearE E w))) := by
  refine RO.start (by decide) rfl (Nat.le_of_ble_eq_true rfl) ?_
  intro p e s m below meth c hx hb hr hml hts hown hlocks hP hE ls hl
  have hown : s.vm.findClass RX2 = some m.cls := hown
  have hl : lv_has ls 2 [(0, .ref me), (1, .int (nI w))] := hl
  refine lv_iload_n hx hb dX2_nearest_0 rfl (lv_at hl 1 rfl) ?_
  refine lv_aload_n hx hb dX2_nearest_1 rfl (lv_at hl 0 rfl) ?_
  refine lv_iload_n hx hb dX2_nearest_2 rfl (lv_at hl 1 rfl) ?_
  refine ro_V 1 0 (rest := [.int (nI w)]) ⟨hx, hb, hml, hown, hts⟩ (c_X2_errors l G me et E w (by omega)) (cwV 1 hts gX2_nearest_X2_errors rfl rfl rfl (by decide +kernel) ⟨Nat.le_of_ble_eq_true rfl, Nat.le_of_ble_eq_true rfl⟩) hE (hP.sub [0, 1] rfl) rfl rfl rfl hl.1 rfl (Nat.le_of_ble_eq_true rfl) dX2_nearest_3 ⟨Nat.zero_le _, Nat.zero_le _⟩ ?_
  refine j_xor hx hb dX2_nearest_6 ?_
  exact ro_ret hx hb hr hlocks dX2_nearest_7 (rfl)
set_option maxHeartbeats 4000000 in
set_option maxRecDepth 100000 in
/-- Mender.distance -/
theorem c_X2_distance (l : Launch) (G : EG) (me : Nat) (et : Nat) (E : Nat → Nat) (hEb : ∀ i, i < 2048 → E i < 8388608) (w : Nat) (hw : w < 8388608) : RO l yX2_distance wsX2_distance (rmR 2 44) G [(me, .inr (1, [.ref et])), (et, aI G 2048 E)] [.ref me, .int (nI w)] (.int (nI (bcN (E (remN w))))) := by
  refine RO.start (by decide) rfl (Nat.le_of_ble_eq_true rfl) ?_
  intro p e s m below meth c hx hb hr hml hts hown hlocks hP hE ls hl
  have hown : s.vm.findClass RX2 = some m.cls := hown
  have hl : lv_has ls 2 [(0, .ref me), (1, .int (nI w))] := hl
  refine lv_aload_n hx hb dX2_distance_0 rfl (lv_at hl 0 rfl) ?_
  refine lv_iload_n hx hb dX2_distance_1 rfl (lv_at hl 1 rfl) ?_
  refine ro_V 1 0 (rest := []) ⟨hx, hb, hml, hown, hts⟩ (c_X2_errors l G me et E w (by omega)) (cwV 1 hts gX2_distance_X2_errors rfl rfl rfl (by decide +kernel) ⟨Nat.le_of_ble_eq_true rfl, Nat.le_of_ble_eq_true rfl⟩) hE (hP.sub [0, 1] rfl) rfl rfl rfl hl.1 rfl (Nat.le_of_ble_eq_true rfl) dX2_distance_2 ⟨Nat.zero_le _, Nat.zero_le _⟩ ?_
  refine ro_S (rest := []) ⟨hx, hb, hml, hown, hts⟩ (c_J6_bitCount_0f7a4 l G (E (remN w)) (Nat.lt_trans (hEb _ (remN_lt11 hw)) (by decide))) (va_cwS 1 hts gX2_distance_J6_bitCount_0f7a4 rfl rfl rfl (by decide +kernel) ⟨Nat.le_of_ble_eq_true rfl, Nat.le_of_ble_eq_true rfl⟩) hE (hP.sub [] rfl) rfl hl.1 rfl (Nat.le_of_ble_eq_true rfl) dX2_distance_5 ⟨Nat.zero_le _, Nat.zero_le _⟩ ?_
  exact ro_ret hx hb hr hlocks dX2_distance_8 (rfl)
set_option maxHeartbeats 4000000 in
set_option maxRecDepth 100000 in
/-- Moves.copyFrom -/
theorem c_X3_copyFrom (l : Launch) (G : EG) (m0 : Nat) (n0 : Nat) (f0 : Nat) (s0 : Nat) (b0 : Nat) (m1 : Nat) (n1 : Nat) (f1 : Nat) (s1 : Nat) (b1 : Nat) (F : Nat → Nat) (S : Nat → Nat) (B : Nat → Nat) (F1 : Nat → Nat) (S1 : Nat → Nat) (B1 : Nat → Nat) (sz : Nat) : WR l yX3_copyFrom wsX3_copyFrom (rmR 0 0) G sz [(m0, .inr (2, [.int (nI n0), .ref f0, .ref s0, .ref b0])), (f0, aI G 8 F), (s0, aI G 8 S), (b0, aI G 8 B), (m1, .inr (2, [.int (nI n1), .ref f1, .ref s1, .ref b1])), (f1, aI G 8 F1), (s1, aI G 8 S1), (b1, aI G 8 B1)] [.ref m0, .ref m1] [(m0, .inr (2, [.int (nI n1), .ref f0, .ref s0, .ref b0])), (f0, aI G 8 F1), (s0, aI G 8 S1), (b0, aI G 8 B1), (m1, .inr (2, [.int (nI n1), .ref f1, .ref s1, .ref b1])), (f1, aI G 8 F1), (s1, aI G 8 S1), (b1, aI G 8 B1)] none := by
  refine WR.start (by decide) rfl (Nat.le_of_ble_eq_true rfl) ?_
  intro p e s m below meth c hx hb hr hml hts hown hlocks hE A hA H locs hP hD hS ls hl
  have hown : s.vm.findClass RX3 = some m.cls := hown
  have hl : lv_has ls 3 [(0, .ref m0), (1, .ref m1)] := hl
  refine lv_aload_n hx hb dX3_copyFrom_0 rfl (lv_at hl 0 rfl) ?_
  refine lv_aload_n hx hb dX3_copyFrom_1 rfl (lv_at hl 1 rfl) ?_
  refine va_get (D := G.1) (ci := 2) (v := .int (nI n1)) (C := RX3) (T := TX3) (N := 4) hx hb hts (fun w h => List.mem_cons_of_mem _ (List.mem_append_right _ h)) hown hE.1 hP 4 rfl rfl 0 (by decide) (hts (.fieldLink RX3 9 "TripleTrap$Moves" "size" "I") (List.mem_of_getElem? (i := 1) rfl)) (fun _ h9 => h9) rfl dX3_copyFrom_2 ?_
  refine va_put (D := G.1) (ci := 2) (v := .int (nI n1)) (ty := .int) (C := RX3) (T := TX3) (N := 4) hx hb hts (fun w h => List.mem_cons_of_mem _ (List.mem_append_right _ h)) tyX3 tyX3_ok nmX3 hown hE.1 hP hD hS 0 rfl rfl 0 (by decide) (hts (.fieldLink RX3 9 "TripleTrap$Moves" "size" "I") (List.mem_of_getElem? (i := 1) rfl)) (fun _ h9 => h9) rfl (by decide +kernel) rfl rfl (Nat.le_of_ble_eq_true rfl) dX3_copyFrom_5 (fun H locs hP hD hS => ?_)
  have hP : va_P G.1 vwCl [(m0, .inr (2, [.int (nI n1), .ref f0, .ref s0, .ref b0])), (f0, aI G 8 F), (s0, aI G 8 S), (b0, aI G 8 B), (m1, .inr (2, [.int (nI n1), .ref f1, .ref s1, .ref b1])), (f1, aI G 8 F1), (s1, aI G 8 S1), (b1, aI G 8 B1)] H := hP
  have hD : va_D A [(m0, .inr (2, [.int (nI n1), .ref f0, .ref s0, .ref b0])), (f0, aI G 8 F), (s0, aI G 8 S), (b0, aI G 8 B), (m1, .inr (2, [.int (nI n1), .ref f1, .ref s1, .ref b1])), (f1, aI G 8 F1), (s1, aI G 8 S1), (b1, aI G 8 B1)] := hD
  refine lv_iconst (v := nI 0) hx hb dX3_copyFrom_8 (by decide) ?_
  refine lv_istore_n (lv' := [(2, .int (nI 0)), (0, .ref m0), (1, .ref m1)]) hx hb dX3_copyFrom_9 rfl hl (by decide) rfl (fun ls hl => ?_)
  have loop10 : ∀ (fuel : Nat) (k : Nat) (D1 : Nat → Nat) (D2 : Nat → Nat) (D3 : Nat → Nat), (k ≤ 8) → (D1 = cpyL F F1 k) → (D2 = cpyL S S1 k) → (D3 = cpyL B B1 k) → 8 - k < fuel → ∀ (H : Heap) (locs : List Loc), va_P G.1 vwCl [(m0, .inr (2, [.int (nI n1), .ref f0, .ref s0, .ref b0])), (f0, aI G 8 D1), (s0, aI G 8 D2), (b0, aI G 8 D3), (m1, .inr (2, [.int (nI n1), .ref f1, .ref s1, .ref b1])), (f1, aI G 8 F1), (s1, aI G 8 S1), (b1, aI G 8 B1)] H → va_D A [(m0, .inr (2, [.int (nI n1), .ref f0, .ref s0, .ref b0])), (f0, aI G 8 D1), (s0, aI G 8 D2), (b0, aI G 8 D3), (m1, .inr (2, [.int (nI n1), .ref f1, .ref s1, .ref b1])), (f1, aI G 8 F1), (s1, aI G 8 S1), (b1, aI G 8 B1)] → va_S A s.heap H locs → ∀ ls : Array Slot, lv_has ls 3 [(2, .int (nI k)), (0, .ref m0), (1, .ref m1)] → W p l e (rmR 0 0) s m ([.ref m0, .ref m1] : List Value).toArray below meth c H locs 0 0 (MQ below (postW G [(m0, .inr (2, [.int (nI n1), .ref f0, .ref s0, .ref b0])), (f0, aI G 8 F1), (s0, aI G 8 S1), (b0, aI G 8 B1), (m1, .inr (2, [.int (nI n1), .ref f1, .ref s1, .ref b1])), (f1, aI G 8 F1), (s1, aI G 8 S1), (b1, aI G 8 B1)] none A) ([.ref m0, .ref m1] : List Value).toArray s 0 0 A) (F0 m 10 ls []) := by
    intro fuel
    induction fuel with
    | zero => intro k D1 D2 D3 h1 q1 q2 q3 hf; exact absurd hf (Nat.not_lt_zero _)
    | succ fuel ih10 =>
      intro k D1 D2 D3 h1 q1 q2 q3 hf H locs hP hD hS ls hl
      refine lv_iload_n hx hb dX3_copyFrom_10 rfl (lv_at hl 0 rfl) ?_
      refine lv_bipush (v := nI 8) hx hb dX3_copyFrom_11 (by decide) ?_
      refine j_icmp_ge (tgt := 58) hx hb dX3_copyFrom_13 (by decide) (fun c13 => ?_) (fun c13 => ?_)
      · skip
        obtain ⟨hP, hD⟩ := PD_arr (F' := F1) hP hD 1 rfl (fun i hi => by rw [q1, show k = 8 by omega]; exact cpyL_eq _ _ _ _ hi)
        obtain ⟨hP, hD⟩ := PD_arr (F' := S1) hP hD 2 rfl (fun i hi => by rw [q2, show k = 8 by omega]; exact cpyL_eq _ _ _ _ hi)
        obtain ⟨hP, hD⟩ := PD_arr (F' := B1) hP hD 3 rfl (fun i hi => by rw [q3, show k = 8 by omega]; exact cpyL_eq _ _ _ _ hi)
        exact wr_vret hx hb hr hlocks dX3_copyFrom_58 hP hD hS
      · skip
        refine lv_aload_n hx hb dX3_copyFrom_16 rfl (lv_at hl 1 rfl) ?_
        refine va_get (D := G.1) (ci := 2) (v := .ref f0) (C := RX3) (T := TX3) (N := 4) hx hb hts (fun w h => List.mem_cons_of_mem _ (List.mem_append_right _ h)) hown hE.1 hP 0 rfl rfl 1 (by decide) (hts (.fieldLink RX3 15 "TripleTrap$Moves" "factors" "[I") (List.mem_of_getElem? (i := 2) rfl)) (fun _ h9 => h9) rfl dX3_copyFrom_17 ?_
        refine lv_iload_n hx hb dX3_copyFrom_20 rfl (lv_at hl 0 rfl) ?_
        refine lv_aload_n hx hb dX3_copyFrom_21 rfl (lv_at hl 2 rfl) ?_
        refine va_get (D := G.1) (ci := 2) (v := .ref f1) (C := RX3) (T := TX3) (N := 4) hx hb hts (fun w h => List.mem_cons_of_mem _ (List.mem_append_right _ h)) hown hE.1 hP 4 rfl rfl 1 (by decide) (hts (.fieldLink RX3 15 "TripleTrap$Moves" "factors" "[I") (List.mem_of_getElem? (i := 2) rfl)) (fun _ h9 => h9) rfl dX3_copyFrom_22 ?_
        refine lv_iload_n hx hb dX3_copyFrom_25 rfl (lv_at hl 0 rfl) ?_
        refine j_iald hx hb hE hP 5 rfl dX3_copyFrom_26 ?_
        refine j_iast hx hb hE hP hD hS 1 rfl dX3_copyFrom_27 (fun H locs hP hD hS => ?_)
        have hP : va_P G.1 vwCl [(m0, .inr (2, [.int (nI n1), .ref f0, .ref s0, .ref b0])), (f0, aI G 8 (va_up D1 k (F1 k))), (s0, aI G 8 D2), (b0, aI G 8 D3), (m1, .inr (2, [.int (nI n1), .ref f1, .ref s1, .ref b1])), (f1, aI G 8 F1), (s1, aI G 8 S1), (b1, aI G 8 B1)] H := hP
        have hD : va_D A [(m0, .inr (2, [.int (nI n1), .ref f0, .ref s0, .ref b0])), (f0, aI G 8 (va_up D1 k (F1 k))), (s0, aI G 8 D2), (b0, aI G 8 D3), (m1, .inr (2, [.int (nI n1), .ref f1, .ref s1, .ref b1])), (f1, aI G 8 F1), (s1, aI G 8 S1), (b1, aI G 8 B1)] := hD
        refine lv_aload_n hx hb dX3_copyFrom_28 rfl (lv_at hl 1 rfl) ?_
        refine va_get (D := G.1) (ci := 2) (v := .ref s0) (C := RX3) (T := TX3) (N := 4) hx hb hts (fun w h => List.mem_cons_of_mem _ (List.mem_append_right _ h)) hown hE.1 hP 0 rfl rfl 2 (by decide) (hts (.fieldLink RX3 19 "TripleTrap$Moves" "shifts" "[I") (List.mem_of_getElem? (i := 3) rfl)) (fun _ h9 => h9) rfl dX3_copyFrom_29 ?_
        refine lv_iload_n hx hb dX3_copyFrom_32 rfl (lv_at hl 0 rfl) ?_
        refine lv_aload_n hx hb dX3_copyFrom_33 rfl (lv_at hl 2 rfl) ?_
        refine va_get (D := G.1) (ci := 2) (v := .ref s1) (C := RX3) (T := TX3) (N := 4) hx hb hts (fun w h => List.mem_cons_of_mem _ (List.mem_append_right _ h)) hown hE.1 hP 4 rfl rfl 2 (by decide) (hts (.fieldLink RX3 19 "TripleTrap$Moves" "shifts" "[I") (List.mem_of_getElem? (i := 3) rfl)) (fun _ h9 => h9) rfl dX3_copyFrom_34 ?_
        refine lv_iload_n hx hb dX3_copyFrom_37 rfl (lv_at hl 0 rfl) ?_
        refine j_iald hx hb hE hP 6 rfl dX3_copyFrom_38 ?_
        refine j_iast hx hb hE hP hD hS 2 rfl dX3_copyFrom_39 (fun H locs hP hD hS => ?_)
        have hP : va_P G.1 vwCl [(m0, .inr (2, [.int (nI n1), .ref f0, .ref s0, .ref b0])), (f0, aI G 8 (va_up D1 k (F1 k))), (s0, aI G 8 (va_up D2 k (S1 k))), (b0, aI G 8 D3), (m1, .inr (2, [.int (nI n1), .ref f1, .ref s1, .ref b1])), (f1, aI G 8 F1), (s1, aI G 8 S1), (b1, aI G 8 B1)] H := hP
        have hD : va_D A [(m0, .inr (2, [.int (nI n1), .ref f0, .ref s0, .ref b0])), (f0, aI G 8 (va_up D1 k (F1 k))), (s0, aI G 8 (va_up D2 k (S1 k))), (b0, aI G 8 D3), (m1, .inr (2, [.int (nI n1), .ref f1, .ref s1, .ref b1])), (f1, aI G 8 F1), (s1, aI G 8 S1), (b1, aI G 8 B1)] := hD
        refine lv_aload_n hx hb dX3_copyFrom_40 rfl (lv_at hl 1 rfl) ?_
        refine va_get (D := G.1) (ci := 2) (v := .ref b0) (C := RX3) (T := TX3) (N := 4) hx hb hts (fun w h => List.mem_cons_of_mem _ (List.mem_append_right _ h)) hown hE.1 hP 0 rfl rfl 3 (by decide) (hts (.fieldLink RX3 22 "TripleTrap$Moves" "brought" "[I") (List.mem_of_getElem? (i := 4) rfl)) (fun _ h9 => h9) rfl dX3_copyFrom_41 ?_
        refine lv_iload_n hx hb dX3_copyFrom_44 rfl (lv_at hl 0 rfl) ?_
        refine lv_aload_n hx hb dX3_copyFrom_45 rfl (lv_at hl 2 rfl) ?_
        refine va_get (D := G.1) (ci := 2) (v := .ref b1) (C := RX3) (T := TX3) (N := 4) hx hb hts (fun w h => List.mem_cons_of_mem _ (List.mem_append_right _ h)) hown hE.1 hP 4 rfl rfl 3 (by decide) (hts (.fieldLink RX3 22 "TripleTrap$Moves" "brought" "[I") (List.mem_of_getElem? (i := 4) rfl)) (fun _ h9 => h9) rfl dX3_copyFrom_46 ?_
        refine lv_iload_n hx hb dX3_copyFrom_49 rfl (lv_at hl 0 rfl) ?_
        refine j_iald hx hb hE hP 7 rfl dX3_copyFrom_50 ?_
        refine j_iast hx hb hE hP hD hS 3 rfl dX3_copyFrom_51 (fun H locs hP hD hS => ?_)
        have hP : va_P G.1 vwCl [(m0, .inr (2, [.int (nI n1), .ref f0, .ref s0, .ref b0])), (f0, aI G 8 (va_up D1 k (F1 k))), (s0, aI G 8 (va_up D2 k (S1 k))), (b0, aI G 8 (va_up D3 k (B1 k))), (m1, .inr (2, [.int (nI n1), .ref f1, .ref s1, .ref b1])), (f1, aI G 8 F1), (s1, aI G 8 S1), (b1, aI G 8 B1)] H := hP
        have hD : va_D A [(m0, .inr (2, [.int (nI n1), .ref f0, .ref s0, .ref b0])), (f0, aI G 8 (va_up D1 k (F1 k))), (s0, aI G 8 (va_up D2 k (S1 k))), (b0, aI G 8 (va_up D3 k (B1 k))), (m1, .inr (2, [.int (nI n1), .ref f1, .ref s1, .ref b1])), (f1, aI G 8 F1), (s1, aI G 8 S1), (b1, aI G 8 B1)] := hD
        obtain ⟨x52, ex52⟩ : ∃ y : Nat, y = k + 1 := ⟨_, rfl⟩
        refine lv_iinc (v := nI x52) (lv' := [(2, .int (nI x52)), (0, .ref m0), (1, .ref m1)]) hx hb dX3_copyFrom_52 hl (k := 0) rfl (by rw [ex52]; exact nI_add _ _) (by decide) rfl (fun ls hl => ?_)
        refine lv_goto (tgt := 10) hx hb dX3_copyFrom_55 (by decide) ?_
        exact ih10 x52 (va_up D1 k (F1 k)) (va_up D2 k (S1 k)) (va_up D3 k (B1 k)) (by omega) (by rw [ex52, cpyL, ← q1]) (by rw [ex52, cpyL, ← q2]) (by rw [ex52, cpyL, ← q3]) (by omega) H locs hP hD hS ls (lv_sub hl [0, 1, 2] rfl)
  exact loop10 _ 0 F S B (by omega) rfl rfl rfl (Nat.lt_succ_self _) H locs hP hD hS ls (lv_sub hl [0, 1, 2] rfl)
set_option maxHeartbeats 4000000 in
set_option maxRecDepth 100000 in
/-- Trust.copyFrom -/
theorem c_X4_copyFrom (l : Launch) (G : EG) (t0 : Nat) (l0 : Nat) (t1 : Nat) (l1 : Nat) (V : Nat → Nat) (V1 : Nat → Nat) (sz : Nat) : WR l yX4_copyFrom wsX4_copyFrom (rmR 0 0) G sz [(t0, .inr (3, [.ref l0])), (l0, aI G 23 V), (t1, .inr (3, [.ref l1])), (l1, aI G 23 V1)] [.ref t0, .ref t1] [(t0, .inr (3, [.ref l0])), (l0, aI G 23 V1), (t1, .inr (3, [.ref l1])), (l1, aI G 23 V1)] none := by
  refine WR.start (by decide) rfl (Nat.le_of_ble_eq_true rfl) ?_
  intro p e s m below meth c hx hb hr hml hts hown hlocks hE A hA H locs hP hD hS ls hl
  have hown : s.vm.findClass RX4 = some m.cls := hown
  have hl : lv_has ls 3 [(0, .ref t0), (1, .ref t1)] := hl
  refine lv_iconst (v := nI 0) hx hb dX4_copyFrom_0 (by decide) ?_
  refine lv_istore_n (lv' := [(2, .int (nI 0)), (0, .ref t0), (1, .ref t1)]) hx hb dX4_copyFrom_1 rfl hl (by decide) rfl (fun ls hl => ?_)
  have loop2 : ∀ (fuel : Nat) (k : Nat) (D1 : Nat → Nat), (k ≤ 23) → (D1 = cpyL V V1 k) → 23 - k < fuel → ∀ (H : Heap) (locs : List Loc), va_P G.1 vwCl [(t0, .inr (3, [.ref l0])), (l0, aI G 23 D1), (t1, .inr (3, [.ref l1])), (l1, aI G 23 V1)] H → va_D A [(t0, .inr (3, [.ref l0])), (l0, aI G 23 D1), (t1, .inr (3, [.ref l1])), (l1, aI G 23 V1)] → va_S A s.heap H locs → ∀ ls : Array Slot, lv_has ls 3 [(2, .int (nI k)), (0, .ref t0), (1, .ref t1)] → W p l e (rmR 0 0) s m ([.ref t0, .ref t1] : List Value).toArray below meth c H locs 0 0 (MQ below (postW G [(t0, .inr (3, [.ref l0])), (l0, aI G 23 V1), (t1, .inr (3, [.ref l1])), (l1, aI G 23 V1)] none A) ([.ref t0, .ref t1] : List Value).toArray s 0 0 A) (F0 m 2 ls []) := by
    intro fuel
    induction fuel with
    | zero => intro k D1 h1 q1 hf; exact absurd hf (Nat.not_lt_zero _)
    | succ fuel ih2 =>
      intro k D1 h1 q1 hf H locs hP hD hS ls hl
      refine lv_iload_n hx hb dX4_copyFrom_2 rfl (lv_at hl 0 rfl) ?_
      refine lv_bipush (v := nI 23) hx hb dX4_copyFrom_3 (by decide) ?_
      refine j_icmp_ge (tgt := 26) hx hb dX4_copyFrom_5 (by decide) (fun c5 => ?_) (fun c5 => ?_)
      · skip
        obtain ⟨hP, hD⟩ := PD_arr (F' := V1) hP hD 1 rfl (fun i hi => by rw [q1, show k = 23 by omega]; exact cpyL_eq _ _ _ _ hi)
        exact wr_vret hx hb hr hlocks dX4_copyFrom_26 hP hD hS
      · skip
        refine lv_aload_n hx hb dX4_copyFrom_8 rfl (lv_at hl 1 rfl) ?_
        refine va_get (D := G.1) (ci := 3) (v := .ref l0) (C := RX4) (T := TX4) (N := 1) hx hb hts (fun w h => List.mem_cons_of_mem _ (List.mem_append_right _ h)) hown hE.1 hP 0 rfl rfl 0 (by decide) (hts (.fieldLink RX4 9 "TripleTrap$Trust" "levels" "[I") (List.mem_of_getElem? (i := 1) rfl)) (fun _ h9 => h9) rfl dX4_copyFrom_9 ?_
        refine lv_iload_n hx hb dX4_copyFrom_12 rfl (lv_at hl 0 rfl) ?_
        refine lv_aload_n hx hb dX4_copyFrom_13 rfl (lv_at hl 2 rfl) ?_
        refine va_get (D := G.1) (ci := 3) (v := .ref l1) (C := RX4) (T := TX4) (N := 1) hx hb hts (fun w h => List.mem_cons_of_mem _ (List.mem_append_right _ h)) hown hE.1 hP 2 rfl rfl 0 (by decide) (hts (.fieldLink RX4 9 "TripleTrap$Trust" "levels" "[I") (List.mem_of_getElem? (i := 1) rfl)) (fun _ h9 => h9) rfl dX4_copyFrom_14 ?_
        refine lv_iload_n hx hb dX4_copyFrom_17 rfl (lv_at hl 0 rfl) ?_
        refine j_iald hx hb hE hP 3 rfl dX4_copyFrom_18 ?_
        refine j_iast hx hb hE hP hD hS 1 rfl dX4_copyFrom_19 (fun H locs hP hD hS => ?_)
        have hP : va_P G.1 vwCl [(t0, .inr (3, [.ref l0])), (l0, aI G 23 (va_up D1 k (V1 k))), (t1, .inr (3, [.ref l1])), (l1, aI G 23 V1)] H := hP
        have hD : va_D A [(t0, .inr (3, [.ref l0])), (l0, aI G 23 (va_up D1 k (V1 k))), (t1, .inr (3, [.ref l1])), (l1, aI G 23 V1)] := hD
        obtain ⟨x20, ex20⟩ : ∃ y : Nat, y = k + 1 := ⟨_, rfl⟩
        refine lv_iinc (v := nI x20) (lv' := [(2, .int (nI x20)), (0, .ref t0), (1, .ref t1)]) hx hb dX4_copyFrom_20 hl (k := 0) rfl (by rw [ex20]; exact nI_add _ _) (by decide) rfl (fun ls hl => ?_)
        refine lv_goto (tgt := 2) hx hb dX4_copyFrom_23 (by decide) ?_
        exact ih2 x20 (va_up D1 k (V1 k)) (by omega) (by rw [ex20, cpyL, ← q1]) (by omega) H locs hP hD hS ls (lv_sub hl [0, 1, 2] rfl)
  exact loop2 _ 0 V (by omega) rfl (Nat.lt_succ_self _) H locs hP hD hS ls (lv_sub hl [0, 1, 2] rfl)
set_option maxHeartbeats 4000000 in
set_option maxRecDepth 100000 in
/-- Held.copyFrom -/
theorem c_X1_copyFrom (l : Launch) (G : EG) (h0 : Nat) (m0 : Nat) (n0 : Nat) (f0 : Nat) (s0 : Nat) (b0 : Nat) (t0 : Nat) (l0 : Nat) (h1 : Nat) (m1 : Nat) (n1 : Nat) (f1 : Nat) (s1 : Nat) (b1 : Nat) (t1 : Nat) (l1 : Nat) (F : Nat → Nat) (S : Nat → Nat) (B : Nat → Nat) (V : Nat → Nat) (F1 : Nat → Nat) (S1 : Nat → Nat) (B1 : Nat → Nat) (V1 : Nat → Nat) (sz : Nat) : WR l yX1_copyFrom wsX1_copyFrom (rmR 1 22) G sz [(h0, .inr (0, [.ref m0, .ref t0])), (m0, .inr (2, [.int (nI n0), .ref f0, .ref s0, .ref b0])), (f0, aI G 8 F), (s0, aI G 8 S), (b0, aI G 8 B), (t0, .inr (3, [.ref l0])), (l0, aI G 23 V), (h1, .inr (0, [.ref m1, .ref t1])), (m1, .inr (2, [.int (nI n1), .ref f1, .ref s1, .ref b1])), (f1, aI G 8 F1), (s1, aI G 8 S1), (b1, aI G 8 B1), (t1, .inr (3, [.ref l1])), (l1, aI G 23 V1)] [.ref h0, .ref h1] [(h0, .inr (0, [.ref m0, .ref t0])), (m0, .inr (2, [.int (nI n1), .ref f0, .ref s0, .ref b0])), (f0, aI G 8 F1), (s0, aI G 8 S1), (b0, aI G 8 B1), (t0, .inr (3, [.ref l0])), (l0, aI G 23 V1), (h1, .inr (0, [.ref m1, .ref t1])), (m1, .inr (2, [.int (nI n1), .ref f1, .ref s1, .ref b1])), (f1, aI G 8 F1), (s1, aI G 8 S1), (b1, aI G 8 B1), (t1, .inr (3, [.ref l1])), (l1, aI G 23 V1)] none := by
  refine WR.start (by decide) rfl (Nat.le_of_ble_eq_true rfl) ?_
  intro p e s m below meth c hx hb hr hml hts hown hlocks hE A hA H locs hP hD hS ls hl
  have hown : s.vm.findClass RX1 = some m.cls := hown
  have hl : lv_has ls 2 [(0, .ref h0), (1, .ref h1)] := hl
  refine lv_aload_n hx hb dX1_copyFrom_0 rfl (lv_at hl 0 rfl) ?_
  refine va_get (D := G.1) (ci := 0) (v := .ref m0) (C := RX1) (T := TX1) (N := 2) hx hb hts (fun w h => List.mem_cons_of_mem _ (List.mem_append_left _ (List.mem_append_left _ (List.mem_append_right _ h)))) hown hE.1 hP 0 rfl rfl 0 (by decide) (hts (.fieldLink RX1 10 "TripleTrap$Held" "moves" "LTripleTrap$Moves;") (List.mem_of_getElem? (i := 1) rfl)) (fun _ h9 => h9) rfl dX1_copyFrom_1 ?_
  refine lv_aload_n hx hb dX1_copyFrom_4 rfl (lv_at hl 1 rfl) ?_
  refine va_get (D := G.1) (ci := 0) (v := .ref m1) (C := RX1) (T := TX1) (N := 2) hx hb hts (fun w h => List.mem_cons_of_mem _ (List.mem_append_left _ (List.mem_append_left _ (List.mem_append_right _ h)))) hown hE.1 hP 7 rfl rfl 0 (by decide) (hts (.fieldLink RX1 10 "TripleTrap$Held" "moves" "LTripleTrap$Moves;") (List.mem_of_getElem? (i := 1) rfl)) (fun _ h9 => h9) rfl dX1_copyFrom_5 ?_
  refine wr_VN 2 0 (rest := []) (wr := [(h0, .inr (0, [.ref m0, .ref t0])), (t0, .inr (3, [.ref l0])), (l0, aI G 23 V), (h1, .inr (0, [.ref m1, .ref t1])), (t1, .inr (3, [.ref l1])), (l1, aI G 23 V1)]) (host := "TripleTrap") ⟨hx, hb, hml, hown, hts⟩ (c_X3_copyFrom l G m0 n0 f0 s0 b0 m1 n1 f1 s1 b1 F S B F1 S1 B1 H.size) ⟨va_cnB 1 hts gX1_copyFrom_X3_copyFrom_n23 rfl rfl rfl (hE.nest (w := .methodLinkNest RX1 23 yX3_copyFrom "TripleTrap") 33 rfl) (hts (.initialized RX3) (List.mem_of_getElem? (i := 4) rfl)) (by decide +kernel) ⟨Nat.le_of_ble_eq_true rfl, Nat.le_of_ble_eq_true rfl⟩, hts (.instanceMethod yX3_copyFrom) (List.mem_of_getElem? (i := 3) rfl), hts (.selects RX3 yX3_copyFrom yX3_copyFrom) (List.mem_of_getElem? (i := 5) rfl)⟩ hE hP hD hS hA [1, 2, 3, 4, 8, 9, 10, 11] [0, 5, 6, 7, 12, 13] rfl rfl (by decide) (by decide) (by decide) rfl rfl rfl hl.1 rfl (Nat.le_of_ble_eq_true rfl) dX1_copyFrom_8 ⟨Nat.zero_le _, Nat.zero_le _⟩ (fun H locs hP hD hS => ?_)
  have hP : va_P G.1 vwCl [(h0, .inr (0, [.ref m0, .ref t0])), (m0, .inr (2, [.int (nI n1), .ref f0, .ref s0, .ref b0])), (f0, aI G 8 F1), (s0, aI G 8 S1), (b0, aI G 8 B1), (t0, .inr (3, [.ref l0])), (l0, aI G 23 V), (h1, .inr (0, [.ref m1, .ref t1])), (m1, .inr (2, [.int (nI n1), .ref f1, .ref s1, .ref b1])), (f1, aI G 8 F1), (s1, aI G 8 S1), (b1, aI G 8 B1), (t1, .inr (3, [.ref l1])), (l1, aI G 23 V1)] H := hP.sub [0, 6, 7, 8, 9, 1, 2, 3, 10, 11, 12, 13, 4, 5] rfl
  have hD : va_D A [(h0, .inr (0, [.ref m0, .ref t0])), (m0, .inr (2, [.int (nI n1), .ref f0, .ref s0, .ref b0])), (f0, aI G 8 F1), (s0, aI G 8 S1), (b0, aI G 8 B1), (t0, .inr (3, [.ref l0])), (l0, aI G 23 V), (h1, .inr (0, [.ref m1, .ref t1])), (m1, .inr (2, [.int (nI n1), .ref f1, .ref s1, .ref b1])), (f1, aI G 8 F1), (s1, aI G 8 S1), (b1, aI G 8 B1), (t1, .inr (3, [.ref l1])), (l1, aI G 23 V1)] := hD.sub [0, 6, 7, 8, 9, 1, 2, 3, 10, 11, 12, 13, 4, 5] (by decide) rfl
  refine lv_aload_n hx hb dX1_copyFrom_11 rfl (lv_at hl 0 rfl) ?_
  refine va_get (D := G.1) (ci := 0) (v := .ref t0) (C := RX1) (T := TX1) (N := 2) hx hb hts (fun w h => List.mem_cons_of_mem _ (List.mem_append_left _ (List.mem_append_left _ (List.mem_append_right _ h)))) hown hE.1 hP 0 rfl rfl 1 (by decide) (hts (.fieldLink RX1 19 "TripleTrap$Held" "trust" "LTripleTrap$Trust;") (List.mem_of_getElem? (i := 2) rfl)) (fun _ h9 => h9) rfl dX1_copyFrom_12 ?_
  refine lv_aload_n hx hb dX1_copyFrom_15 rfl (lv_at hl 1 rfl) ?_
  refine va_get (D := G.1) (ci := 0) (v := .ref t1) (C := RX1) (T := TX1) (N := 2) hx hb hts (fun w h => List.mem_cons_of_mem _ (List.mem_append_left _ (List.mem_append_left _ (List.mem_append_right _ h)))) hown hE.1 hP 7 rfl rfl 1 (by decide) (hts (.fieldLink RX1 19 "TripleTrap$Held" "trust" "LTripleTrap$Trust;") (List.mem_of_getElem? (i := 2) rfl)) (fun _ h9 => h9) rfl dX1_copyFrom_16 ?_
  refine wr_VN 3 0 (rest := []) (wr := [(h0, .inr (0, [.ref m0, .ref t0])), (m0, .inr (2, [.int (nI n1), .ref f0, .ref s0, .ref b0])), (f0, aI G 8 F1), (s0, aI G 8 S1), (b0, aI G 8 B1), (h1, .inr (0, [.ref m1, .ref t1])), (m1, .inr (2, [.int (nI n1), .ref f1, .ref s1, .ref b1])), (f1, aI G 8 F1), (s1, aI G 8 S1), (b1, aI G 8 B1)]) (host := "TripleTrap") ⟨hx, hb, hml, hown, hts⟩ (c_X4_copyFrom l G t0 l0 t1 l1 V V1 H.size) ⟨va_cnB 1 hts gX1_copyFrom_X4_copyFrom_n27 rfl rfl rfl (hE.nest (w := .methodLinkNest RX1 27 yX4_copyFrom "TripleTrap") 34 rfl) (hts (.initialized RX4) (List.mem_of_getElem? (i := 12) rfl)) (by decide +kernel) ⟨Nat.le_of_ble_eq_true rfl, Nat.le_of_ble_eq_true rfl⟩, hts (.instanceMethod yX4_copyFrom) (List.mem_of_getElem? (i := 11) rfl), hts (.selects RX4 yX4_copyFrom yX4_copyFrom) (List.mem_of_getElem? (i := 13) rfl)⟩ hE hP hD hS hA [5, 6, 12, 13] [0, 1, 2, 3, 4, 7, 8, 9, 10, 11] rfl rfl (by decide) (by decide) (by decide) rfl rfl rfl hl.1 rfl (Nat.le_of_ble_eq_true rfl) dX1_copyFrom_19 ⟨Nat.zero_le _, Nat.zero_le _⟩ (fun H locs hP hD hS => ?_)
  have hP : va_P G.1 vwCl [(h0, .inr (0, [.ref m0, .ref t0])), (m0, .inr (2, [.int (nI n1), .ref f0, .ref s0, .ref b0])), (f0, aI G 8 F1), (s0, aI G 8 S1), (b0, aI G 8 B1), (t0, .inr (3, [.ref l0])), (l0, aI G 23 V1), (h1, .inr (0, [.ref m1, .ref t1])), (m1, .inr (2, [.int (nI n1), .ref f1, .ref s1, .ref b1])), (f1, aI G 8 F1), (s1, aI G 8 S1), (b1, aI G 8 B1), (t1, .inr (3, [.ref l1])), (l1, aI G 23 V1)] H := hP.sub [0, 1, 2, 3, 4, 10, 11, 5, 6, 7, 8, 9, 12, 13] rfl
  have hD : va_D A [(h0, .inr (0, [.ref m0, .ref t0])), (m0, .inr (2, [.int (nI n1), .ref f0, .ref s0, .ref b0])), (f0, aI G 8 F1), (s0, aI G 8 S1), (b0, aI G 8 B1), (t0, .inr (3, [.ref l0])), (l0, aI G 23 V1), (h1, .inr (0, [.ref m1, .ref t1])), (m1, .inr (2, [.int (nI n1), .ref f1, .ref s1, .ref b1])), (f1, aI G 8 F1), (s1, aI G 8 S1), (b1, aI G 8 B1), (t1, .inr (3, [.ref l1])), (l1, aI G 23 V1)] := hD.sub [0, 1, 2, 3, 4, 10, 11, 5, 6, 7, 8, 9, 12, 13] (by decide) rfl
  exact wr_vret hx hb hr hlocks dX1_copyFrom_22 hP hD hS
set_option maxHeartbeats 4000000 in
set_option maxRecDepth 100000 in
/-- Moves.append -/
theorem c_X3_append (l : Launch) (G : EG) (m0 : Nat) (n0 : Nat) (f0 : Nat) (s0 : Nat) (b0 : Nat) (F : Nat → Nat) (S : Nat → Nat) (B : Nat → Nat) (a : Nat) (d : Nat) (hn : n0 < 8) (ha : a < 23) (hd : d < 23) (sz : Nat) : WR l yX3_append wsX3_append (rmR 2 46) G sz [(m0, .inr (2, [.int (nI n0), .ref f0, .ref s0, .ref b0])), (f0, aI G 8 F), (s0, aI G 8 S), (b0, aI G 8 B)] [.ref m0, .int (nI a), .int (nI d)] [(m0, .inr (2, [.int (nI (n0 + 1)), .ref f0, .ref s0, .ref b0])), (f0, aI G 8 (va_up F n0 a)), (s0, aI G 8 (va_up S n0 d)), (b0, aI G 8 (va_up B n0 (bakN 2047 a d)))] none := by
  refine WR.start (by decide) rfl (Nat.le_of_ble_eq_true rfl) ?_
  intro p e s m below meth c hx hb hr hml hts hown hlocks hE A hA H locs hP hD hS ls hl
  have hown : s.vm.findClass RX3 = some m.cls := hown
  have hl : lv_has ls 3 [(0, .ref m0), (1, .int (nI a)), (2, .int (nI d))] := hl
  refine lv_aload_n hx hb dX3_append_0 rfl (lv_at hl 0 rfl) ?_
  refine va_get (D := G.1) (ci := 2) (v := .int (nI n0)) (C := RX3) (T := TX3) (N := 4) hx hb hts (fun w h => List.mem_cons_of_mem _ (List.mem_append_right _ h)) hown hE.1 hP 0 rfl rfl 0 (by decide) (hts (.fieldLink RX3 9 "TripleTrap$Moves" "size" "I") (List.mem_of_getElem? (i := 1) rfl)) (fun _ h9 => h9) rfl dX3_append_1 ?_
  refine lv_bipush (v := nI 8) hx hb dX3_append_4 (by decide) ?_
  refine j_icmp_lt (tgt := 10) hx hb dX3_append_6 (by decide) (fun c6 => ?_) (fun c6 => ?_)
  · skip
    refine lv_aload_n hx hb dX3_append_10 rfl (lv_at hl 0 rfl) ?_
    refine va_get (D := G.1) (ci := 2) (v := .ref f0) (C := RX3) (T := TX3) (N := 4) hx hb hts (fun w h => List.mem_cons_of_mem _ (List.mem_append_right _ h)) hown hE.1 hP 0 rfl rfl 1 (by decide) (hts (.fieldLink RX3 15 "TripleTrap$Moves" "factors" "[I") (List.mem_of_getElem? (i := 2) rfl)) (fun _ h9 => h9) rfl dX3_append_11 ?_
    refine lv_aload_n hx hb dX3_append_14 rfl (lv_at hl 0 rfl) ?_
    refine va_get (D := G.1) (ci := 2) (v := .int (nI n0)) (C := RX3) (T := TX3) (N := 4) hx hb hts (fun w h => List.mem_cons_of_mem _ (List.mem_append_right _ h)) hown hE.1 hP 0 rfl rfl 0 (by decide) (hts (.fieldLink RX3 9 "TripleTrap$Moves" "size" "I") (List.mem_of_getElem? (i := 1) rfl)) (fun _ h9 => h9) rfl dX3_append_15 ?_
    refine lv_iload_n hx hb dX3_append_18 rfl (lv_at hl 1 rfl) ?_
    refine j_iast hx hb hE hP hD hS 1 rfl dX3_append_19 (fun H locs hP hD hS => ?_)
    have hP : va_P G.1 vwCl [(m0, .inr (2, [.int (nI n0), .ref f0, .ref s0, .ref b0])), (f0, aI G 8 (va_up F n0 a)), (s0, aI G 8 S), (b0, aI G 8 B)] H := hP
    have hD : va_D A [(m0, .inr (2, [.int (nI n0), .ref f0, .ref s0, .ref b0])), (f0, aI G 8 (va_up F n0 a)), (s0, aI G 8 S), (b0, aI G 8 B)] := hD
    refine lv_aload_n hx hb dX3_append_20 rfl (lv_at hl 0 rfl) ?_
    refine va_get (D := G.1) (ci := 2) (v := .ref s0) (C := RX3) (T := TX3) (N := 4) hx hb hts (fun w h => List.mem_cons_of_mem _ (List.mem_append_right _ h)) hown hE.1 hP 0 rfl rfl 2 (by decide) (hts (.fieldLink RX3 19 "TripleTrap$Moves" "shifts" "[I") (List.mem_of_getElem? (i := 3) rfl)) (fun _ h9 => h9) rfl dX3_append_21 ?_
    refine lv_aload_n hx hb dX3_append_24 rfl (lv_at hl 0 rfl) ?_
    refine va_get (D := G.1) (ci := 2) (v := .int (nI n0)) (C := RX3) (T := TX3) (N := 4) hx hb hts (fun w h => List.mem_cons_of_mem _ (List.mem_append_right _ h)) hown hE.1 hP 0 rfl rfl 0 (by decide) (hts (.fieldLink RX3 9 "TripleTrap$Moves" "size" "I") (List.mem_of_getElem? (i := 1) rfl)) (fun _ h9 => h9) rfl dX3_append_25 ?_
    refine lv_iload_n hx hb dX3_append_28 rfl (lv_at hl 2 rfl) ?_
    refine j_iast hx hb hE hP hD hS 2 rfl dX3_append_29 (fun H locs hP hD hS => ?_)
    have hP : va_P G.1 vwCl [(m0, .inr (2, [.int (nI n0), .ref f0, .ref s0, .ref b0])), (f0, aI G 8 (va_up F n0 a)), (s0, aI G 8 (va_up S n0 d)), (b0, aI G 8 B)] H := hP
    have hD : va_D A [(m0, .inr (2, [.int (nI n0), .ref f0, .ref s0, .ref b0])), (f0, aI G 8 (va_up F n0 a)), (s0, aI G 8 (va_up S n0 d)), (b0, aI G 8 B)] := hD
    refine lv_aload_n hx hb dX3_append_30 rfl (lv_at hl 0 rfl) ?_
    refine va_get (D := G.1) (ci := 2) (v := .ref b0) (C := RX3) (T := TX3) (N := 4) hx hb hts (fun w h => List.mem_cons_of_mem _ (List.mem_append_right _ h)) hown hE.1 hP 0 rfl rfl 3 (by decide) (hts (.fieldLink RX3 22 "TripleTrap$Moves" "brought" "[I") (List.mem_of_getElem? (i := 4) rfl)) (fun _ h9 => h9) rfl dX3_append_31 ?_
    refine lv_aload_n hx hb dX3_append_34 rfl (lv_at hl 0 rfl) ?_
    refine va_get (D := G.1) (ci := 2) (v := .int (nI n0)) (C := RX3) (T := TX3) (N := 4) hx hb hts (fun w h => List.mem_cons_of_mem _ (List.mem_append_right _ h)) hown hE.1 hP 0 rfl rfl 0 (by decide) (hts (.fieldLink RX3 9 "TripleTrap$Moves" "size" "I") (List.mem_of_getElem? (i := 1) rfl)) (fun _ h9 => h9) rfl dX3_append_35 ?_
    refine lv_sipush (v := nI 2047) hx hb dX3_append_38 (by decide) ?_
    refine lv_iload_n hx hb dX3_append_41 rfl (lv_at hl 1 rfl) ?_
    refine lv_iload_n hx hb dX3_append_42 rfl (lv_at hl 2 rfl) ?_
    refine ro_SN (rest := [.int (nI n0), .ref b0]) (host := "TripleTrap") ⟨hx, hb, hml, hown, hts⟩ (c_X0_carryBack l G 2047 a d (by omega) (by omega) (by omega)) ⟨va_cnB 3 hts gX3_append_X0_carryBack_n25 rfl rfl rfl (hE.nest (w := .methodLinkNest RX3 25 yX0_carryBack "TripleTrap") 24 rfl) (hts (.initialized RX0) (List.mem_of_getElem? (i := 6) rfl)) (by decide +kernel) ⟨Nat.le_of_ble_eq_true rfl, Nat.le_of_ble_eq_true rfl⟩, hts (.static yX0_carryBack) (List.mem_of_getElem? (i := 5) rfl), trivial⟩ hE (hP.sub [] rfl) rfl hl.1 rfl (Nat.le_of_ble_eq_true rfl) dX3_append_43 ⟨Nat.zero_le _, Nat.zero_le _⟩ ?_
    refine j_iast hx hb hE hP hD hS 3 rfl dX3_append_46 (fun H locs hP hD hS => ?_)
    have hP : va_P G.1 vwCl [(m0, .inr (2, [.int (nI n0), .ref f0, .ref s0, .ref b0])), (f0, aI G 8 (va_up F n0 a)), (s0, aI G 8 (va_up S n0 d)), (b0, aI G 8 (va_up B n0 (bakN 2047 a d)))] H := hP
    have hD : va_D A [(m0, .inr (2, [.int (nI n0), .ref f0, .ref s0, .ref b0])), (f0, aI G 8 (va_up F n0 a)), (s0, aI G 8 (va_up S n0 d)), (b0, aI G 8 (va_up B n0 (bakN 2047 a d)))] := hD
    refine lv_aload_n hx hb dX3_append_47 rfl (lv_at hl 0 rfl) ?_
    refine lv_dup hx hb dX3_append_48 rfl ?_
    refine va_get (D := G.1) (ci := 2) (v := .int (nI n0)) (C := RX3) (T := TX3) (N := 4) hx hb hts (fun w h => List.mem_cons_of_mem _ (List.mem_append_right _ h)) hown hE.1 hP 0 rfl rfl 0 (by decide) (hts (.fieldLink RX3 9 "TripleTrap$Moves" "size" "I") (List.mem_of_getElem? (i := 1) rfl)) (fun _ h9 => h9) rfl dX3_append_49 ?_
    refine lv_iconst (v := nI 1) hx hb dX3_append_52 (by decide) ?_
    refine j_add hx hb dX3_append_53 ?_
    refine j_top (fun x54 ex54 => ?_)
    refine va_put (D := G.1) (ci := 2) (v := .int (nI x54)) (ty := .int) (C := RX3) (T := TX3) (N := 4) hx hb hts (fun w h => List.mem_cons_of_mem _ (List.mem_append_right _ h)) tyX3 tyX3_ok nmX3 hown hE.1 hP hD hS 0 rfl rfl 0 (by decide) (hts (.fieldLink RX3 9 "TripleTrap$Moves" "size" "I") (List.mem_of_getElem? (i := 1) rfl)) (fun _ h9 => h9) rfl (by decide +kernel) rfl rfl (Nat.le_of_ble_eq_true rfl) dX3_append_54 (fun H locs hP hD hS => ?_)
    have hP : va_P G.1 vwCl [(m0, .inr (2, [.int (nI x54), .ref f0, .ref s0, .ref b0])), (f0, aI G 8 (va_up F n0 a)), (s0, aI G 8 (va_up S n0 d)), (b0, aI G 8 (va_up B n0 (bakN 2047 a d)))] H := hP
    have hD : va_D A [(m0, .inr (2, [.int (nI x54), .ref f0, .ref s0, .ref b0])), (f0, aI G 8 (va_up F n0 a)), (s0, aI G 8 (va_up S n0 d)), (b0, aI G 8 (va_up B n0 (bakN 2047 a d)))] := hD
    rw [ex54] at hP hD
    exact wr_vret hx hb hr hlocks dX3_append_57 hP hD hS
  · skip
    exact absurd c6 (by omega)
set_option maxHeartbeats 4000000 in
set_option maxRecDepth 100000 in
/-- Moves.removeAt -/
theorem c_X3_removeAt (l : Launch) (G : EG) (m0 : Nat) (n0 : Nat) (f0 : Nat) (s0 : Nat) (b0 : Nat) (F : Nat → Nat) (S : Nat → Nat) (B : Nat → Nat) (hn0 : n0 ≤ 8) (d : Nat) (hd : d < n0) (sz : Nat) : WR l yX3_removeAt wsX3_removeAt (rmR 1 21) G sz [(m0, .inr (2, [.int (nI n0), .ref f0, .ref s0, .ref b0])), (f0, aI G 8 F), (s0, aI G 8 S), (b0, aI G 8 B)] [.ref m0, .int (nI d)] [(m0, .inr (2, [.int (nI (n0 - 1)), .ref f0, .ref s0, .ref b0])), (f0, aI G 8 (shL F d (n0 - 1 - d))), (s0, aI G 8 (shL S d (n0 - 1 - d))), (b0, aI G 8 (shL B d (n0 - 1 - d)))] none := by
  refine WR.start (by decide) rfl (Nat.le_of_ble_eq_true rfl) ?_
  intro p e s m below meth c hx hb hr hml hts hown hlocks hE A hA H locs hP hD hS ls hl
  have hown : s.vm.findClass RX3 = some m.cls := hown
  have hl : lv_has ls 3 [(0, .ref m0), (1, .int (nI d))] := hl
  refine lv_iload_n hx hb dX3_removeAt_0 rfl (lv_at hl 1 rfl) ?_
  refine lv_aload_n hx hb dX3_removeAt_1 rfl (lv_at hl 0 rfl) ?_
  refine va_get (D := G.1) (ci := 2) (v := .int (nI n0)) (C := RX3) (T := TX3) (N := 4) hx hb hts (fun w h => List.mem_cons_of_mem _ (List.mem_append_right _ h)) hown hE.1 hP 0 rfl rfl 0 (by decide) (hts (.fieldLink RX3 9 "TripleTrap$Moves" "size" "I") (List.mem_of_getElem? (i := 1) rfl)) (fun _ h9 => h9) rfl dX3_removeAt_2 ?_
  refine ro_SN (rest := []) (host := "TripleTrap") ⟨hx, hb, hml, hown, hts⟩ (c_X5_isBelow l G (nI d) n0) ⟨va_cnB 2 hts gX3_removeAt_X5_isBelow_n31 rfl rfl rfl (hE.nest (w := .methodLinkNest RX3 31 yX5_isBelow "TripleTrap") 26 rfl) (hts (.initialized RX5) (List.mem_of_getElem? (i := 6) rfl)) (by decide +kernel) ⟨Nat.le_of_ble_eq_true rfl, Nat.le_of_ble_eq_true rfl⟩, hts (.static yX5_isBelow) (List.mem_of_getElem? (i := 5) rfl), trivial⟩ hE (hP.sub [] rfl) rfl hl.1 rfl (Nat.le_of_ble_eq_true rfl) dX3_removeAt_5 ⟨Nat.zero_le _, Nat.zero_le _⟩ ?_
  refine j_bool (fun c5 => ?_) (fun c5 => ?_)
  · skip
    refine j_if_ne (tgt := 12) hx hb dX3_removeAt_8 (by decide) (fun _ => ?_) (fun q => absurd q (by decide))
    refine lv_iload_n hx hb dX3_removeAt_12 rfl (lv_at hl 1 rfl) ?_
    refine lv_istore_n (lv' := [(2, .int (nI d)), (0, .ref m0), (1, .int (nI d))]) hx hb dX3_removeAt_13 rfl hl (by decide) rfl (fun ls hl => ?_)
    have loop14 : ∀ (fuel : Nat) (q : Nat) (D1 : Nat → Nat) (D2 : Nat → Nat) (D3 : Nat → Nat), (d ≤ q) → (q < n0) → (D1 = shL F d (q - d)) → (D2 = shL S d (q - d)) → (D3 = shL B d (q - d)) → n0 - q < fuel → ∀ (H : Heap) (locs : List Loc), va_P G.1 vwCl [(m0, .inr (2, [.int (nI n0), .ref f0, .ref s0, .ref b0])), (f0, aI G 8 D1), (s0, aI G 8 D2), (b0, aI G 8 D3)] H → va_D A [(m0, .inr (2, [.int (nI n0), .ref f0, .ref s0, .ref b0])), (f0, aI G 8 D1), (s0, aI G 8 D2), (b0, aI G 8 D3)] → va_S A s.heap H locs → ∀ ls : Array Slot, lv_has ls 3 [(2, .int (nI q)), (0, .ref m0), (1, .int (nI d))] → W p l e (rmR 1 21) s m ([.ref m0, .int (nI d)] : List Value).toArray below meth c H locs 0 0 (MQ below (postW G [(m0, .inr (2, [.int (nI (n0 - 1)), .ref f0, .ref s0, .ref b0])), (f0, aI G 8 (shL F d (n0 - 1 - d))), (s0, aI G 8 (shL S d (n0 - 1 - d))), (b0, aI G 8 (shL B d (n0 - 1 - d)))] none A) ([.ref m0, .int (nI d)] : List Value).toArray s 0 0 A) (F0 m 14 ls []) := by
      intro fuel
      induction fuel with
      | zero => intro q D1 D2 D3 h1 h2 q1 q2 q3 hf; exact absurd hf (Nat.not_lt_zero _)
      | succ fuel ih14 =>
        intro q D1 D2 D3 h1 h2 q1 q2 q3 hf H locs hP hD hS ls hl
        refine lv_iload_n hx hb dX3_removeAt_14 rfl (lv_at hl 0 rfl) ?_
        refine lv_iconst (v := nI 1) hx hb dX3_removeAt_15 (by decide) ?_
        refine j_add hx hb dX3_removeAt_16 ?_
        refine lv_aload_n hx hb dX3_removeAt_17 rfl (lv_at hl 1 rfl) ?_
        refine va_get (D := G.1) (ci := 2) (v := .int (nI n0)) (C := RX3) (T := TX3) (N := 4) hx hb hts (fun w h => List.mem_cons_of_mem _ (List.mem_append_right _ h)) hown hE.1 hP 0 rfl rfl 0 (by decide) (hts (.fieldLink RX3 9 "TripleTrap$Moves" "size" "I") (List.mem_of_getElem? (i := 1) rfl)) (fun _ h9 => h9) rfl dX3_removeAt_18 ?_
        refine j_icmp_ge (tgt := 72) hx hb dX3_removeAt_21 (by decide) (fun c21 => ?_) (fun c21 => ?_)
        · skip
          refine lv_aload_n hx hb dX3_removeAt_72 rfl (lv_at hl 1 rfl) ?_
          refine lv_dup hx hb dX3_removeAt_73 rfl ?_
          refine va_get (D := G.1) (ci := 2) (v := .int (nI n0)) (C := RX3) (T := TX3) (N := 4) hx hb hts (fun w h => List.mem_cons_of_mem _ (List.mem_append_right _ h)) hown hE.1 hP 0 rfl rfl 0 (by decide) (hts (.fieldLink RX3 9 "TripleTrap$Moves" "size" "I") (List.mem_of_getElem? (i := 1) rfl)) (fun _ h9 => h9) rfl dX3_removeAt_74 ?_
          refine lv_iconst (v := nI 1) hx hb dX3_removeAt_77 (by decide) ?_
          refine j_sub hx hb dX3_removeAt_78 ?_
          refine j_top (fun x79 ex79 => ?_)
          refine va_put (D := G.1) (ci := 2) (v := .int (nI x79)) (ty := .int) (C := RX3) (T := TX3) (N := 4) hx hb hts (fun w h => List.mem_cons_of_mem _ (List.mem_append_right _ h)) tyX3 tyX3_ok nmX3 hown hE.1 hP hD hS 0 rfl rfl 0 (by decide) (hts (.fieldLink RX3 9 "TripleTrap$Moves" "size" "I") (List.mem_of_getElem? (i := 1) rfl)) (fun _ h9 => h9) rfl (by decide +kernel) rfl rfl (Nat.le_of_ble_eq_true rfl) dX3_removeAt_79 (fun H locs hP hD hS => ?_)
          have hP : va_P G.1 vwCl [(m0, .inr (2, [.int (nI x79), .ref f0, .ref s0, .ref b0])), (f0, aI G 8 D1), (s0, aI G 8 D2), (b0, aI G 8 D3)] H := hP
          have hD : va_D A [(m0, .inr (2, [.int (nI x79), .ref f0, .ref s0, .ref b0])), (f0, aI G 8 D1), (s0, aI G 8 D2), (b0, aI G 8 D3)] := hD
          rw [ex79, q1, q2, q3, show q - d = n0 - 1 - d by omega] at hP hD
          exact wr_vret hx hb hr hlocks dX3_removeAt_82 hP hD hS
        · skip
          refine lv_aload_n hx hb dX3_removeAt_24 rfl (lv_at hl 1 rfl) ?_
          refine va_get (D := G.1) (ci := 2) (v := .ref f0) (C := RX3) (T := TX3) (N := 4) hx hb hts (fun w h => List.mem_cons_of_mem _ (List.mem_append_right _ h)) hown hE.1 hP 0 rfl rfl 1 (by decide) (hts (.fieldLink RX3 15 "TripleTrap$Moves" "factors" "[I") (List.mem_of_getElem? (i := 2) rfl)) (fun _ h9 => h9) rfl dX3_removeAt_25 ?_
          refine lv_iload_n hx hb dX3_removeAt_28 rfl (lv_at hl 0 rfl) ?_
          refine lv_aload_n hx hb dX3_removeAt_29 rfl (lv_at hl 1 rfl) ?_
          refine va_get (D := G.1) (ci := 2) (v := .ref f0) (C := RX3) (T := TX3) (N := 4) hx hb hts (fun w h => List.mem_cons_of_mem _ (List.mem_append_right _ h)) hown hE.1 hP 0 rfl rfl 1 (by decide) (hts (.fieldLink RX3 15 "TripleTrap$Moves" "factors" "[I") (List.mem_of_getElem? (i := 2) rfl)) (fun _ h9 => h9) rfl dX3_removeAt_30 ?_
          refine lv_iload_n hx hb dX3_removeAt_33 rfl (lv_at hl 0 rfl) ?_
          refine lv_iconst (v := nI 1) hx hb dX3_removeAt_34 (by decide) ?_
          refine j_add hx hb dX3_removeAt_35 ?_
          refine j_iald hx hb hE hP 1 rfl dX3_removeAt_36 ?_
          refine j_iast hx hb hE hP hD hS 1 rfl dX3_removeAt_37 (fun H locs hP hD hS => ?_)
          have hP : va_P G.1 vwCl [(m0, .inr (2, [.int (nI n0), .ref f0, .ref s0, .ref b0])), (f0, aI G 8 (va_up D1 q (D1 (q + 1)))), (s0, aI G 8 D2), (b0, aI G 8 D3)] H := hP
          have hD : va_D A [(m0, .inr (2, [.int (nI n0), .ref f0, .ref s0, .ref b0])), (f0, aI G 8 (va_up D1 q (D1 (q + 1)))), (s0, aI G 8 D2), (b0, aI G 8 D3)] := hD
          refine lv_aload_n hx hb dX3_removeAt_38 rfl (lv_at hl 1 rfl) ?_
          refine va_get (D := G.1) (ci := 2) (v := .ref s0) (C := RX3) (T := TX3) (N := 4) hx hb hts (fun w h => List.mem_cons_of_mem _ (List.mem_append_right _ h)) hown hE.1 hP 0 rfl rfl 2 (by decide) (hts (.fieldLink RX3 19 "TripleTrap$Moves" "shifts" "[I") (List.mem_of_getElem? (i := 3) rfl)) (fun _ h9 => h9) rfl dX3_removeAt_39 ?_
          refine lv_iload_n hx hb dX3_removeAt_42 rfl (lv_at hl 0 rfl) ?_
          refine lv_aload_n hx hb dX3_removeAt_43 rfl (lv_at hl 1 rfl) ?_
          refine va_get (D := G.1) (ci := 2) (v := .ref s0) (C := RX3) (T := TX3) (N := 4) hx hb hts (fun w h => List.mem_cons_of_mem _ (List.mem_append_right _ h)) hown hE.1 hP 0 rfl rfl 2 (by decide) (hts (.fieldLink RX3 19 "TripleTrap$Moves" "shifts" "[I") (List.mem_of_getElem? (i := 3) rfl)) (fun _ h9 => h9) rfl dX3_removeAt_44 ?_
          refine lv_iload_n hx hb dX3_removeAt_47 rfl (lv_at hl 0 rfl) ?_
          refine lv_iconst (v := nI 1) hx hb dX3_removeAt_48 (by decide) ?_
          refine j_add hx hb dX3_removeAt_49 ?_
          refine j_iald hx hb hE hP 2 rfl dX3_removeAt_50 ?_
          refine j_iast hx hb hE hP hD hS 2 rfl dX3_removeAt_51 (fun H locs hP hD hS => ?_)
          have hP : va_P G.1 vwCl [(m0, .inr (2, [.int (nI n0), .ref f0, .ref s0, .ref b0])), (f0, aI G 8 (va_up D1 q (D1 (q + 1)))), (s0, aI G 8 (va_up D2 q (D2 (q + 1)))), (b0, aI G 8 D3)] H := hP
          have hD : va_D A [(m0, .inr (2, [.int (nI n0), .ref f0, .ref s0, .ref b0])), (f0, aI G 8 (va_up D1 q (D1 (q + 1)))), (s0, aI G 8 (va_up D2 q (D2 (q + 1)))), (b0, aI G 8 D3)] := hD
          refine lv_aload_n hx hb dX3_removeAt_52 rfl (lv_at hl 1 rfl) ?_
          refine va_get (D := G.1) (ci := 2) (v := .ref b0) (C := RX3) (T := TX3) (N := 4) hx hb hts (fun w h => List.mem_cons_of_mem _ (List.mem_append_right _ h)) hown hE.1 hP 0 rfl rfl 3 (by decide) (hts (.fieldLink RX3 22 "TripleTrap$Moves" "brought" "[I") (List.mem_of_getElem? (i := 4) rfl)) (fun _ h9 => h9) rfl dX3_removeAt_53 ?_
          refine lv_iload_n hx hb dX3_removeAt_56 rfl (lv_at hl 0 rfl) ?_
          refine lv_aload_n hx hb dX3_removeAt_57 rfl (lv_at hl 1 rfl) ?_
          refine va_get (D := G.1) (ci := 2) (v := .ref b0) (C := RX3) (T := TX3) (N := 4) hx hb hts (fun w h => List.mem_cons_of_mem _ (List.mem_append_right _ h)) hown hE.1 hP 0 rfl rfl 3 (by decide) (hts (.fieldLink RX3 22 "TripleTrap$Moves" "brought" "[I") (List.mem_of_getElem? (i := 4) rfl)) (fun _ h9 => h9) rfl dX3_removeAt_58 ?_
          refine lv_iload_n hx hb dX3_removeAt_61 rfl (lv_at hl 0 rfl) ?_
          refine lv_iconst (v := nI 1) hx hb dX3_removeAt_62 (by decide) ?_
          refine j_add hx hb dX3_removeAt_63 ?_
          refine j_iald hx hb hE hP 3 rfl dX3_removeAt_64 ?_
          refine j_iast hx hb hE hP hD hS 3 rfl dX3_removeAt_65 (fun H locs hP hD hS => ?_)
          have hP : va_P G.1 vwCl [(m0, .inr (2, [.int (nI n0), .ref f0, .ref s0, .ref b0])), (f0, aI G 8 (va_up D1 q (D1 (q + 1)))), (s0, aI G 8 (va_up D2 q (D2 (q + 1)))), (b0, aI G 8 (va_up D3 q (D3 (q + 1))))] H := hP
          have hD : va_D A [(m0, .inr (2, [.int (nI n0), .ref f0, .ref s0, .ref b0])), (f0, aI G 8 (va_up D1 q (D1 (q + 1)))), (s0, aI G 8 (va_up D2 q (D2 (q + 1)))), (b0, aI G 8 (va_up D3 q (D3 (q + 1))))] := hD
          obtain ⟨x66, ex66⟩ : ∃ y : Nat, y = q + 1 := ⟨_, rfl⟩
          refine lv_iinc (v := nI x66) (lv' := [(2, .int (nI x66)), (0, .ref m0), (1, .int (nI d))]) hx hb dX3_removeAt_66 hl (k := 0) rfl (by rw [ex66]; exact nI_add _ _) (by decide) rfl (fun ls hl => ?_)
          refine lv_goto (tgt := 14) hx hb dX3_removeAt_69 (by decide) ?_
          exact ih14 x66 (va_up D1 q (D1 (q + 1))) (va_up D2 q (D2 (q + 1))) (va_up D3 q (D3 (q + 1))) (by omega) (by omega) (by rw [ex66, show q + 1 - d = (q - d) + 1 by omega, shL, ← q1, show d + (q - d) = q by omega]) (by rw [ex66, show q + 1 - d = (q - d) + 1 by omega, shL, ← q2, show d + (q - d) = q by omega]) (by rw [ex66, show q + 1 - d = (q - d) + 1 by omega, shL, ← q3, show d + (q - d) = q by omega]) (by omega) H locs hP hD hS ls (lv_sub hl [0, 1, 2] rfl)
    exact loop14 _ d F S B (by omega) (by omega) (by rw [Nat.sub_self]; rfl) (by rw [Nat.sub_self]; rfl) (by rw [Nat.sub_self]; rfl) (Nat.lt_succ_self _) H locs hP hD hS ls (lv_sub hl [0, 1, 2] rfl)
  · skip
    rw [blw_j hd (by omega)] at c5; exact absurd c5 (by decide)
set_option maxHeartbeats 4000000 in
set_option maxRecDepth 100000 in
/-- Moves.joined -/
theorem c_X3_joined (l : Launch) (G : EG) (m0 : Nat) (n0 : Nat) (f0 : Nat) (s0 : Nat) (b0 : Nat) (B : Nat → Nat) (hn0 : n0 ≤ 8) (hBb : ∀ i, i < n0 → B i < 8388608) (a : Nat) (b : Nat) (d : Nat) (ha : a < 23) (hb0 : b < 23) (hd : d ≤ n0) : RO l yX3_joined wsX3_joined (rmR 0 0) G [(m0, .inr (2, [.int (nI n0), .ref f0, .ref s0, .ref b0])), (b0, aI G 8 B)] [.ref m0, .int (nI a), .int (nI b), .int (nI d)] (.int (nI (jonL B (pr a b) d))) := by
  refine RO.start (by decide) rfl (Nat.le_of_ble_eq_true rfl) ?_
  intro p e s m below meth c hx hb hr hml hts hown hlocks hP hE ls hl
  have hown : s.vm.findClass RX3 = some m.cls := hown
  have hl : lv_has ls 7 [(0, .ref m0), (1, .int (nI a)), (2, .int (nI b)), (3, .int (nI d))] := hl
  refine lv_iconst (v := nI 1) hx hb dX3_joined_0 (by decide) ?_
  refine lv_iload_n hx hb dX3_joined_1 rfl (lv_at hl 1 rfl) ?_
  refine j_shl hx hb dX3_joined_2 ?_
  refine lv_iconst (v := nI 1) hx hb dX3_joined_3 (by decide) ?_
  refine lv_iload_n hx hb dX3_joined_4 rfl (lv_at hl 2 rfl) ?_
  refine j_shl hx hb dX3_joined_5 ?_
  refine j_or hx hb dX3_joined_6 ?_
  refine j_top (fun x7 ex7 => ?_)
  refine lv_istore (lv' := [(4, .int (nI x7)), (0, .ref m0), (1, .int (nI a)), (2, .int (nI b)), (3, .int (nI d))]) hx hb dX3_joined_7 hl (by decide) rfl (fun ls hl => ?_)
  refine lv_iconst (v := nI 0) hx hb dX3_joined_9 (by decide) ?_
  refine lv_istore (lv' := [(5, .int (nI 0)), (4, .int (nI x7)), (0, .ref m0), (1, .int (nI a)), (2, .int (nI b)), (3, .int (nI d))]) hx hb dX3_joined_10 hl (by decide) rfl (fun ls hl => ?_)
  refine lv_iconst (v := nI 0) hx hb dX3_joined_12 (by decide) ?_
  refine lv_istore (lv' := [(6, .int (nI 0)), (5, .int (nI 0)), (4, .int (nI x7)), (0, .ref m0), (1, .int (nI a)), (2, .int (nI b)), (3, .int (nI d))]) hx hb dX3_joined_13 hl (by decide) rfl (fun ls hl => ?_)
  have loop15 : ∀ (fuel : Nat) (v : Nat) (k : Nat), (k ≤ d) → (v = jonL B (pr a b) k) → d - k < fuel → ∀ ls : Array Slot, lv_has ls 7 [(6, .int (nI k)), (5, .int (nI v)), (4, .int (nI x7)), (0, .ref m0), (1, .int (nI a)), (2, .int (nI b)), (3, .int (nI d))] → W p l e (rmR 0 0) s m ([.ref m0, .int (nI a), .int (nI b), .int (nI d)] : List Value).toArray below meth c s.heap [] 0 0 (MQ below (k2_QcV (.int (nI (jonL B (pr a b) d)))) ([.ref m0, .int (nI a), .int (nI b), .int (nI d)] : List Value).toArray s 0 0 (fun _ => False)) (F0 m 15 ls []) := by
    intro fuel
    induction fuel with
    | zero => intro v k h1 h2 hf; exact absurd hf (Nat.not_lt_zero _)
    | succ fuel ih15 =>
      intro v k h1 h2 hf ls hl
      have hpr : x7 = pr a b := ex7
      refine lv_iload hx hb dX3_joined_15 (lv_at hl 0 rfl) ?_
      refine lv_iload_n hx hb dX3_joined_17 rfl (lv_at hl 6 rfl) ?_
      refine j_icmp_ge (tgt := 63) hx hb dX3_joined_18 (by decide) (fun c18 => ?_) (fun c18 => ?_)
      · skip
        refine lv_iload hx hb dX3_joined_63 (lv_at hl 1 rfl) ?_
        exact ro_ret hx hb hr hlocks dX3_joined_65 (by rw [h2, show k = d by omega])
      · skip
        refine lv_iload hx hb dX3_joined_21 (lv_at hl 0 rfl) ?_
        refine lv_aload_n hx hb dX3_joined_23 rfl (lv_at hl 3 rfl) ?_
        refine va_get (D := G.1) (ci := 2) (v := .int (nI n0)) (C := RX3) (T := TX3) (N := 4) hx hb hts (fun w h => List.mem_cons_of_mem _ (List.mem_append_right _ h)) hown hE.1 hP 0 rfl rfl 0 (by decide) (hts (.fieldLink RX3 9 "TripleTrap$Moves" "size" "I") (List.mem_of_getElem? (i := 1) rfl)) (fun _ h9 => h9) rfl dX3_joined_24 ?_
        refine j_icmp_ge (tgt := 63) hx hb dX3_joined_27 (by decide) (fun c27 => ?_) (fun c27 => ?_)
        · skip
          exact absurd c27 (by omega)
        · skip
          refine lv_aload_n hx hb dX3_joined_30 rfl (lv_at hl 3 rfl) ?_
          refine va_get (D := G.1) (ci := 2) (v := .ref b0) (C := RX3) (T := TX3) (N := 4) hx hb hts (fun w h => List.mem_cons_of_mem _ (List.mem_append_right _ h)) hown hE.1 hP 0 rfl rfl 3 (by decide) (hts (.fieldLink RX3 22 "TripleTrap$Moves" "brought" "[I") (List.mem_of_getElem? (i := 2) rfl)) (fun _ h9 => h9) rfl dX3_joined_31 ?_
          refine lv_iload hx hb dX3_joined_34 (lv_at hl 0 rfl) ?_
          refine j_iald hx hb hE hP 1 rfl dX3_joined_36 ?_
          refine lv_iload hx hb dX3_joined_37 (lv_at hl 2 rfl) ?_
          refine j_and hx hb dX3_joined_39 ?_
          refine lv_iload hx hb dX3_joined_40 (lv_at hl 2 rfl) ?_
          refine j_icmp_ne (tgt := 57) hx hb dX3_joined_42 (by decide) (fun c42 => ?_) (fun c42 => ?_) (h1 := Nat.lt_of_le_of_lt Nat.and_le_right (by rw [hpr]; exact Nat.lt_trans (pr_lt ha hb0) (by decide))) (h2 := by rw [hpr]; exact Nat.lt_trans (pr_lt ha hb0) (by decide))
          · skip
            obtain ⟨x57, ex57⟩ : ∃ y : Nat, y = k + 1 := ⟨_, rfl⟩
            refine lv_iinc (v := nI x57) (lv' := [(6, .int (nI x57)), (5, .int (nI v)), (4, .int (nI x7)), (0, .ref m0), (1, .int (nI a)), (2, .int (nI b)), (3, .int (nI d))]) hx hb dX3_joined_57 hl (k := 0) rfl (by rw [ex57]; exact nI_add _ _) (by decide) rfl (fun ls hl => ?_)
            refine lv_goto (tgt := 15) hx hb dX3_joined_60 (by decide) ?_
            exact ih15 v x57 (by omega) (by rw [ex57, jonL, if_neg (by rw [← hpr]; exact c42)]; exact h2) (by omega) ls (lv_sub hl [0, 1, 2, 3, 4, 5, 6] rfl)
          · skip
            refine lv_iload hx hb dX3_joined_45 (lv_at hl 1 rfl) ?_
            refine lv_aload_n hx hb dX3_joined_47 rfl (lv_at hl 3 rfl) ?_
            refine va_get (D := G.1) (ci := 2) (v := .ref b0) (C := RX3) (T := TX3) (N := 4) hx hb hts (fun w h => List.mem_cons_of_mem _ (List.mem_append_right _ h)) hown hE.1 hP 0 rfl rfl 3 (by decide) (hts (.fieldLink RX3 22 "TripleTrap$Moves" "brought" "[I") (List.mem_of_getElem? (i := 2) rfl)) (fun _ h9 => h9) rfl dX3_joined_48 ?_
            refine lv_iload hx hb dX3_joined_51 (lv_at hl 0 rfl) ?_
            refine j_iald hx hb hE hP 1 rfl dX3_joined_53 ?_
            refine j_or hx hb dX3_joined_54 ?_
            refine j_top (fun x55 ex55 => ?_)
            refine lv_istore (lv' := [(5, .int (nI x55)), (6, .int (nI k)), (4, .int (nI x7)), (0, .ref m0), (1, .int (nI a)), (2, .int (nI b)), (3, .int (nI d))]) hx hb dX3_joined_55 hl (by decide) rfl (fun ls hl => ?_)
            obtain ⟨x57, ex57⟩ : ∃ y : Nat, y = k + 1 := ⟨_, rfl⟩
            refine lv_iinc (v := nI x57) (lv' := [(6, .int (nI x57)), (5, .int (nI x55)), (4, .int (nI x7)), (0, .ref m0), (1, .int (nI a)), (2, .int (nI b)), (3, .int (nI d))]) hx hb dX3_joined_57 hl (k := 1) rfl (by rw [ex57]; exact nI_add _ _) (by decide) rfl (fun ls hl => ?_)
            refine lv_goto (tgt := 15) hx hb dX3_joined_60 (by decide) ?_
            exact ih15 x55 x57 (by omega) (by rw [ex55, ex57, jonL, if_pos (by rw [← hpr]; exact c42), ← h2]) (by omega) ls (lv_sub hl [0, 1, 2, 3, 4, 5, 6] rfl)
  exact loop15 _ 0 0 (by omega) rfl (Nat.lt_succ_self _) ls (lv_sub hl [0, 1, 2, 3, 4, 5, 6] rfl)
set_option maxHeartbeats 4000000 in
set_option maxRecDepth 100000 in
/-- Moves.coveredByFirst -/
theorem c_X3_coveredByFirst (l : Launch) (G : EG) (m0 : Nat) (n0 : Nat) (f0 : Nat) (s0 : Nat) (b0 : Nat) (B : Nat → Nat) (hn0 : n0 ≤ 8) (hBb : ∀ i, i < n0 → B i < 8388608) (d : Nat) (hd : d ≤ n0) : RO l yX3_coveredByFirst wsX3_coveredByFirst (rmR 1 26) G [(m0, .inr (2, [.int (nI n0), .ref f0, .ref s0, .ref b0])), (b0, aI G 8 B)] [.ref m0, .int (nI d)] (.int (nI (cbP B d 23 0))) := by
  refine RO.start (by decide) rfl (Nat.le_of_ble_eq_true rfl) ?_
  intro p e s m below meth c hx hb hr hml hts hown hlocks hP hE ls hl
  have hown : s.vm.findClass RX3 = some m.cls := hown
  have hl : lv_has ls 5 [(0, .ref m0), (1, .int (nI d))] := hl
  refine lv_iconst (v := nI 0) hx hb dX3_coveredByFirst_0 (by decide) ?_
  refine lv_istore_n (lv' := [(2, .int (nI 0)), (0, .ref m0), (1, .int (nI d))]) hx hb dX3_coveredByFirst_1 rfl hl (by decide) rfl (fun ls hl => ?_)
  refine lv_iconst (v := nI 0) hx hb dX3_coveredByFirst_2 (by decide) ?_
  refine lv_istore_n (lv' := [(3, .int (nI 0)), (2, .int (nI 0)), (0, .ref m0), (1, .int (nI d))]) hx hb dX3_coveredByFirst_3 rfl hl (by decide) rfl (fun ls hl => ?_)
  have loop4 : ∀ (fuel : Nat) (t : Nat) (a : Nat), (a ≤ 23) → (cbP B d (23 - a) t = cbP B d 23 0) → 23 - a < fuel → ∀ ls : Array Slot, lv_has ls 5 [(3, .int (nI a)), (2, .int (nI t)), (0, .ref m0), (1, .int (nI d))] → W p l e (rmR 1 26) s m ([.ref m0, .int (nI d)] : List Value).toArray below meth c s.heap [] 0 0 (MQ below (k2_QcV (.int (nI (cbP B d 23 0)))) ([.ref m0, .int (nI d)] : List Value).toArray s 0 0 (fun _ => False)) (F0 m 4 ls []) := by
    intro fuel
    induction fuel with
    | zero => intro t a h1 h2 hf; exact absurd hf (Nat.not_lt_zero _)
    | succ fuel ih4 =>
      intro t a h1 h2 hf ls hl
      refine lv_iload_n hx hb dX3_coveredByFirst_4 rfl (lv_at hl 0 rfl) ?_
      refine lv_bipush (v := nI 23) hx hb dX3_coveredByFirst_5 (by decide) ?_
      refine j_icmp_ge (tgt := 53) hx hb dX3_coveredByFirst_7 (by decide) (fun c7 => ?_) (fun c7 => ?_)
      · skip
        refine lv_iload_n hx hb dX3_coveredByFirst_53 rfl (lv_at hl 1 rfl) ?_
        exact ro_ret hx hb hr hlocks dX3_coveredByFirst_54 (by rw [← h2, show 23 - a = 0 by omega, cbP])
      · skip
        refine lv_iload_n hx hb dX3_coveredByFirst_10 rfl (lv_at hl 0 rfl) ?_
        refine lv_iconst (v := nI 1) hx hb dX3_coveredByFirst_11 (by decide) ?_
        refine j_add hx hb dX3_coveredByFirst_12 ?_
        refine j_top (fun x13 ex13 => ?_)
        refine lv_istore (lv' := [(4, .int (nI x13)), (3, .int (nI a)), (2, .int (nI t)), (0, .ref m0), (1, .int (nI d))]) hx hb dX3_coveredByFirst_13 hl (by decide) rfl (fun ls hl => ?_)
        have loop15 : ∀ (fuel : Nat) (t1 : Nat) (b : Nat), (b ≤ 23) → (cbP B d (22 - a) (cbQ B d a (23 - b) t1) = cbP B d 23 0) → 23 - b < fuel → ∀ ls : Array Slot, lv_has ls 5 [(4, .int (nI b)), (3, .int (nI a)), (2, .int (nI t1)), (0, .ref m0), (1, .int (nI d))] → W p l e (rmR 1 26) s m ([.ref m0, .int (nI d)] : List Value).toArray below meth c s.heap [] 0 0 (MQ below (k2_QcV (.int (nI (cbP B d 23 0)))) ([.ref m0, .int (nI d)] : List Value).toArray s 0 0 (fun _ => False)) (F0 m 15 ls []) := by
          intro fuel
          induction fuel with
          | zero => intro t1 b g1 g2 hf; exact absurd hf (Nat.not_lt_zero _)
          | succ fuel ih15 =>
            intro t1 b g1 g2 hf ls hl
            refine lv_iload hx hb dX3_coveredByFirst_15 (lv_at hl 0 rfl) ?_
            refine lv_bipush (v := nI 23) hx hb dX3_coveredByFirst_17 (by decide) ?_
            refine j_icmp_ge (tgt := 47) hx hb dX3_coveredByFirst_19 (by decide) (fun c19 => ?_) (fun c19 => ?_)
            · skip
              obtain ⟨x47, ex47⟩ : ∃ y : Nat, y = a + 1 := ⟨_, rfl⟩
              refine lv_iinc (v := nI x47) (lv' := [(3, .int (nI x47)), (4, .int (nI b)), (2, .int (nI t1)), (0, .ref m0), (1, .int (nI d))]) hx hb dX3_coveredByFirst_47 hl (k := 1) rfl (by rw [ex47]; exact nI_add _ _) (by decide) rfl (fun ls hl => ?_)
              refine lv_goto (tgt := 4) hx hb dX3_coveredByFirst_50 (by decide) ?_
              exact ih4 t1 x47 (by omega) (by rw [← g2, show 23 - b = 0 by omega, cbQ, show 23 - x47 = 22 - a by omega]) (by omega) ls (lv_sub hl [0, 2, 3, 4] rfl)
            · skip
              refine lv_iload_n hx hb dX3_coveredByFirst_22 rfl (lv_at hl 2 rfl) ?_
              refine lv_aload_n hx hb dX3_coveredByFirst_23 rfl (lv_at hl 3 rfl) ?_
              refine lv_iload_n hx hb dX3_coveredByFirst_24 rfl (lv_at hl 1 rfl) ?_
              refine lv_iload hx hb dX3_coveredByFirst_25 (lv_at hl 0 rfl) ?_
              refine lv_iload_n hx hb dX3_coveredByFirst_27 rfl (lv_at hl 4 rfl) ?_
              refine ro_V 2 0 (rest := [.int (nI t1)]) ⟨hx, hb, hml, hown, hts⟩ (c_X3_joined l G m0 n0 f0 s0 b0 B hn0 hBb a b d (by omega) (by omega) (by omega)) (cwV 3 hts gX3_coveredByFirst_X3_joined rfl rfl rfl (by decide +kernel) ⟨Nat.le_of_ble_eq_true rfl, Nat.le_of_ble_eq_true rfl⟩) hE (hP.sub [0, 1] rfl) rfl rfl rfl hl.1 rfl (Nat.le_of_ble_eq_true rfl) dX3_coveredByFirst_28 ⟨Nat.zero_le _, Nat.zero_le _⟩ ?_
              refine lv_iload hx hb dX3_coveredByFirst_31 (lv_at hl 0 rfl) ?_
              refine lv_iconst (v := nI 1) hx hb dX3_coveredByFirst_33 (by decide) ?_
              refine j_add hx hb dX3_coveredByFirst_34 ?_
              refine j_ushr hx hb dX3_coveredByFirst_35 ?_ (ha := Nat.lt_trans (jonL_lt hBb _ hd) (by decide)) (h := by omega)
              refine ro_S (rest := [.int (nI t1)]) ⟨hx, hb, hml, hown, hts⟩ (c_J6_bitCount_0f7a4 l G ((jonL B (pr a b) d) >>> (b + 1)) (bd_shr (Nat.lt_trans (jonL_lt hBb _ hd) (by decide)))) (va_cwS 1 hts gX3_coveredByFirst_J6_bitCount_0f7a4 rfl rfl rfl (by decide +kernel) ⟨Nat.le_of_ble_eq_true rfl, Nat.le_of_ble_eq_true rfl⟩) hE (hP.sub [] rfl) rfl hl.1 rfl (Nat.le_of_ble_eq_true rfl) dX3_coveredByFirst_36 ⟨Nat.zero_le _, Nat.zero_le _⟩ ?_
              refine j_add hx hb dX3_coveredByFirst_39 ?_
              refine j_top (fun x40 ex40 => ?_)
              refine lv_istore_n (lv' := [(2, .int (nI x40)), (4, .int (nI b)), (3, .int (nI a)), (0, .ref m0), (1, .int (nI d))]) hx hb dX3_coveredByFirst_40 rfl hl (by decide) rfl (fun ls hl => ?_)
              obtain ⟨x41, ex41⟩ : ∃ y : Nat, y = b + 1 := ⟨_, rfl⟩
              refine lv_iinc (v := nI x41) (lv' := [(4, .int (nI x41)), (2, .int (nI x40)), (3, .int (nI a)), (0, .ref m0), (1, .int (nI d))]) hx hb dX3_coveredByFirst_41 hl (k := 1) rfl (by rw [ex41]; exact nI_add _ _) (by decide) rfl (fun ls hl => ?_)
              refine lv_goto (tgt := 15) hx hb dX3_coveredByFirst_44 (by decide) ?_
              exact ih15 x40 x41 (by omega) (by rw [← g2, show 23 - b = (23 - x41) + 1 by omega, cbQ, show 22 - (23 - x41) = b by omega, ex40]) (by omega) ls (lv_sub hl [0, 2, 1, 3, 4] rfl)
        exact loop15 _ t x13 (by omega) (by rw [← h2, show 23 - a = (22 - a) + 1 by omega, cbP, show 22 - (22 - a) = a by omega, show 23 - x13 = 22 - a by omega]) (Nat.lt_succ_self _) ls (lv_sub hl [0, 1, 2, 3, 4] rfl)
  exact loop4 _ 0 0 (by omega) rfl (Nat.lt_succ_self _) ls (lv_sub hl [0, 1, 2, 3] rfl)
set_option maxHeartbeats 4000000 in
set_option maxRecDepth 100000 in
/-- Moves.firstNotCovered -/
theorem c_X3_firstNotCovered (l : Launch) (G : EG) (m0 : Nat) (n0 : Nat) (f0 : Nat) (s0 : Nat) (b0 : Nat) (B : Nat → Nat) (hn0 : n0 ≤ 8) (hBb : ∀ i, i < n0 → B i < 8388608) : RO l yX3_firstNotCovered wsX3_firstNotCovered (rmR 1 26) G [(m0, .inr (2, [.int (nI n0), .ref f0, .ref s0, .ref b0])), (b0, aI G 8 B)] [.ref m0] (.int (fnP B n0 23 (-6))) := by
  refine RO.start (by decide) rfl (Nat.le_of_ble_eq_true rfl) ?_
  intro p e s m below meth c hx hb hr hml hts hown hlocks hP hE ls hl
  have hown : s.vm.findClass RX3 = some m.cls := hown
  have hl : lv_has ls 5 [(0, .ref m0)] := hl
  refine lv_iconst (v := nI 0) hx hb dX3_firstNotCovered_0 (by decide) ?_
  refine lv_istore_n (lv' := [(1, .int (nI 0)), (0, .ref m0)]) hx hb dX3_firstNotCovered_1 rfl hl (by decide) rfl (fun ls hl => ?_)
  have loop2 : ∀ (fuel : Nat) (a : Nat), (a ≤ 23) → (fnP B n0 (23 - a) (-6) = fnP B n0 23 (-6)) → 23 - a < fuel → ∀ ls : Array Slot, lv_has ls 5 [(1, .int (nI a)), (0, .ref m0)] → W p l e (rmR 1 26) s m ([.ref m0] : List Value).toArray below meth c s.heap [] 0 0 (MQ below (k2_QcV (.int (fnP B n0 23 (-6)))) ([.ref m0] : List Value).toArray s 0 0 (fun _ => False)) (F0 m 2 ls []) := by
    intro fuel
    induction fuel with
    | zero => intro a h1 h2 hf; exact absurd hf (Nat.not_lt_zero _)
    | succ fuel ih2 =>
      intro a h1 h2 hf ls hl
      refine lv_iload_n hx hb dX3_firstNotCovered_2 rfl (lv_at hl 0 rfl) ?_
      refine lv_bipush (v := nI 23) hx hb dX3_firstNotCovered_3 (by decide) ?_
      refine j_icmp_ge (tgt := 81) hx hb dX3_firstNotCovered_5 (by decide) (fun c5 => ?_) (fun c5 => ?_)
      · skip
        refine lv_bipush (v := (-6)) hx hb dX3_firstNotCovered_81 (by decide) ?_
        exact ro_ret hx hb hr hlocks dX3_firstNotCovered_83 (by rw [← h2, show 23 - a = 0 by omega, fnP])
      · skip
        refine lv_iload_n hx hb dX3_firstNotCovered_8 rfl (lv_at hl 0 rfl) ?_
        refine lv_iconst (v := nI 1) hx hb dX3_firstNotCovered_9 (by decide) ?_
        refine j_add hx hb dX3_firstNotCovered_10 ?_
        refine j_top (fun x11 ex11 => ?_)
        refine lv_istore_n (lv' := [(2, .int (nI x11)), (1, .int (nI a)), (0, .ref m0)]) hx hb dX3_firstNotCovered_11 rfl hl (by decide) rfl (fun ls hl => ?_)
        have loop12 : ∀ (fuel : Nat) (b : Nat), (b ≤ 23) → (fnQ B n0 a (23 - b) (fnP B n0 (22 - a) (-6)) = fnP B n0 23 (-6)) → 23 - b < fuel → ∀ ls : Array Slot, lv_has ls 5 [(2, .int (nI b)), (1, .int (nI a)), (0, .ref m0)] → W p l e (rmR 1 26) s m ([.ref m0] : List Value).toArray below meth c s.heap [] 0 0 (MQ below (k2_QcV (.int (fnP B n0 23 (-6)))) ([.ref m0] : List Value).toArray s 0 0 (fun _ => False)) (F0 m 12 ls []) := by
          intro fuel
          induction fuel with
          | zero => intro b g1 g2 hf; exact absurd hf (Nat.not_lt_zero _)
          | succ fuel ih12 =>
            intro b g1 g2 hf ls hl
            refine lv_iload_n hx hb dX3_firstNotCovered_12 rfl (lv_at hl 0 rfl) ?_
            refine lv_bipush (v := nI 23) hx hb dX3_firstNotCovered_13 (by decide) ?_
            refine j_icmp_ge (tgt := 75) hx hb dX3_firstNotCovered_15 (by decide) (fun c15 => ?_) (fun c15 => ?_)
            · skip
              obtain ⟨x75, ex75⟩ : ∃ y : Nat, y = a + 1 := ⟨_, rfl⟩
              refine lv_iinc (v := nI x75) (lv' := [(1, .int (nI x75)), (2, .int (nI b)), (0, .ref m0)]) hx hb dX3_firstNotCovered_75 hl (k := 1) rfl (by rw [ex75]; exact nI_add _ _) (by decide) rfl (fun ls hl => ?_)
              refine lv_goto (tgt := 2) hx hb dX3_firstNotCovered_78 (by decide) ?_
              exact ih2 x75 (by omega) (by rw [← g2, show 23 - b = 0 by omega, fnQ, show 23 - x75 = 22 - a by omega]) (by omega) ls (lv_sub hl [0, 2] rfl)
            · skip
              refine lv_aload_n hx hb dX3_firstNotCovered_18 rfl (lv_at hl 2 rfl) ?_
              refine lv_iload_n hx hb dX3_firstNotCovered_19 rfl (lv_at hl 1 rfl) ?_
              refine lv_iload_n hx hb dX3_firstNotCovered_20 rfl (lv_at hl 0 rfl) ?_
              refine lv_aload_n hx hb dX3_firstNotCovered_21 rfl (lv_at hl 2 rfl) ?_
              refine va_get (D := G.1) (ci := 2) (v := .int (nI n0)) (C := RX3) (T := TX3) (N := 4) hx hb hts (fun w h => List.mem_cons_of_mem _ (List.mem_append_right _ h)) hown hE.1 hP 0 rfl rfl 0 (by decide) (hts (.fieldLink RX3 9 "TripleTrap$Moves" "size" "I") (List.mem_of_getElem? (i := 1) rfl)) (fun _ h9 => h9) rfl dX3_firstNotCovered_22 ?_
              refine ro_V 2 0 (rest := []) ⟨hx, hb, hml, hown, hts⟩ (c_X3_joined l G m0 n0 f0 s0 b0 B hn0 hBb a b n0 (by omega) (by omega) (by omega)) (cwV 3 hts gX3_firstNotCovered_X3_joined rfl rfl rfl (by decide +kernel) ⟨Nat.le_of_ble_eq_true rfl, Nat.le_of_ble_eq_true rfl⟩) hE (hP.sub [0, 1] rfl) rfl rfl rfl hl.1 rfl (Nat.le_of_ble_eq_true rfl) dX3_firstNotCovered_25 ⟨Nat.zero_le _, Nat.zero_le _⟩ ?_
              refine j_top (fun x28 ex28 => ?_)
              refine lv_istore_n (lv' := [(3, .int (nI x28)), (2, .int (nI b)), (1, .int (nI a)), (0, .ref m0)]) hx hb dX3_firstNotCovered_28 rfl hl (by decide) rfl (fun ls hl => ?_)
              refine lv_iload_n hx hb dX3_firstNotCovered_29 rfl (lv_at hl 1 rfl) ?_
              refine lv_iconst (v := nI 1) hx hb dX3_firstNotCovered_30 (by decide) ?_
              refine j_add hx hb dX3_firstNotCovered_31 ?_
              refine j_top (fun x32 ex32 => ?_)
              refine lv_istore (lv' := [(4, .int (nI x32)), (3, .int (nI x28)), (2, .int (nI b)), (1, .int (nI a)), (0, .ref m0)]) hx hb dX3_firstNotCovered_32 hl (by decide) rfl (fun ls hl => ?_)
              have loop34 : ∀ (fuel : Nat) (d : Nat), (d ≤ 23) → (fnR x28 a b (23 - d) (fnQ B n0 a (22 - b) (fnP B n0 (22 - a) (-6))) = fnP B n0 23 (-6)) → 23 - d < fuel → ∀ ls : Array Slot, lv_has ls 5 [(4, .int (nI d)), (3, .int (nI x28)), (2, .int (nI b)), (1, .int (nI a)), (0, .ref m0)] → W p l e (rmR 1 26) s m ([.ref m0] : List Value).toArray below meth c s.heap [] 0 0 (MQ below (k2_QcV (.int (fnP B n0 23 (-6)))) ([.ref m0] : List Value).toArray s 0 0 (fun _ => False)) (F0 m 34 ls []) := by
                intro fuel
                induction fuel with
                | zero => intro d k1 k2 hf; exact absurd hf (Nat.not_lt_zero _)
                | succ fuel ih34 =>
                  intro d k1 k2 hf ls hl
                  refine lv_iload hx hb dX3_firstNotCovered_34 (lv_at hl 0 rfl) ?_
                  refine lv_bipush (v := nI 23) hx hb dX3_firstNotCovered_36 (by decide) ?_
                  refine j_icmp_ge (tgt := 69) hx hb dX3_firstNotCovered_38 (by decide) (fun c38 => ?_) (fun c38 => ?_)
                  · skip
                    obtain ⟨x69, ex69⟩ : ∃ y : Nat, y = b + 1 := ⟨_, rfl⟩
                    refine lv_iinc (v := nI x69) (lv' := [(2, .int (nI x69)), (4, .int (nI d)), (3, .int (nI x28)), (1, .int (nI a)), (0, .ref m0)]) hx hb dX3_firstNotCovered_69 hl (k := 2) rfl (by rw [ex69]; exact nI_add _ _) (by decide) rfl (fun ls hl => ?_)
                    refine lv_goto (tgt := 12) hx hb dX3_firstNotCovered_72 (by decide) ?_
                    exact ih12 x69 (by omega) (by rw [← k2, show 23 - d = 0 by omega, fnR, show 23 - x69 = 22 - b by omega]) (by omega) ls (lv_sub hl [0, 3, 4] rfl)
                  · skip
                    refine lv_iload_n hx hb dX3_firstNotCovered_41 rfl (lv_at hl 1 rfl) ?_
                    refine lv_iload hx hb dX3_firstNotCovered_42 (lv_at hl 0 rfl) ?_
                    refine j_ushr hx hb dX3_firstNotCovered_44 ?_ (ha := by rw [ex28]; exact Nat.lt_trans (jonL_lt hBb _ (Nat.le_refl _)) (by decide)) (h := by omega)
                    refine lv_iconst (v := nI 1) hx hb dX3_firstNotCovered_45 (by decide) ?_
                    refine j_and hx hb dX3_firstNotCovered_46 ?_
                    refine j_if_ne (tgt := 63) hx hb dX3_firstNotCovered_47 (by decide) (fun c47 => ?_) (fun c47 => ?_) (h1 := bd_and (by decide))
                    · skip
                      obtain ⟨x63, ex63⟩ : ∃ y : Nat, y = d + 1 := ⟨_, rfl⟩
                      refine lv_iinc (v := nI x63) (lv' := [(4, .int (nI x63)), (3, .int (nI x28)), (2, .int (nI b)), (1, .int (nI a)), (0, .ref m0)]) hx hb dX3_firstNotCovered_63 hl (k := 0) rfl (by rw [ex63]; exact nI_add _ _) (by decide) rfl (fun ls hl => ?_)
                      refine lv_goto (tgt := 34) hx hb dX3_firstNotCovered_66 (by decide) ?_
                      exact ih34 x63 (by omega) (by rw [← k2, show 23 - d = (23 - x63) + 1 by omega, fnR, show 22 - (23 - x63) = d by omega, if_neg c47]) (by omega) ls (lv_sub hl [0, 1, 2, 3, 4] rfl)
                    · skip
                      refine lv_iload_n hx hb dX3_firstNotCovered_50 rfl (lv_at hl 3 rfl) ?_
                      refine lv_bipush (v := nI 23) hx hb dX3_firstNotCovered_51 (by decide) ?_
                      refine j_mul hx hb dX3_firstNotCovered_53 ?_
                      refine lv_iload_n hx hb dX3_firstNotCovered_54 rfl (lv_at hl 2 rfl) ?_
                      refine j_add hx hb dX3_firstNotCovered_55 ?_
                      refine lv_bipush (v := nI 23) hx hb dX3_firstNotCovered_56 (by decide) ?_
                      refine j_mul hx hb dX3_firstNotCovered_58 ?_
                      refine lv_iload hx hb dX3_firstNotCovered_59 (lv_at hl 0 rfl) ?_
                      refine j_add hx hb dX3_firstNotCovered_61 ?_
                      exact ro_ret hx hb hr hlocks dX3_firstNotCovered_62 (by rw [← k2, show 23 - d = (22 - d) + 1 by omega, fnR, show 22 - (22 - d) = d by omega, if_pos c47])
              exact loop34 _ x32 (by omega) (by rw [← g2, show 23 - b = (22 - b) + 1 by omega, fnQ, show 22 - (22 - b) = b by omega, show 23 - x32 = 22 - b by omega, ex28]) (Nat.lt_succ_self _) ls (lv_sub hl [0, 1, 2, 3, 4] rfl)
        exact loop12 _ x11 (by omega) (by rw [← h2, show 23 - a = (22 - a) + 1 by omega, fnP, show 22 - (22 - a) = a by omega, show 23 - x11 = 22 - a by omega]) (Nat.lt_succ_self _) ls (lv_sub hl [0, 1, 2] rfl)
  exact loop2 _ 0 (by omega) rfl (Nat.lt_succ_self _) ls (lv_sub hl [0, 1] rfl)
set_option maxHeartbeats 4000000 in
set_option maxRecDepth 100000 in
/-- Trust.sum -/
theorem c_X4_sum (l : Launch) (G : EG) (t0 : Nat) (l0 : Nat) (V : Nat → Nat) (v : Nat) (hv : v < 4294967296) : RO l yX4_sum wsX4_sum (rmR 0 0) G [(t0, .inr (3, [.ref l0])), (l0, aI G 23 V)] [.ref t0, .int (nI v)] (.int (nI (smL V v 23))) := by
  refine RO.start (by decide) rfl (Nat.le_of_ble_eq_true rfl) ?_
  intro p e s m below meth c hx hb hr hml hts hown hlocks hP hE ls hl
  have hown : s.vm.findClass RX4 = some m.cls := hown
  have hl : lv_has ls 4 [(0, .ref t0), (1, .int (nI v))] := hl
  refine lv_iconst (v := nI 0) hx hb dX4_sum_0 (by decide) ?_
  refine lv_istore_n (lv' := [(2, .int (nI 0)), (0, .ref t0), (1, .int (nI v))]) hx hb dX4_sum_1 rfl hl (by decide) rfl (fun ls hl => ?_)
  refine lv_iconst (v := nI 0) hx hb dX4_sum_2 (by decide) ?_
  refine lv_istore_n (lv' := [(3, .int (nI 0)), (2, .int (nI 0)), (0, .ref t0), (1, .int (nI v))]) hx hb dX4_sum_3 rfl hl (by decide) rfl (fun ls hl => ?_)
  have loop4 : ∀ (fuel : Nat) (t : Nat) (q : Nat), (q ≤ 23) → (t = smL V v q) → 23 - q < fuel → ∀ ls : Array Slot, lv_has ls 4 [(3, .int (nI q)), (2, .int (nI t)), (0, .ref t0), (1, .int (nI v))] → W p l e (rmR 0 0) s m ([.ref t0, .int (nI v)] : List Value).toArray below meth c s.heap [] 0 0 (MQ below (k2_QcV (.int (nI (smL V v 23)))) ([.ref t0, .int (nI v)] : List Value).toArray s 0 0 (fun _ => False)) (F0 m 4 ls []) := by
    intro fuel
    induction fuel with
    | zero => intro t q h1 h2 hf; exact absurd hf (Nat.not_lt_zero _)
    | succ fuel ih4 =>
      intro t q h1 h2 hf ls hl
      refine lv_iload_n hx hb dX4_sum_4 rfl (lv_at hl 0 rfl) ?_
      refine lv_bipush (v := nI 23) hx hb dX4_sum_5 (by decide) ?_
      refine j_icmp_ge (tgt := 34) hx hb dX4_sum_7 (by decide) (fun c7 => ?_) (fun c7 => ?_)
      · skip
        refine lv_iload_n hx hb dX4_sum_34 rfl (lv_at hl 1 rfl) ?_
        exact ro_ret hx hb hr hlocks dX4_sum_35 (by rw [h2, show q = 23 by omega])
      · skip
        refine lv_iload_n hx hb dX4_sum_10 rfl (lv_at hl 3 rfl) ?_
        refine lv_iload_n hx hb dX4_sum_11 rfl (lv_at hl 0 rfl) ?_
        refine j_ushr hx hb dX4_sum_12 ?_
        refine lv_iconst (v := nI 1) hx hb dX4_sum_13 (by decide) ?_
        refine j_and hx hb dX4_sum_14 ?_
        refine lv_iconst (v := nI 1) hx hb dX4_sum_15 (by decide) ?_
        refine j_icmp_ne (tgt := 28) hx hb dX4_sum_16 (by decide) (fun c16 => ?_) (fun c16 => ?_) (h1 := bd_and (by decide)) (h2 := by decide)
        · skip
          obtain ⟨x28, ex28⟩ : ∃ y : Nat, y = q + 1 := ⟨_, rfl⟩
          refine lv_iinc (v := nI x28) (lv' := [(3, .int (nI x28)), (2, .int (nI t)), (0, .ref t0), (1, .int (nI v))]) hx hb dX4_sum_28 hl (k := 0) rfl (by rw [ex28]; exact nI_add _ _) (by decide) rfl (fun ls hl => ?_)
          refine lv_goto (tgt := 4) hx hb dX4_sum_31 (by decide) ?_
          exact ih4 t x28 (by omega) (by rw [ex28, smL, if_neg c16]; exact h2) (by omega) ls (lv_sub hl [0, 1, 2, 3] rfl)
        · skip
          refine lv_iload_n hx hb dX4_sum_19 rfl (lv_at hl 1 rfl) ?_
          refine lv_aload_n hx hb dX4_sum_20 rfl (lv_at hl 2 rfl) ?_
          refine va_get (D := G.1) (ci := 3) (v := .ref l0) (C := RX4) (T := TX4) (N := 1) hx hb hts (fun w h => List.mem_cons_of_mem _ (List.mem_append_right _ h)) hown hE.1 hP 0 rfl rfl 0 (by decide) (hts (.fieldLink RX4 9 "TripleTrap$Trust" "levels" "[I") (List.mem_of_getElem? (i := 1) rfl)) (fun _ h9 => h9) rfl dX4_sum_21 ?_
          refine lv_iload_n hx hb dX4_sum_24 rfl (lv_at hl 0 rfl) ?_
          refine j_iald hx hb hE hP 1 rfl dX4_sum_25 ?_
          refine j_add hx hb dX4_sum_26 ?_
          refine j_top (fun x27 ex27 => ?_)
          refine lv_istore_n (lv' := [(2, .int (nI x27)), (3, .int (nI q)), (0, .ref t0), (1, .int (nI v))]) hx hb dX4_sum_27 rfl hl (by decide) rfl (fun ls hl => ?_)
          obtain ⟨x28, ex28⟩ : ∃ y : Nat, y = q + 1 := ⟨_, rfl⟩
          refine lv_iinc (v := nI x28) (lv' := [(3, .int (nI x28)), (2, .int (nI x27)), (0, .ref t0), (1, .int (nI v))]) hx hb dX4_sum_28 hl (k := 1) rfl (by rw [ex28]; exact nI_add _ _) (by decide) rfl (fun ls hl => ?_)
          refine lv_goto (tgt := 4) hx hb dX4_sum_31 (by decide) ?_
          exact ih4 x27 x28 (by omega) (by rw [ex27, ex28, smL, if_pos c16, ← h2]) (by omega) ls (lv_sub hl [0, 1, 2, 3] rfl)
  exact loop4 _ 0 0 (by omega) rfl (Nat.lt_succ_self _) ls (lv_sub hl [0, 1, 2, 3] rfl)
set_option maxHeartbeats 4000000 in
set_option maxRecDepth 100000 in
/-- Trust.weakestBut -/
theorem c_X4_weakestBut (l : Launch) (G : EG) (t0 : Nat) (l0 : Nat) (V : Nat → Nat) (hVb : ∀ q, q < 23 → V q ≤ 9) (v : Nat) (hv : v < 4294967296) : RO l yX4_weakestBut wsX4_weakestBut (rmR 0 0) G [(t0, .inr (3, [.ref l0])), (l0, aI G 23 V)] [.ref t0, .int (nI v)] (.int (nI (wbN V v))) := by
  refine RO.start (by decide) rfl (Nat.le_of_ble_eq_true rfl) ?_
  intro p e s m below meth c hx hb hr hml hts hown hlocks hP hE ls hl
  have hown : s.vm.findClass RX4 = some m.cls := hown
  have hl : lv_has ls 5 [(0, .ref t0), (1, .int (nI v))] := hl
  refine lv_iconst (v := nI 0) hx hb dX4_weakestBut_0 (by decide) ?_
  refine lv_istore_n (lv' := [(2, .int (nI 0)), (0, .ref t0), (1, .int (nI v))]) hx hb dX4_weakestBut_1 rfl hl (by decide) rfl (fun ls hl => ?_)
  refine lv_bipush (v := nI 10) hx hb dX4_weakestBut_2 (by decide) ?_
  refine lv_istore_n (lv' := [(3, .int (nI 10)), (2, .int (nI 0)), (0, .ref t0), (1, .int (nI v))]) hx hb dX4_weakestBut_4 rfl hl (by decide) rfl (fun ls hl => ?_)
  refine lv_iconst (v := nI 0) hx hb dX4_weakestBut_5 (by decide) ?_
  refine lv_istore (lv' := [(4, .int (nI 0)), (3, .int (nI 10)), (2, .int (nI 0)), (0, .ref t0), (1, .int (nI v))]) hx hb dX4_weakestBut_6 hl (by decide) rfl (fun ls hl => ?_)
  have loop8 : ∀ (fuel : Nat) (u : Nat) (t : Nat) (q : Nat), (q ≤ 23) → (t ≤ 10) → ((u, t) = wbL V v q) → 23 - q < fuel → ∀ ls : Array Slot, lv_has ls 5 [(4, .int (nI q)), (3, .int (nI t)), (2, .int (nI u)), (0, .ref t0), (1, .int (nI v))] → W p l e (rmR 0 0) s m ([.ref t0, .int (nI v)] : List Value).toArray below meth c s.heap [] 0 0 (MQ below (k2_QcV (.int (nI (wbN V v)))) ([.ref t0, .int (nI v)] : List Value).toArray s 0 0 (fun _ => False)) (F0 m 8 ls []) := by
    intro fuel
    induction fuel with
    | zero => intro u t q h1 h2 h3 hf; exact absurd hf (Nat.not_lt_zero _)
    | succ fuel ih8 =>
      intro u t q h1 h2 h3 hf ls hl
      refine lv_iload hx hb dX4_weakestBut_8 (lv_at hl 0 rfl) ?_
      refine lv_bipush (v := nI 23) hx hb dX4_weakestBut_10 (by decide) ?_
      refine j_icmp_ge (tgt := 52) hx hb dX4_weakestBut_12 (by decide) (fun c12 => ?_) (fun c12 => ?_)
      · skip
        refine lv_iload_n hx hb dX4_weakestBut_52 rfl (lv_at hl 2 rfl) ?_
        exact ro_ret hx hb hr hlocks dX4_weakestBut_53 (by rw [wbN, show 23 = q by omega, ← h3])
      · skip
        refine lv_iload_n hx hb dX4_weakestBut_15 rfl (lv_at hl 4 rfl) ?_
        refine lv_iload hx hb dX4_weakestBut_16 (lv_at hl 0 rfl) ?_
        refine j_ushr hx hb dX4_weakestBut_18 ?_
        refine lv_iconst (v := nI 1) hx hb dX4_weakestBut_19 (by decide) ?_
        refine j_and hx hb dX4_weakestBut_20 ?_
        refine j_if_ne (tgt := 46) hx hb dX4_weakestBut_21 (by decide) (fun c21 => ?_) (fun c21 => ?_) (h1 := bd_and (by decide))
        · skip
          obtain ⟨x46, ex46⟩ : ∃ y : Nat, y = q + 1 := ⟨_, rfl⟩
          refine lv_iinc (v := nI x46) (lv' := [(4, .int (nI x46)), (3, .int (nI t)), (2, .int (nI u)), (0, .ref t0), (1, .int (nI v))]) hx hb dX4_weakestBut_46 hl (k := 0) rfl (by rw [ex46]; exact nI_add _ _) (by decide) rfl (fun ls hl => ?_)
          refine lv_goto (tgt := 8) hx hb dX4_weakestBut_49 (by decide) ?_
          exact ih8 u t x46 (by omega) h2 (by rw [ex46]; exact wb_f1 h3 c21) (by omega) ls (lv_sub hl [0, 1, 2, 3, 4] rfl)
        · skip
          refine lv_aload_n hx hb dX4_weakestBut_24 rfl (lv_at hl 3 rfl) ?_
          refine va_get (D := G.1) (ci := 3) (v := .ref l0) (C := RX4) (T := TX4) (N := 1) hx hb hts (fun w h => List.mem_cons_of_mem _ (List.mem_append_right _ h)) hown hE.1 hP 0 rfl rfl 0 (by decide) (hts (.fieldLink RX4 9 "TripleTrap$Trust" "levels" "[I") (List.mem_of_getElem? (i := 1) rfl)) (fun _ h9 => h9) rfl dX4_weakestBut_25 ?_
          refine lv_iload hx hb dX4_weakestBut_28 (lv_at hl 0 rfl) ?_
          refine j_iald hx hb hE hP 1 rfl dX4_weakestBut_30 ?_
          refine lv_iload_n hx hb dX4_weakestBut_31 rfl (lv_at hl 1 rfl) ?_
          refine j_icmp_ge (tgt := 46) hx hb dX4_weakestBut_32 (by decide) (fun c32 => ?_) (fun c32 => ?_) (h1 := by have := hVb q (by omega); omega) (h2 := by omega)
          · skip
            obtain ⟨x46, ex46⟩ : ∃ y : Nat, y = q + 1 := ⟨_, rfl⟩
            refine lv_iinc (v := nI x46) (lv' := [(4, .int (nI x46)), (3, .int (nI t)), (2, .int (nI u)), (0, .ref t0), (1, .int (nI v))]) hx hb dX4_weakestBut_46 hl (k := 0) rfl (by rw [ex46]; exact nI_add _ _) (by decide) rfl (fun ls hl => ?_)
            refine lv_goto (tgt := 8) hx hb dX4_weakestBut_49 (by decide) ?_
            exact ih8 u t x46 (by omega) h2 (by rw [ex46]; exact wb_f2 h3 c32) (by omega) ls (lv_sub hl [0, 1, 2, 3, 4] rfl)
          · skip
            refine lv_aload_n hx hb dX4_weakestBut_35 rfl (lv_at hl 3 rfl) ?_
            refine va_get (D := G.1) (ci := 3) (v := .ref l0) (C := RX4) (T := TX4) (N := 1) hx hb hts (fun w h => List.mem_cons_of_mem _ (List.mem_append_right _ h)) hown hE.1 hP 0 rfl rfl 0 (by decide) (hts (.fieldLink RX4 9 "TripleTrap$Trust" "levels" "[I") (List.mem_of_getElem? (i := 1) rfl)) (fun _ h9 => h9) rfl dX4_weakestBut_36 ?_
            refine lv_iload hx hb dX4_weakestBut_39 (lv_at hl 0 rfl) ?_
            refine j_iald hx hb hE hP 1 rfl dX4_weakestBut_41 ?_
            refine j_top (fun x42 ex42 => ?_)
            refine lv_istore_n (lv' := [(3, .int (nI x42)), (4, .int (nI q)), (2, .int (nI u)), (0, .ref t0), (1, .int (nI v))]) hx hb dX4_weakestBut_42 rfl hl (by decide) rfl (fun ls hl => ?_)
            refine lv_iload hx hb dX4_weakestBut_43 (lv_at hl 1 rfl) ?_
            refine lv_istore_n (lv' := [(2, .int (nI q)), (3, .int (nI x42)), (4, .int (nI q)), (0, .ref t0), (1, .int (nI v))]) hx hb dX4_weakestBut_45 rfl hl (by decide) rfl (fun ls hl => ?_)
            obtain ⟨x46, ex46⟩ : ∃ y : Nat, y = q + 1 := ⟨_, rfl⟩
            refine lv_iinc (v := nI x46) (lv' := [(4, .int (nI x46)), (2, .int (nI q)), (3, .int (nI x42)), (0, .ref t0), (1, .int (nI v))]) hx hb dX4_weakestBut_46 hl (k := 2) rfl (by rw [ex46]; exact nI_add _ _) (by decide) rfl (fun ls hl => ?_)
            refine lv_goto (tgt := 8) hx hb dX4_weakestBut_49 (by decide) ?_
            exact ih8 q x42 x46 (by omega) (by rw [ex42]; have := hVb q (by omega); omega) (by rw [ex46, ex42]; exact wb_t h3 c21 c32) (by omega) ls (lv_sub hl [0, 2, 1, 3, 4] rfl)
  exact loop8 _ 0 10 0 (by omega) (by omega) rfl (Nat.lt_succ_self _) ls (lv_sub hl [0, 1, 2, 3, 4] rfl)
end
