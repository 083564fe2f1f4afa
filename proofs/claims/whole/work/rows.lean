section
-- ===== PART A: goes FIRST, ahead of the names: the tables' words, and 'selects' of the private methods out of them =====
/-- a private method of a class that the tables say can be made, by its rows of tables_1 -/
def lw_okq (q : MethodName × Nat) : Prop := (q.1.cls ≠ "java/lang/invoke/MethodHandle" ∧ q.1.cls ≠ "java/lang/invoke/VarHandle") ∧ Cond.instantiable q.1.cls q.2 ∈ tables_1 ∧ Cond.privateMethod q.1 ∈ tables_1 ∧ Cond.instanceMethod q.1 ∈ tables_1
theorem lw_p0 : lw_okq (⟨"CountLearner", "tableAt", "(I)LCountLearner$Table;"⟩, 1) := ⟨⟨by decide +kernel, by decide +kernel⟩, List.mem_of_getElem? (i := 8) (by decide +kernel), List.mem_of_getElem? (i := 85) (by decide +kernel), List.mem_of_getElem? (i := 86) (by decide +kernel)⟩
theorem lw_p1 : lw_okq (⟨"CountLearner$Table", "forget", "()V"⟩, 14) := ⟨⟨by decide +kernel, by decide +kernel⟩, List.mem_of_getElem? (i := 17) (by decide +kernel), List.mem_of_getElem? (i := 94) (by decide +kernel), List.mem_of_getElem? (i := 95) (by decide +kernel)⟩
theorem lw_p2 : lw_okq (⟨"CountLearner$Table", "fits", "(I)Z"⟩, 14) := ⟨⟨by decide +kernel, by decide +kernel⟩, List.mem_of_getElem? (i := 17) (by decide +kernel), List.mem_of_getElem? (i := 161) (by decide +kernel), List.mem_of_getElem? (i := 162) (by decide +kernel)⟩
theorem lw_p3 : lw_okq (⟨"CountLearner$Table", "climb", "([III)Z"⟩, 14) := ⟨⟨by decide +kernel, by decide +kernel⟩, List.mem_of_getElem? (i := 17) (by decide +kernel), List.mem_of_getElem? (i := 171) (by decide +kernel), List.mem_of_getElem? (i := 172) (by decide +kernel)⟩
theorem lw_p4 : lw_okq (⟨"CountLearner$Table", "sink", "([I)V"⟩, 14) := ⟨⟨by decide +kernel, by decide +kernel⟩, List.mem_of_getElem? (i := 17) (by decide +kernel), List.mem_of_getElem? (i := 196) (by decide +kernel), List.mem_of_getElem? (i := 197) (by decide +kernel)⟩
theorem lw_p5 : lw_okq (⟨"CountLearner", "spreadAll", "()V"⟩, 1) := ⟨⟨by decide +kernel, by decide +kernel⟩, List.mem_of_getElem? (i := 8) (by decide +kernel), List.mem_of_getElem? (i := 229) (by decide +kernel), List.mem_of_getElem? (i := 230) (by decide +kernel)⟩
theorem lw_p6 : lw_okq (⟨"CountLearner", "costOf", "(IZ)J"⟩, 1) := ⟨⟨by decide +kernel, by decide +kernel⟩, List.mem_of_getElem? (i := 8) (by decide +kernel), List.mem_of_getElem? (i := 233) (by decide +kernel), List.mem_of_getElem? (i := 234) (by decide +kernel)⟩
theorem lw_p7 : lw_okq (⟨"CountLearner", "cheapest", "(Z)I"⟩, 1) := ⟨⟨by decide +kernel, by decide +kernel⟩, List.mem_of_getElem? (i := 8) (by decide +kernel), List.mem_of_getElem? (i := 243) (by decide +kernel), List.mem_of_getElem? (i := 244) (by decide +kernel)⟩
theorem lw_p8 : lw_okq (⟨"CountLearnerModel", "closes", "(I)V"⟩, 12) := ⟨⟨by decide +kernel, by decide +kernel⟩, List.mem_of_getElem? (i := 259) (by decide +kernel), List.mem_of_getElem? (i := 344) (by decide +kernel), List.mem_of_getElem? (i := 345) (by decide +kernel)⟩
theorem lw_p9 : lw_okq (⟨"CountLearnerModel", "most", "(II)I"⟩, 12) := ⟨⟨by decide +kernel, by decide +kernel⟩, List.mem_of_getElem? (i := 259) (by decide +kernel), List.mem_of_getElem? (i := 348) (by decide +kernel), List.mem_of_getElem? (i := 349) (by decide +kernel)⟩
theorem lw_p10 : lw_okq (⟨"CountLearnerModel", "binds", "(III)V"⟩, 12) := ⟨⟨by decide +kernel, by decide +kernel⟩, List.mem_of_getElem? (i := 259) (by decide +kernel), List.mem_of_getElem? (i := 352) (by decide +kernel), List.mem_of_getElem? (i := 353) (by decide +kernel)⟩
theorem lw_p11 : lw_okq (⟨"CountLearnerModel", "guesses", "(I)V"⟩, 12) := ⟨⟨by decide +kernel, by decide +kernel⟩, List.mem_of_getElem? (i := 259) (by decide +kernel), List.mem_of_getElem? (i := 368) (by decide +kernel), List.mem_of_getElem? (i := 369) (by decide +kernel)⟩
theorem lw_p12 : lw_okq (⟨"CountLearnerModel", "guessOf", "(II)J"⟩, 12) := ⟨⟨by decide +kernel, by decide +kernel⟩, List.mem_of_getElem? (i := 259) (by decide +kernel), List.mem_of_getElem? (i := 377) (by decide +kernel), List.mem_of_getElem? (i := 378) (by decide +kernel)⟩
theorem lw_p13 : lw_okq (⟨"CountLearnerModel", "trueIn", "(III)J"⟩, 12) := ⟨⟨by decide +kernel, by decide +kernel⟩, List.mem_of_getElem? (i := 259) (by decide +kernel), List.mem_of_getElem? (i := 390) (by decide +kernel), List.mem_of_getElem? (i := 391) (by decide +kernel)⟩
theorem lw_p14 : lw_okq (⟨"CountLearnerModel", "allGuesses", "()V"⟩, 12) := ⟨⟨by decide +kernel, by decide +kernel⟩, List.mem_of_getElem? (i := 259) (by decide +kernel), List.mem_of_getElem? (i := 398) (by decide +kernel), List.mem_of_getElem? (i := 399) (by decide +kernel)⟩
theorem lw_p15 : lw_okq (⟨"CountLearnerModel", "costOf", "(IZ)J"⟩, 12) := ⟨⟨by decide +kernel, by decide +kernel⟩, List.mem_of_getElem? (i := 259) (by decide +kernel), List.mem_of_getElem? (i := 402) (by decide +kernel), List.mem_of_getElem? (i := 403) (by decide +kernel)⟩
def lw_privs_1 : List (MethodName × Nat) := [(⟨"CountLearner", "tableAt", "(I)LCountLearner$Table;"⟩, 1), (⟨"CountLearner$Table", "forget", "()V"⟩, 14), (⟨"CountLearner$Table", "fits", "(I)Z"⟩, 14), (⟨"CountLearner$Table", "climb", "([III)Z"⟩, 14), (⟨"CountLearner$Table", "sink", "([I)V"⟩, 14), (⟨"CountLearner", "spreadAll", "()V"⟩, 1), (⟨"CountLearner", "costOf", "(IZ)J"⟩, 1), (⟨"CountLearner", "cheapest", "(Z)I"⟩, 1), (⟨"CountLearnerModel", "closes", "(I)V"⟩, 12), (⟨"CountLearnerModel", "most", "(II)I"⟩, 12), (⟨"CountLearnerModel", "binds", "(III)V"⟩, 12), (⟨"CountLearnerModel", "guesses", "(I)V"⟩, 12), (⟨"CountLearnerModel", "guessOf", "(II)J"⟩, 12), (⟨"CountLearnerModel", "trueIn", "(III)J"⟩, 12), (⟨"CountLearnerModel", "allGuesses", "()V"⟩, 12), (⟨"CountLearnerModel", "costOf", "(IZ)J"⟩, 12)]
theorem lw_r1 : ∀ q ∈ lw_privs_1, lw_okq q := List.forall_mem_cons.mpr ⟨lw_p0, List.forall_mem_cons.mpr ⟨lw_p1, List.forall_mem_cons.mpr ⟨lw_p2, List.forall_mem_cons.mpr ⟨lw_p3, List.forall_mem_cons.mpr ⟨lw_p4, List.forall_mem_cons.mpr ⟨lw_p5, List.forall_mem_cons.mpr ⟨lw_p6, List.forall_mem_cons.mpr ⟨lw_p7, List.forall_mem_cons.mpr ⟨lw_p8, List.forall_mem_cons.mpr ⟨lw_p9, List.forall_mem_cons.mpr ⟨lw_p10, List.forall_mem_cons.mpr ⟨lw_p11, List.forall_mem_cons.mpr ⟨lw_p12, List.forall_mem_cons.mpr ⟨lw_p13, List.forall_mem_cons.mpr ⟨lw_p14, List.forall_mem_cons.mpr ⟨lw_p15, fun _ h => absurd h List.not_mem_nil⟩⟩⟩⟩⟩⟩⟩⟩⟩⟩⟩⟩⟩⟩⟩⟩
theorem lw_p16 : lw_okq (⟨"CountLearnerModel", "rowsOf", "(IIZ)J"⟩, 12) := ⟨⟨by decide +kernel, by decide +kernel⟩, List.mem_of_getElem? (i := 259) (by decide +kernel), List.mem_of_getElem? (i := 406) (by decide +kernel), List.mem_of_getElem? (i := 407) (by decide +kernel)⟩
theorem lw_p17 : lw_okq (⟨"CountLearnerModel", "many", "(II)I"⟩, 12) := ⟨⟨by decide +kernel, by decide +kernel⟩, List.mem_of_getElem? (i := 259) (by decide +kernel), List.mem_of_getElem? (i := 423) (by decide +kernel), List.mem_of_getElem? (i := 424) (by decide +kernel)⟩
def lw_privs_2 : List (MethodName × Nat) := [(⟨"CountLearnerModel", "rowsOf", "(IIZ)J"⟩, 12), (⟨"CountLearnerModel", "many", "(II)I"⟩, 12)]
theorem lw_r2 : ∀ q ∈ lw_privs_2, lw_okq q := List.forall_mem_cons.mpr ⟨lw_p16, List.forall_mem_cons.mpr ⟨lw_p17, fun _ h => absurd h List.not_mem_nil⟩⟩
def lw_privs : List (MethodName × Nat) := lw_privs_1 ++ (lw_privs_2)
def lw_tbl : List Cond := k2_sels lw_privs ++ tables_1
theorem lw_privs_ok : ∀ q ∈ lw_privs, lw_okq q := by
  show ∀ q ∈ lw_privs_1 ++ (lw_privs_2), lw_okq q
  exact List.forall_mem_append.mpr ⟨lw_r1, lw_r2⟩
end
section
/-! ===== BEGIN words of one list among another's, by their places ===== -/
theorem goodIn_r {big : List Cond} (ws : List Cond) (ps : List Nat) (hp : ws = ps.filterMap (fun i => big[i]?)) (h : ws.all goodWord = true) : GoodIn big ws := by
  intro w hw
  have h1 := List.all_eq_true.mp h w hw
  rw [hp] at hw
  obtain ⟨i, -, hi⟩ := List.mem_filterMap.mp hw
  have hm : w ∈ big := by first | exact List.mem_of_getElem? hi | exact List.getElem?_mem hi
  exact ⟨hm, good_of_word h1⟩
theorem goodIn_app {big a b : List Cond} (ha : GoodIn big a) (hb : GoodIn big b) : GoodIn big (a ++ b) := fun w h => (List.mem_append.mp h).elim (ha w) (hb w)
theorem goodIn_ca {big a b : List Cond} {c : Cond} (ha : GoodIn big (c :: a)) (hb : GoodIn big b) : GoodIn big (c :: (a ++ b)) := fun w h => (List.mem_cons.mp h).elim (fun e => ha w (List.mem_cons.mpr (Or.inl e))) (fun h => (List.mem_append.mp h).elim (fun h => ha w (List.mem_cons.mpr (Or.inr h))) (hb w))
theorem goodIn_sub {big ws : List Cond} (hm : ∀ w ∈ ws, w ∈ big) (h : ws.all goodWord = true) : GoodIn big ws := fun w hw => ⟨hm w hw, good_of_word (List.all_eq_true.mp h w hw)⟩
/-! ===== END ===== -/

/-! ===== BEGIN printed: names, fields, word lists, decode rows ===== -/
def RX0 : String := "CountLearner$Table"
def TX0 : u_T := fun k => match k with
  | 0 => ("CountLearner$Table", "rows", "I", false)
  | 1 => ("CountLearner$Table", "sights", "I", false)
  | 2 => ("CountLearner$Table", "places", "I", false)
  | 3 => ("CountLearner$Table", "from", "[I", true)
  | 4 => ("CountLearner$Table", "to", "[I", true)
  | 5 => ("CountLearner$Table", "fewest", "[I", true)
  | 6 => ("CountLearner$Table", "most", "[I", true)
  | 7 => ("CountLearner$Table", "how", "[I", true)
  | 8 => ("CountLearner$Table", "truly", "[I", true)
  | 9 => ("CountLearner$Table", "guessed", "[I", true)
  | 10 => ("CountLearner$Table", "lowest", "[I", true)
  | 11 => ("CountLearner$Table", "work", "[I", true)
  | 12 => ("CountLearner$Table", "isSettled", "Z", false)
  | _ => ("CountLearner$Table", "isSpread", "Z", false)
def tyX0 : Nat → FieldType := fun k => match k with
  | 0 => .int
  | 1 => .int
  | 2 => .int
  | 3 => .array .int
  | 4 => .array .int
  | 5 => .array .int
  | 6 => .array .int
  | 7 => .array .int
  | 8 => .array .int
  | 9 => .array .int
  | 10 => .array .int
  | 11 => .array .int
  | 12 => .boolean
  | _ => .boolean
abbrev wsX00 : List Cond := u_ws RX0 TX0 14
theorem nmX0 : ∀ a, a < 14 → ∀ b, b < 14 → a ≠ b → (TX0 a).2.1 ≠ (TX0 b).2.1 := by decide +kernel
theorem tyX0_ok : ∀ k, k < 14 → parseFieldDescriptor (TX0 k).2.2.1 = some (tyX0 k) := by decide +kernel
abbrev cX0_init : ByteArray := prog_2_method_1_code
def yX0_init : MethodName := ⟨RX0, "<init>", "()V"⟩
abbrev cX0_startAnew : ByteArray := prog_2_method_2_code
def yX0_startAnew : MethodName := ⟨RX0, "startAnew", "(I)V"⟩
abbrev cX0_grow : ByteArray := prog_2_method_3_code
def yX0_grow : MethodName := ⟨RX0, "grow", "(I)V"⟩
abbrev cX0_shrink : ByteArray := prog_2_method_4_code
def yX0_shrink : MethodName := ⟨RX0, "shrink", "(I)V"⟩
abbrev cX0_addSight : ByteArray := prog_2_method_5_code
def yX0_addSight : MethodName := ⟨RX0, "addSight", "(IIII)I"⟩
abbrev cX0_makeRoom : ByteArray := prog_2_method_6_code
def yX0_makeRoom : MethodName := ⟨RX0, "makeRoom", "(I)V"⟩
abbrev cX0_sightsThatAre : ByteArray := prog_2_method_7_code
def yX0_sightsThatAre : MethodName := ⟨RX0, "sightsThatAre", "(I)I"⟩
abbrev cX0_rowsOf : ByteArray := prog_2_method_8_code
def yX0_rowsOf : MethodName := ⟨RX0, "rowsOf", "(IZ)J"⟩
abbrev cX0_trulyAgrees : ByteArray := prog_2_method_9_code
def yX0_trulyAgrees : MethodName := ⟨RX0, "trulyAgrees", "()Z"⟩
abbrev cX0_settle : ByteArray := prog_2_method_10_code
def yX0_settle : MethodName := ⟨RX0, "settle", "()V"⟩
abbrev cX0_leastStep : ByteArray := prog_2_method_11_code
def yX0_leastStep : MethodName := ⟨RX0, "leastStep", "(II)I"⟩
abbrev cX0_spread : ByteArray := prog_2_method_12_code
def yX0_spread : MethodName := ⟨RX0, "spread", "()V"⟩
abbrev cX0_forget : ByteArray := prog_2_method_13_code
def yX0_forget : MethodName := ⟨RX0, "forget", "()V"⟩
abbrev cX0_fits : ByteArray := prog_2_method_14_code
def yX0_fits : MethodName := ⟨RX0, "fits", "(I)Z"⟩
abbrev cX0_climb : ByteArray := prog_2_method_15_code
def yX0_climb : MethodName := ⟨RX0, "climb", "([III)Z"⟩
abbrev cX0_sink : ByteArray := prog_2_method_16_code
def yX0_sink : MethodName := ⟨RX0, "sink", "([I)V"⟩
abbrev cX0_raise : ByteArray := prog_2_method_17_code
def yX0_raise : MethodName := ⟨RX0, "raise", "([III)Z"⟩
abbrev cX0_lower : ByteArray := prog_2_method_18_code
def yX0_lower : MethodName := ⟨RX0, "lower", "([III)Z"⟩
def RX1 : String := "CountLearner"
def TX1 : u_T := fun k => match k with
  | _ => ("CountLearner", "tables", "[LCountLearner$Table;", true)
def tyX1 : Nat → FieldType := fun k => match k with
  | _ => .array (.object "CountLearner$Table")
abbrev wsX10 : List Cond := u_ws RX1 TX1 1
theorem nmX1 : ∀ a, a < 1 → ∀ b, b < 1 → a ≠ b → (TX1 a).2.1 ≠ (TX1 b).2.1 := by decide +kernel
theorem tyX1_ok : ∀ k, k < 1 → parseFieldDescriptor (TX1 k).2.2.1 = some (tyX1 k) := by decide +kernel
abbrev cX1_init : ByteArray := prog_1_method_1_code
def yX1_init : MethodName := ⟨RX1, "<init>", "()V"⟩
abbrev cX1_rows : ByteArray := prog_1_method_2_code
def yX1_rows : MethodName := ⟨RX1, "rows", "(II)Z"⟩
abbrev cX1_put : ByteArray := prog_1_method_3_code
def yX1_put : MethodName := ⟨RX1, "put", "(II)I"⟩
abbrev cX1_strike : ByteArray := prog_1_method_4_code
def yX1_strike : MethodName := ⟨RX1, "strike", "(II)I"⟩
abbrev cX1_sight : ByteArray := prog_1_method_5_code
def yX1_sight : MethodName := ⟨RX1, "sight", "(IIIIZ)I"⟩
abbrev cX1_begins : ByteArray := prog_1_method_6_code
def yX1_begins : MethodName := ⟨RX1, "begins", "(IIII)I"⟩
abbrev cX1_room : ByteArray := prog_1_method_7_code
def yX1_room : MethodName := ⟨RX1, "room", "(II)Z"⟩
abbrev cX1_sightOf : ByteArray := prog_1_method_8_code
def yX1_sightOf : MethodName := ⟨RX1, "sightOf", "(III)I"⟩
abbrev cX1_least : ByteArray := prog_1_method_9_code
def yX1_least : MethodName := ⟨RX1, "least", "(III)I"⟩
abbrev cX1_greatest : ByteArray := prog_1_method_10_code
def yX1_greatest : MethodName := ⟨RX1, "greatest", "(III)I"⟩
abbrev cX1_guess : ByteArray := prog_1_method_11_code
def yX1_guess : MethodName := ⟨RX1, "guess", "(III)I"⟩
abbrev cX1_join : ByteArray := prog_1_method_12_code
def yX1_join : MethodName := ⟨RX1, "join", "(IIII)J"⟩
abbrev cX1_truth : ByteArray := prog_1_method_13_code
def yX1_truth : MethodName := ⟨RX1, "truth", "(III)Z"⟩
abbrev cX1_agrees : ByteArray := prog_1_method_14_code
def yX1_agrees : MethodName := ⟨RX1, "agrees", "(I)I"⟩
abbrev cX1_cost : ByteArray := prog_1_method_15_code
def yX1_cost : MethodName := ⟨RX1, "cost", "(IZ)J"⟩
abbrev cX1_plan : ByteArray := prog_1_method_16_code
def yX1_plan : MethodName := ⟨RX1, "plan", "(Z)I"⟩
abbrev cX1_lost : ByteArray := prog_1_method_17_code
def yX1_lost : MethodName := ⟨RX1, "lost", "()J"⟩
abbrev cX1_table : ByteArray := prog_1_method_18_code
def yX1_table : MethodName := ⟨RX1, "table", "(II)I"⟩
abbrev cX1_tableAt : ByteArray := prog_1_method_19_code
def yX1_tableAt : MethodName := ⟨RX1, "tableAt", "(I)LCountLearner$Table;"⟩
abbrev cX1_isSpan : ByteArray := prog_1_method_20_code
def yX1_isSpan : MethodName := ⟨RX1, "isSpan", "(II)Z"⟩
abbrev cX1_textsOf : ByteArray := prog_1_method_21_code
def yX1_textsOf : MethodName := ⟨RX1, "textsOf", "(I)I"⟩
abbrev cX1_spreadAll : ByteArray := prog_1_method_22_code
def yX1_spreadAll : MethodName := ⟨RX1, "spreadAll", "()V"⟩
abbrev cX1_cheapest : ByteArray := prog_1_method_23_code
def yX1_cheapest : MethodName := ⟨RX1, "cheapest", "(Z)I"⟩
abbrev cX1_costOf : ByteArray := prog_1_method_24_code
def yX1_costOf : MethodName := ⟨RX1, "costOf", "(IZ)J"⟩
def RX2 : String := "CountLearnerModel"
def TX2 : u_T := fun k => match k with
  | 0 => ("CountLearnerModel", "rows", "[I", true)
  | 1 => ("CountLearnerModel", "sights", "[I", true)
  | 2 => ("CountLearnerModel", "room", "[I", true)
  | 3 => ("CountLearnerModel", "from", "[I", true)
  | 4 => ("CountLearnerModel", "to", "[I", true)
  | 5 => ("CountLearnerModel", "least", "[I", true)
  | 6 => ("CountLearnerModel", "greatest", "[I", true)
  | 7 => ("CountLearnerModel", "state", "[I", true)
  | 8 => ("CountLearnerModel", "truth", "[I", true)
  | 9 => ("CountLearnerModel", "far", "[I", true)
  | 10 => ("CountLearnerModel", "closed", "I", false)
  | _ => ("CountLearnerModel", "below", "[I", true)
def tyX2 : Nat → FieldType := fun k => match k with
  | 0 => .array .int
  | 1 => .array .int
  | 2 => .array .int
  | 3 => .array .int
  | 4 => .array .int
  | 5 => .array .int
  | 6 => .array .int
  | 7 => .array .int
  | 8 => .array .int
  | 9 => .array .int
  | 10 => .int
  | _ => .array .int
abbrev wsX20 : List Cond := u_ws RX2 TX2 12
theorem nmX2 : ∀ a, a < 12 → ∀ b, b < 12 → a ≠ b → (TX2 a).2.1 ≠ (TX2 b).2.1 := by decide +kernel
theorem tyX2_ok : ∀ k, k < 12 → parseFieldDescriptor (TX2 k).2.2.1 = some (tyX2 k) := by decide +kernel
abbrev cX2_init : ByteArray := prog_4_method_1_code
def yX2_init : MethodName := ⟨RX2, "<init>", "()V"⟩
abbrev cX2_isIn : ByteArray := prog_4_method_2_code
def yX2_isIn : MethodName := ⟨RX2, "isIn", "(III)Z"⟩
abbrev cX2_isTable : ByteArray := prog_4_method_3_code
def yX2_isTable : MethodName := ⟨RX2, "isTable", "(I)Z"⟩
abbrev cX2_isSpan : ByteArray := prog_4_method_4_code
def yX2_isSpan : MethodName := ⟨RX2, "isSpan", "(II)Z"⟩
abbrev cX2_rows : ByteArray := prog_4_method_5_code
def yX2_rows : MethodName := ⟨RX2, "rows", "(II)Z"⟩
abbrev cX2_put : ByteArray := prog_4_method_6_code
def yX2_put : MethodName := ⟨RX2, "put", "(II)I"⟩
abbrev cX2_strike : ByteArray := prog_4_method_7_code
def yX2_strike : MethodName := ⟨RX2, "strike", "(II)I"⟩
abbrev cX2_sight : ByteArray := prog_4_method_8_code
def yX2_sight : MethodName := ⟨RX2, "sight", "(IIIIZ)I"⟩
abbrev cX2_begins : ByteArray := prog_4_method_9_code
def yX2_begins : MethodName := ⟨RX2, "begins", "(IIII)I"⟩
abbrev cX2_room : ByteArray := prog_4_method_10_code
def yX2_room : MethodName := ⟨RX2, "room", "(II)Z"⟩
abbrev cX2_most : ByteArray := prog_4_method_11_code
def yX2_most : MethodName := ⟨RX2, "most", "(II)I"⟩
abbrev cX2_binds : ByteArray := prog_4_method_12_code
def yX2_binds : MethodName := ⟨RX2, "binds", "(III)V"⟩
abbrev cX2_closes : ByteArray := prog_4_method_13_code
def yX2_closes : MethodName := ⟨RX2, "closes", "(I)V"⟩
abbrev cX2_sightOf : ByteArray := prog_4_method_14_code
def yX2_sightOf : MethodName := ⟨RX2, "sightOf", "(III)I"⟩
abbrev cX2_least : ByteArray := prog_4_method_15_code
def yX2_least : MethodName := ⟨RX2, "least", "(III)I"⟩
abbrev cX2_greatest : ByteArray := prog_4_method_16_code
def yX2_greatest : MethodName := ⟨RX2, "greatest", "(III)I"⟩
abbrev cX2_guesses : ByteArray := prog_4_method_17_code
def yX2_guesses : MethodName := ⟨RX2, "guesses", "(I)V"⟩
abbrev cX2_guessOf : ByteArray := prog_4_method_18_code
def yX2_guessOf : MethodName := ⟨RX2, "guessOf", "(II)J"⟩
abbrev cX2_guess : ByteArray := prog_4_method_19_code
def yX2_guess : MethodName := ⟨RX2, "guess", "(III)I"⟩
abbrev cX2_join : ByteArray := prog_4_method_20_code
def yX2_join : MethodName := ⟨RX2, "join", "(IIII)J"⟩
abbrev cX2_truth : ByteArray := prog_4_method_21_code
def yX2_truth : MethodName := ⟨RX2, "truth", "(III)Z"⟩
abbrev cX2_trueIn : ByteArray := prog_4_method_22_code
def yX2_trueIn : MethodName := ⟨RX2, "trueIn", "(III)J"⟩
abbrev cX2_agrees : ByteArray := prog_4_method_23_code
def yX2_agrees : MethodName := ⟨RX2, "agrees", "(I)I"⟩
abbrev cX2_rowsOf : ByteArray := prog_4_method_24_code
def yX2_rowsOf : MethodName := ⟨RX2, "rowsOf", "(IIZ)J"⟩
abbrev cX2_costOf : ByteArray := prog_4_method_25_code
def yX2_costOf : MethodName := ⟨RX2, "costOf", "(IZ)J"⟩
abbrev cX2_allGuesses : ByteArray := prog_4_method_26_code
def yX2_allGuesses : MethodName := ⟨RX2, "allGuesses", "()V"⟩
abbrev cX2_cost : ByteArray := prog_4_method_27_code
def yX2_cost : MethodName := ⟨RX2, "cost", "(IZ)J"⟩
abbrev cX2_plan : ByteArray := prog_4_method_28_code
def yX2_plan : MethodName := ⟨RX2, "plan", "(Z)I"⟩
abbrev cX2_lost : ByteArray := prog_4_method_29_code
def yX2_lost : MethodName := ⟨RX2, "lost", "()J"⟩
abbrev cX2_many : ByteArray := prog_4_method_30_code
def yX2_many : MethodName := ⟨RX2, "many", "(II)I"⟩
abbrev cX2_table : ByteArray := prog_4_method_31_code
def yX2_table : MethodName := ⟨RX2, "table", "(II)I"⟩
def RJ9 : String := "java/lang/Math"
def TJ9 : u_T := fun k => match k with
  | _ => ("", "", "", false)
def tyJ9 : Nat → FieldType := fun k => match k with
  | _ => .int
abbrev wsJ90 : List Cond := u_ws RJ9 TJ9 0
theorem nmJ9 : ∀ a, a < 0 → ∀ b, b < 0 → a ≠ b → (TJ9 a).2.1 ≠ (TJ9 b).2.1 := by decide +kernel
theorem tyJ9_ok : ∀ k, k < 0 → parseFieldDescriptor (TJ9 k).2.2.1 = some (tyJ9 k) := by decide +kernel
abbrev cJ9_max_7cf53 : ByteArray := prog_5_method_65_code
def yJ9_max_7cf53 : MethodName := ⟨RJ9, "max", "(II)I"⟩
abbrev cJ9_min_7cf53 : ByteArray := prog_5_method_69_code
def yJ9_min_7cf53 : MethodName := ⟨RJ9, "min", "(II)I"⟩
def RJ10 : String := "java/lang/System"
def TJ10 : u_T := fun k => match k with
  | _ => ("", "", "", false)
def tyJ10 : Nat → FieldType := fun k => match k with
  | _ => .int
abbrev wsJ100 : List Cond := u_ws RJ10 TJ10 0
theorem nmJ10 : ∀ a, a < 0 → ∀ b, b < 0 → a ≠ b → (TJ10 a).2.1 ≠ (TJ10 b).2.1 := by decide +kernel
theorem tyJ10_ok : ∀ k, k < 0 → parseFieldDescriptor (TJ10 k).2.2.1 = some (tyJ10 k) := by decide +kernel
def RJ7 : String := "java/util/Arrays"
def TJ7 : u_T := fun k => match k with
  | _ => ("", "", "", false)
def tyJ7 : Nat → FieldType := fun k => match k with
  | _ => .int
abbrev wsJ70 : List Cond := u_ws RJ7 TJ7 0
theorem nmJ7 : ∀ a, a < 0 → ∀ b, b < 0 → a ≠ b → (TJ7 a).2.1 ≠ (TJ7 b).2.1 := by decide +kernel
theorem tyJ7_ok : ∀ k, k < 0 → parseFieldDescriptor (TJ7 k).2.2.1 = some (tyJ7 k) := by decide +kernel
abbrev cJ7_fill_53178 : ByteArray := prog_7_method_103_code
def yJ7_fill_53178 : MethodName := ⟨RJ7, "fill", "([II)V"⟩
def RL : String := "CountLearnerLaw"
abbrev cL_law : ByteArray := code
def yL_law : MethodName := ⟨RL, "law", "([I)Z"⟩
def wsX0_init : List Cond := .code yX0_init cX0_init 1 none :: ([.methodLink RX0 3 objectInit, .instanceMethod objectInit, .code objectInit ⟨#[0xb1]⟩ 1 none, .fieldLink RX0 9 "CountLearner$Table" "rows" "I", .fieldLink RX0 15 "CountLearner$Table" "sights" "I", .fieldLink RX0 18 "CountLearner$Table" "places" "I", .arrayClass .int, .fieldLink RX0 21 "CountLearner$Table" "from" "[I", .fieldLink RX0 25 "CountLearner$Table" "to" "[I", .fieldLink RX0 28 "CountLearner$Table" "fewest" "[I", .fieldLink RX0 31 "CountLearner$Table" "most" "[I", .fieldLink RX0 34 "CountLearner$Table" "how" "[I", .fieldLink RX0 37 "CountLearner$Table" "truly" "[I", .fieldLink RX0 40 "CountLearner$Table" "guessed" "[I", .fieldLink RX0 43 "CountLearner$Table" "lowest" "[I", .fieldLink RX0 46 "CountLearner$Table" "work" "[I", .fieldLink RX0 49 "CountLearner$Table" "isSettled" "Z", .fieldLink RX0 53 "CountLearner$Table" "isSpread" "Z"] ++ wsX00)
def wsX0_forget : List Cond := .code yX0_forget cX0_forget 1 none :: ([.fieldLink RX0 49 "CountLearner$Table" "isSettled" "Z", .fieldLink RX0 53 "CountLearner$Table" "isSpread" "Z"] ++ wsX00)
def wsX0_startAnew : List Cond := .code yX0_startAnew cX0_startAnew 2 none :: ([.fieldLink RX0 9 "CountLearner$Table" "rows" "I", .fieldLink RX0 15 "CountLearner$Table" "sights" "I", .methodLink RX0 56 yX0_forget, .instanceMethod yX0_forget, .selects RX0 yX0_forget yX0_forget, .initialized RX0, .code yX0_forget cX0_forget 1 none, .fieldLink RX0 49 "CountLearner$Table" "isSettled" "Z", .fieldLink RX0 53 "CountLearner$Table" "isSpread" "Z"] ++ wsX00)
def wsX0_grow : List Cond := .code yX0_grow cX0_grow 3 none :: ([.fieldLink RX0 9 "CountLearner$Table" "rows" "I", .fieldLink RX0 15 "CountLearner$Table" "sights" "I", .fieldLink RX0 31 "CountLearner$Table" "most" "[I", .constant RX0 59 (1000001), .constant RX0 60 (1000000), .methodLink RX0 61 Lib.Math.min.name, .static Lib.Math.min.name, .initialized "java/lang/Math", .code Lib.Math.min.name Lib.Math.min.code 2 (some .int), .methodLink RX0 56 yX0_forget, .instanceMethod yX0_forget, .selects RX0 yX0_forget yX0_forget, .initialized RX0, .code yX0_forget cX0_forget 1 none, .fieldLink RX0 49 "CountLearner$Table" "isSettled" "Z", .fieldLink RX0 53 "CountLearner$Table" "isSpread" "Z"] ++ wsX00)
def wsX0_shrink : List Cond := .code yX0_shrink cX0_shrink 3 none :: ([.fieldLink RX0 9 "CountLearner$Table" "rows" "I", .fieldLink RX0 15 "CountLearner$Table" "sights" "I", .fieldLink RX0 28 "CountLearner$Table" "fewest" "[I", .methodLink RX0 67 Lib.Math.max.name, .static Lib.Math.max.name, .initialized "java/lang/Math", .code Lib.Math.max.name Lib.Math.max.code 2 (some .int), .methodLink RX0 56 yX0_forget, .instanceMethod yX0_forget, .selects RX0 yX0_forget yX0_forget, .initialized RX0, .code yX0_forget cX0_forget 1 none, .fieldLink RX0 49 "CountLearner$Table" "isSettled" "Z", .fieldLink RX0 53 "CountLearner$Table" "isSpread" "Z"] ++ wsX00)
def wsX0_addSight : List Cond := .code yX0_addSight cX0_addSight 6 (some .int) :: ([.fieldLink RX0 15 "CountLearner$Table" "sights" "I", .fieldLink RX0 21 "CountLearner$Table" "from" "[I", .fieldLink RX0 25 "CountLearner$Table" "to" "[I", .fieldLink RX0 28 "CountLearner$Table" "fewest" "[I", .fieldLink RX0 31 "CountLearner$Table" "most" "[I", .methodLink RX0 56 yX0_forget, .instanceMethod yX0_forget, .selects RX0 yX0_forget yX0_forget, .initialized RX0, .code yX0_forget cX0_forget 1 none, .fieldLink RX0 49 "CountLearner$Table" "isSettled" "Z", .fieldLink RX0 53 "CountLearner$Table" "isSpread" "Z"] ++ wsX00)
def wsX0_makeRoom : List Cond := .code yX0_makeRoom cX0_makeRoom 2 none :: ([.fieldLink RX0 18 "CountLearner$Table" "places" "I", .methodLink RX0 56 yX0_forget, .instanceMethod yX0_forget, .selects RX0 yX0_forget yX0_forget, .initialized RX0, .code yX0_forget cX0_forget 1 none, .fieldLink RX0 49 "CountLearner$Table" "isSettled" "Z", .fieldLink RX0 53 "CountLearner$Table" "isSpread" "Z"] ++ wsX00)
def wsJ7_fill_53178 : List Cond := .code yJ7_fill_53178 cJ7_fill_53178 4 none :: ([])
def wsX0_raise : List Cond := .code yX0_raise cX0_raise 5 (some .boolean) :: ([])
def wsX0_climb : List Cond := .code yX0_climb cX0_climb 7 (some .boolean) :: ([.fieldLink RX0 9 "CountLearner$Table" "rows" "I", .fieldLink RX0 15 "CountLearner$Table" "sights" "I", .fieldLink RX0 34 "CountLearner$Table" "how" "[I", .fieldLink RX0 25 "CountLearner$Table" "to" "[I", .fieldLink RX0 21 "CountLearner$Table" "from" "[I", .fieldLink RX0 28 "CountLearner$Table" "fewest" "[I", .fieldLink RX0 31 "CountLearner$Table" "most" "[I", .methodLink RX0 97 yX0_raise, .static yX0_raise, .initialized RX0, .code yX0_raise cX0_raise 5 (some .boolean)] ++ wsX00)
def wsX0_fits : List Cond := .code yX0_fits cX0_fits 9 (some .boolean) :: ([.fieldLink RX0 21 "CountLearner$Table" "from" "[I", .fieldLink RX0 25 "CountLearner$Table" "to" "[I", .fieldLink RX0 43 "CountLearner$Table" "lowest" "[I", .fieldLink RX0 28 "CountLearner$Table" "fewest" "[I", .fieldLink RX0 31 "CountLearner$Table" "most" "[I", .fieldLink RX0 46 "CountLearner$Table" "work" "[I", .methodLink RX0 87 arraycopyName, .native arraycopyName, .static arraycopyName, .initialized "java/lang/System", .methodLink RX0 97 yX0_raise, .static yX0_raise, .initialized RX0, .code yX0_raise cX0_raise 5 (some .boolean), .methodLink RX0 83 yX0_climb, .instanceMethod yX0_climb, .selects RX0 yX0_climb yX0_climb, .code yX0_climb cX0_climb 7 (some .boolean), .fieldLink RX0 9 "CountLearner$Table" "rows" "I", .fieldLink RX0 15 "CountLearner$Table" "sights" "I", .fieldLink RX0 34 "CountLearner$Table" "how" "[I"] ++ wsX00)
def wsX0_settle_r1 : List Cond := [Cond.fieldLink RX0 49 "CountLearner$Table" "isSettled" "Z", Cond.fieldLink RX0 34 "CountLearner$Table" "how" "[I", Cond.fieldLink RX0 43 "CountLearner$Table" "lowest" "[I", Cond.fieldLink RX0 9 "CountLearner$Table" "rows" "I", Cond.fieldLink RX0 15 "CountLearner$Table" "sights" "I", Cond.fieldLink RX0 18 "CountLearner$Table" "places" "I", Cond.methodLink RX0 67 Lib.Math.max.name, Cond.static Lib.Math.max.name, Cond.initialized "java/lang/Math", Cond.code Lib.Math.max.name Lib.Math.max.code 2 (some .int), Cond.methodLink RX0 73 yJ7_fill_53178, Cond.static yJ7_fill_53178, Cond.initialized RJ7, Cond.code yJ7_fill_53178 cJ7_fill_53178 4 none, Cond.methodLink RX0 79 yX0_fits, Cond.instanceMethod yX0_fits, Cond.selects RX0 yX0_fits yX0_fits, Cond.initialized RX0, Cond.code yX0_fits cX0_fits 9 (some .boolean), Cond.fieldLink RX0 21 "CountLearner$Table" "from" "[I", Cond.fieldLink RX0 25 "CountLearner$Table" "to" "[I", Cond.fieldLink RX0 28 "CountLearner$Table" "fewest" "[I", Cond.fieldLink RX0 31 "CountLearner$Table" "most" "[I", Cond.fieldLink RX0 46 "CountLearner$Table" "work" "[I"]
def wsX0_settle_r2 : List Cond := [Cond.methodLink RX0 87 arraycopyName, Cond.native arraycopyName, Cond.static arraycopyName, Cond.initialized "java/lang/System", Cond.methodLink RX0 97 yX0_raise, Cond.static yX0_raise, Cond.code yX0_raise cX0_raise 5 (some .boolean), Cond.methodLink RX0 83 yX0_climb, Cond.instanceMethod yX0_climb, Cond.selects RX0 yX0_climb yX0_climb, Cond.code yX0_climb cX0_climb 7 (some .boolean)]
def wsX0_settle : List Cond := .code yX0_settle cX0_settle 3 none :: ((wsX0_settle_r1 ++ wsX0_settle_r2) ++ wsX00)
def wsX0_sightsThatAre_r1 : List Cond := [Cond.fieldLink RX0 15 "CountLearner$Table" "sights" "I", Cond.fieldLink RX0 34 "CountLearner$Table" "how" "[I", Cond.methodLink RX0 70 yX0_settle, Cond.instanceMethod yX0_settle, Cond.selects RX0 yX0_settle yX0_settle, Cond.initialized RX0, Cond.code yX0_settle cX0_settle 3 none, Cond.fieldLink RX0 49 "CountLearner$Table" "isSettled" "Z", Cond.fieldLink RX0 43 "CountLearner$Table" "lowest" "[I", Cond.fieldLink RX0 9 "CountLearner$Table" "rows" "I", Cond.fieldLink RX0 18 "CountLearner$Table" "places" "I", Cond.methodLink RX0 67 Lib.Math.max.name, Cond.static Lib.Math.max.name, Cond.initialized "java/lang/Math", Cond.code Lib.Math.max.name Lib.Math.max.code 2 (some .int), Cond.methodLink RX0 73 yJ7_fill_53178, Cond.static yJ7_fill_53178, Cond.initialized RJ7, Cond.code yJ7_fill_53178 cJ7_fill_53178 4 none, Cond.methodLink RX0 79 yX0_fits, Cond.instanceMethod yX0_fits, Cond.selects RX0 yX0_fits yX0_fits, Cond.code yX0_fits cX0_fits 9 (some .boolean), Cond.fieldLink RX0 21 "CountLearner$Table" "from" "[I"]
def wsX0_sightsThatAre_r2 : List Cond := [Cond.fieldLink RX0 25 "CountLearner$Table" "to" "[I", Cond.fieldLink RX0 28 "CountLearner$Table" "fewest" "[I", Cond.fieldLink RX0 31 "CountLearner$Table" "most" "[I", Cond.fieldLink RX0 46 "CountLearner$Table" "work" "[I", Cond.methodLink RX0 87 arraycopyName, Cond.native arraycopyName, Cond.static arraycopyName, Cond.initialized "java/lang/System", Cond.methodLink RX0 97 yX0_raise, Cond.static yX0_raise, Cond.code yX0_raise cX0_raise 5 (some .boolean), Cond.methodLink RX0 83 yX0_climb, Cond.instanceMethod yX0_climb, Cond.selects RX0 yX0_climb yX0_climb, Cond.code yX0_climb cX0_climb 7 (some .boolean)]
def wsX0_sightsThatAre : List Cond := .code yX0_sightsThatAre cX0_sightsThatAre 4 (some .int) :: ((wsX0_sightsThatAre_r1 ++ wsX0_sightsThatAre_r2) ++ wsX00)
def wsX0_rowsOf : List Cond := .code yX0_rowsOf cX0_rowsOf 3 (some .long) :: ([.fieldLink RX0 37 "CountLearner$Table" "truly" "[I", .fieldLink RX0 40 "CountLearner$Table" "guessed" "[I"] ++ wsX00)
def wsX0_trulyAgrees_r1 : List Cond := [Cond.fieldLink RX0 46 "CountLearner$Table" "work" "[I", Cond.fieldLink RX0 37 "CountLearner$Table" "truly" "[I", Cond.fieldLink RX0 9 "CountLearner$Table" "rows" "I", Cond.fieldLink RX0 15 "CountLearner$Table" "sights" "I", Cond.fieldLink RX0 25 "CountLearner$Table" "to" "[I", Cond.fieldLink RX0 21 "CountLearner$Table" "from" "[I", Cond.fieldLink RX0 34 "CountLearner$Table" "how" "[I", Cond.fieldLink RX0 28 "CountLearner$Table" "fewest" "[I", Cond.fieldLink RX0 31 "CountLearner$Table" "most" "[I", Cond.methodLink RX0 70 yX0_settle, Cond.instanceMethod yX0_settle, Cond.selects RX0 yX0_settle yX0_settle, Cond.initialized RX0, Cond.code yX0_settle cX0_settle 3 none, Cond.fieldLink RX0 49 "CountLearner$Table" "isSettled" "Z", Cond.fieldLink RX0 43 "CountLearner$Table" "lowest" "[I", Cond.fieldLink RX0 18 "CountLearner$Table" "places" "I", Cond.methodLink RX0 67 Lib.Math.max.name, Cond.static Lib.Math.max.name, Cond.initialized "java/lang/Math", Cond.code Lib.Math.max.name Lib.Math.max.code 2 (some .int), Cond.methodLink RX0 73 yJ7_fill_53178, Cond.static yJ7_fill_53178, Cond.initialized RJ7]
def wsX0_trulyAgrees_r2 : List Cond := [Cond.code yJ7_fill_53178 cJ7_fill_53178 4 none, Cond.methodLink RX0 79 yX0_fits, Cond.instanceMethod yX0_fits, Cond.selects RX0 yX0_fits yX0_fits, Cond.code yX0_fits cX0_fits 9 (some .boolean), Cond.methodLink RX0 87 arraycopyName, Cond.native arraycopyName, Cond.static arraycopyName, Cond.initialized "java/lang/System", Cond.methodLink RX0 97 yX0_raise, Cond.static yX0_raise, Cond.code yX0_raise cX0_raise 5 (some .boolean), Cond.methodLink RX0 83 yX0_climb, Cond.instanceMethod yX0_climb, Cond.selects RX0 yX0_climb yX0_climb, Cond.code yX0_climb cX0_climb 7 (some .boolean)]
def wsX0_trulyAgrees : List Cond := .code yX0_trulyAgrees cX0_trulyAgrees 3 (some .boolean) :: ((wsX0_trulyAgrees_r1 ++ wsX0_trulyAgrees_r2) ++ wsX00)
def wsX0_leastStep_r1 : List Cond := [Cond.fieldLink RX0 46 "CountLearner$Table" "work" "[I", Cond.fieldLink RX0 9 "CountLearner$Table" "rows" "I", Cond.methodLink RX0 70 yX0_settle, Cond.instanceMethod yX0_settle, Cond.selects RX0 yX0_settle yX0_settle, Cond.initialized RX0, Cond.code yX0_settle cX0_settle 3 none, Cond.fieldLink RX0 49 "CountLearner$Table" "isSettled" "Z", Cond.fieldLink RX0 34 "CountLearner$Table" "how" "[I", Cond.fieldLink RX0 43 "CountLearner$Table" "lowest" "[I", Cond.fieldLink RX0 15 "CountLearner$Table" "sights" "I", Cond.fieldLink RX0 18 "CountLearner$Table" "places" "I", Cond.methodLink RX0 67 Lib.Math.max.name, Cond.static Lib.Math.max.name, Cond.initialized "java/lang/Math", Cond.code Lib.Math.max.name Lib.Math.max.code 2 (some .int), Cond.methodLink RX0 73 yJ7_fill_53178, Cond.static yJ7_fill_53178, Cond.initialized RJ7, Cond.code yJ7_fill_53178 cJ7_fill_53178 4 none, Cond.methodLink RX0 79 yX0_fits, Cond.instanceMethod yX0_fits, Cond.selects RX0 yX0_fits yX0_fits, Cond.code yX0_fits cX0_fits 9 (some .boolean)]
def wsX0_leastStep_r2 : List Cond := [Cond.fieldLink RX0 21 "CountLearner$Table" "from" "[I", Cond.fieldLink RX0 25 "CountLearner$Table" "to" "[I", Cond.fieldLink RX0 28 "CountLearner$Table" "fewest" "[I", Cond.fieldLink RX0 31 "CountLearner$Table" "most" "[I", Cond.methodLink RX0 87 arraycopyName, Cond.native arraycopyName, Cond.static arraycopyName, Cond.initialized "java/lang/System", Cond.methodLink RX0 97 yX0_raise, Cond.static yX0_raise, Cond.code yX0_raise cX0_raise 5 (some .boolean), Cond.methodLink RX0 83 yX0_climb, Cond.instanceMethod yX0_climb, Cond.selects RX0 yX0_climb yX0_climb, Cond.code yX0_climb cX0_climb 7 (some .boolean)]
def wsX0_leastStep : List Cond := .code yX0_leastStep cX0_leastStep 4 (some .int) :: ((wsX0_leastStep_r1 ++ wsX0_leastStep_r2) ++ wsX00)
def wsX0_lower : List Cond := .code yX0_lower cX0_lower 5 (some .boolean) :: ([])
def wsX0_sink : List Cond := .code yX0_sink cX0_sink 5 none :: ([.fieldLink RX0 15 "CountLearner$Table" "sights" "I", .fieldLink RX0 34 "CountLearner$Table" "how" "[I", .fieldLink RX0 21 "CountLearner$Table" "from" "[I", .fieldLink RX0 25 "CountLearner$Table" "to" "[I", .fieldLink RX0 28 "CountLearner$Table" "fewest" "[I", .fieldLink RX0 31 "CountLearner$Table" "most" "[I", .methodLink RX0 100 yX0_lower, .static yX0_lower, .initialized RX0, .code yX0_lower cX0_lower 5 (some .boolean)] ++ wsX00)
def wsX0_spread_r1 : List Cond := [Cond.fieldLink RX0 53 "CountLearner$Table" "isSpread" "Z", Cond.fieldLink RX0 43 "CountLearner$Table" "lowest" "[I", Cond.fieldLink RX0 40 "CountLearner$Table" "guessed" "[I", Cond.methodLink RX0 87 arraycopyName, Cond.native arraycopyName, Cond.static arraycopyName, Cond.initialized "java/lang/System", Cond.fieldLink RX0 46 "CountLearner$Table" "work" "[I", Cond.fieldLink RX0 9 "CountLearner$Table" "rows" "I", Cond.methodLink RX0 67 Lib.Math.max.name, Cond.static Lib.Math.max.name, Cond.initialized "java/lang/Math", Cond.code Lib.Math.max.name Lib.Math.max.code 2 (some .int), Cond.methodLink RX0 61 Lib.Math.min.name, Cond.static Lib.Math.min.name, Cond.code Lib.Math.min.name Lib.Math.min.code 2 (some .int), Cond.methodLink RX0 70 yX0_settle, Cond.instanceMethod yX0_settle, Cond.selects RX0 yX0_settle yX0_settle, Cond.initialized RX0, Cond.code yX0_settle cX0_settle 3 none, Cond.fieldLink RX0 49 "CountLearner$Table" "isSettled" "Z", Cond.fieldLink RX0 34 "CountLearner$Table" "how" "[I", Cond.fieldLink RX0 15 "CountLearner$Table" "sights" "I"]
def wsX0_spread_r2 : List Cond := [Cond.fieldLink RX0 18 "CountLearner$Table" "places" "I", Cond.methodLink RX0 73 yJ7_fill_53178, Cond.static yJ7_fill_53178, Cond.initialized RJ7, Cond.code yJ7_fill_53178 cJ7_fill_53178 4 none, Cond.methodLink RX0 79 yX0_fits, Cond.instanceMethod yX0_fits, Cond.selects RX0 yX0_fits yX0_fits, Cond.code yX0_fits cX0_fits 9 (some .boolean), Cond.fieldLink RX0 21 "CountLearner$Table" "from" "[I", Cond.fieldLink RX0 25 "CountLearner$Table" "to" "[I", Cond.fieldLink RX0 28 "CountLearner$Table" "fewest" "[I", Cond.fieldLink RX0 31 "CountLearner$Table" "most" "[I", Cond.methodLink RX0 97 yX0_raise, Cond.static yX0_raise, Cond.code yX0_raise cX0_raise 5 (some .boolean), Cond.methodLink RX0 83 yX0_climb, Cond.instanceMethod yX0_climb, Cond.selects RX0 yX0_climb yX0_climb, Cond.code yX0_climb cX0_climb 7 (some .boolean), Cond.methodLink RX0 93 yX0_sink, Cond.instanceMethod yX0_sink, Cond.selects RX0 yX0_sink yX0_sink, Cond.code yX0_sink cX0_sink 5 none]
def wsX0_spread_r3 : List Cond := [Cond.methodLink RX0 100 yX0_lower, Cond.static yX0_lower, Cond.code yX0_lower cX0_lower 5 (some .boolean)]
def wsX0_spread : List Cond := .code yX0_spread cX0_spread 7 none :: ((wsX0_spread_r1 ++ (wsX0_spread_r2 ++ wsX0_spread_r3)) ++ wsX00)
def wsX1_init_r1 : List Cond := [Cond.methodLink RX1 3 objectInit, Cond.instanceMethod objectInit, Cond.code objectInit ⟨#[0xb1]⟩ 1 none, Cond.classLink RX1 9 RX0, Cond.fieldLink RX1 11 "CountLearner" "tables" "[LCountLearner$Table;", Cond.instantiable RX0 14, Cond.initialized RX0, Cond.instanceMethod yX0_init, Cond.code yX0_init cX0_init 1 none, Cond.methodLink RX0 3 objectInit, Cond.fieldLink RX0 9 "CountLearner$Table" "rows" "I", Cond.fieldLink RX0 15 "CountLearner$Table" "sights" "I", Cond.fieldLink RX0 18 "CountLearner$Table" "places" "I", Cond.arrayClass .int, Cond.fieldLink RX0 21 "CountLearner$Table" "from" "[I", Cond.fieldLink RX0 25 "CountLearner$Table" "to" "[I", Cond.fieldLink RX0 28 "CountLearner$Table" "fewest" "[I", Cond.fieldLink RX0 31 "CountLearner$Table" "most" "[I", Cond.fieldLink RX0 34 "CountLearner$Table" "how" "[I", Cond.fieldLink RX0 37 "CountLearner$Table" "truly" "[I", Cond.fieldLink RX0 40 "CountLearner$Table" "guessed" "[I", Cond.fieldLink RX0 43 "CountLearner$Table" "lowest" "[I", Cond.fieldLink RX0 46 "CountLearner$Table" "work" "[I", Cond.fieldLink RX0 49 "CountLearner$Table" "isSettled" "Z"]
def wsX1_init_r2 : List Cond := [Cond.fieldLink RX0 53 "CountLearner$Table" "isSpread" "Z"]
def wsX1_init : List Cond := .code yX1_init cX1_init 2 none :: ((wsX1_init_r1 ++ wsX1_init_r2) ++ wsX10 ++ wsX00)
def wsX1_tableAt : List Cond := .code yX1_tableAt cX1_tableAt 2 (some (.object "CountLearner$Table")) :: ([.fieldLink RX1 11 "CountLearner" "tables" "[LCountLearner$Table;"] ++ wsX10)
def wsX1_rows : List Cond := .code yX1_rows cX1_rows 4 (some .boolean) :: ([.constant RX1 20 (1000000), .methodLink RX1 16 yX1_tableAt, .instanceMethod yX1_tableAt, .selects RX1 yX1_tableAt yX1_tableAt, .initialized RX1, .code yX1_tableAt cX1_tableAt 2 (some (.object "CountLearner$Table")), .fieldLink RX1 11 "CountLearner" "tables" "[LCountLearner$Table;", .methodLink RX1 21 yX0_startAnew, .instanceMethod yX0_startAnew, .selects RX0 yX0_startAnew yX0_startAnew, .initialized RX0, .code yX0_startAnew cX0_startAnew 2 none, .fieldLink RX0 9 "CountLearner$Table" "rows" "I", .fieldLink RX0 15 "CountLearner$Table" "sights" "I", .methodLink RX0 56 yX0_forget, .instanceMethod yX0_forget, .selects RX0 yX0_forget yX0_forget, .code yX0_forget cX0_forget 1 none, .fieldLink RX0 49 "CountLearner$Table" "isSettled" "Z", .fieldLink RX0 53 "CountLearner$Table" "isSpread" "Z"] ++ wsX10 ++ wsX00)
def wsX1_put_r1 : List Cond := [Cond.constant RX1 20 (1000000), Cond.fieldLink RX1 25 "CountLearner$Table" "rows" "I", Cond.methodLink RX1 16 yX1_tableAt, Cond.instanceMethod yX1_tableAt, Cond.selects RX1 yX1_tableAt yX1_tableAt, Cond.initialized RX1, Cond.code yX1_tableAt cX1_tableAt 2 (some (.object "CountLearner$Table")), Cond.fieldLink RX1 11 "CountLearner" "tables" "[LCountLearner$Table;", Cond.methodLink RX1 29 yX0_grow, Cond.instanceMethod yX0_grow, Cond.selects RX0 yX0_grow yX0_grow, Cond.initialized RX0, Cond.code yX0_grow cX0_grow 3 none, Cond.fieldLink RX0 9 "CountLearner$Table" "rows" "I", Cond.fieldLink RX0 15 "CountLearner$Table" "sights" "I", Cond.fieldLink RX0 31 "CountLearner$Table" "most" "[I", Cond.constant RX0 59 (1000001), Cond.constant RX0 60 (1000000), Cond.methodLink RX0 61 Lib.Math.min.name, Cond.static Lib.Math.min.name, Cond.initialized "java/lang/Math", Cond.code Lib.Math.min.name Lib.Math.min.code 2 (some .int), Cond.methodLink RX0 56 yX0_forget, Cond.instanceMethod yX0_forget]
def wsX1_put_r2 : List Cond := [Cond.selects RX0 yX0_forget yX0_forget, Cond.code yX0_forget cX0_forget 1 none, Cond.fieldLink RX0 49 "CountLearner$Table" "isSettled" "Z", Cond.fieldLink RX0 53 "CountLearner$Table" "isSpread" "Z"]
def wsX1_put : List Cond := .code yX1_put cX1_put 4 (some .int) :: ((wsX1_put_r1 ++ wsX1_put_r2) ++ wsX00 ++ wsX10)
def wsX1_strike_r1 : List Cond := [Cond.fieldLink RX1 25 "CountLearner$Table" "rows" "I", Cond.methodLink RX1 16 yX1_tableAt, Cond.instanceMethod yX1_tableAt, Cond.selects RX1 yX1_tableAt yX1_tableAt, Cond.initialized RX1, Cond.code yX1_tableAt cX1_tableAt 2 (some (.object "CountLearner$Table")), Cond.fieldLink RX1 11 "CountLearner" "tables" "[LCountLearner$Table;", Cond.methodLink RX1 32 yX0_shrink, Cond.instanceMethod yX0_shrink, Cond.selects RX0 yX0_shrink yX0_shrink, Cond.initialized RX0, Cond.code yX0_shrink cX0_shrink 3 none, Cond.fieldLink RX0 9 "CountLearner$Table" "rows" "I", Cond.fieldLink RX0 15 "CountLearner$Table" "sights" "I", Cond.fieldLink RX0 28 "CountLearner$Table" "fewest" "[I", Cond.methodLink RX0 67 Lib.Math.max.name, Cond.static Lib.Math.max.name, Cond.initialized "java/lang/Math", Cond.code Lib.Math.max.name Lib.Math.max.code 2 (some .int), Cond.methodLink RX0 56 yX0_forget, Cond.instanceMethod yX0_forget, Cond.selects RX0 yX0_forget yX0_forget, Cond.code yX0_forget cX0_forget 1 none, Cond.fieldLink RX0 49 "CountLearner$Table" "isSettled" "Z"]
def wsX1_strike_r2 : List Cond := [Cond.fieldLink RX0 53 "CountLearner$Table" "isSpread" "Z"]
def wsX1_strike : List Cond := .code yX1_strike cX1_strike 4 (some .int) :: ((wsX1_strike_r1 ++ wsX1_strike_r2) ++ wsX00 ++ wsX10)
def wsX1_isSpan : List Cond := .code yX1_isSpan cX1_isSpan 2 (some .boolean) :: ([])
def wsX1_sight_r1 : List Cond := [Cond.fieldLink RX1 25 "CountLearner$Table" "rows" "I", Cond.constant RX1 39 (1000001), Cond.methodLink RX1 16 yX1_tableAt, Cond.instanceMethod yX1_tableAt, Cond.selects RX1 yX1_tableAt yX1_tableAt, Cond.initialized RX1, Cond.code yX1_tableAt cX1_tableAt 2 (some (.object "CountLearner$Table")), Cond.fieldLink RX1 11 "CountLearner" "tables" "[LCountLearner$Table;", Cond.methodLink RX1 35 yX1_isSpan, Cond.static yX1_isSpan, Cond.code yX1_isSpan cX1_isSpan 2 (some .boolean), Cond.methodLink RX1 40 yX0_addSight, Cond.instanceMethod yX0_addSight, Cond.selects RX0 yX0_addSight yX0_addSight, Cond.initialized RX0, Cond.code yX0_addSight cX0_addSight 6 (some .int), Cond.fieldLink RX0 15 "CountLearner$Table" "sights" "I", Cond.fieldLink RX0 21 "CountLearner$Table" "from" "[I", Cond.fieldLink RX0 25 "CountLearner$Table" "to" "[I", Cond.fieldLink RX0 28 "CountLearner$Table" "fewest" "[I", Cond.fieldLink RX0 31 "CountLearner$Table" "most" "[I", Cond.methodLink RX0 56 yX0_forget, Cond.instanceMethod yX0_forget, Cond.selects RX0 yX0_forget yX0_forget]
def wsX1_sight_r2 : List Cond := [Cond.code yX0_forget cX0_forget 1 none, Cond.fieldLink RX0 49 "CountLearner$Table" "isSettled" "Z", Cond.fieldLink RX0 53 "CountLearner$Table" "isSpread" "Z"]
def wsX1_sight : List Cond := .code yX1_sight cX1_sight 7 (some .int) :: ((wsX1_sight_r1 ++ wsX1_sight_r2) ++ wsX00 ++ wsX10)
def wsX1_textsOf : List Cond := .code yX1_textsOf cX1_textsOf 1 (some .int) :: ([])
def wsX1_begins_r1 : List Cond := [Cond.methodLink RX1 44 yX1_textsOf, Cond.static yX1_textsOf, Cond.initialized RX1, Cond.code yX1_textsOf cX1_textsOf 1 (some .int), Cond.methodLink RX1 48 yX1_sight, Cond.instanceMethod yX1_sight, Cond.selects RX1 yX1_sight yX1_sight, Cond.code yX1_sight cX1_sight 7 (some .int), Cond.fieldLink RX1 25 "CountLearner$Table" "rows" "I", Cond.constant RX1 39 (1000001), Cond.methodLink RX1 16 yX1_tableAt, Cond.instanceMethod yX1_tableAt, Cond.selects RX1 yX1_tableAt yX1_tableAt, Cond.code yX1_tableAt cX1_tableAt 2 (some (.object "CountLearner$Table")), Cond.fieldLink RX1 11 "CountLearner" "tables" "[LCountLearner$Table;", Cond.methodLink RX1 35 yX1_isSpan, Cond.static yX1_isSpan, Cond.code yX1_isSpan cX1_isSpan 2 (some .boolean), Cond.methodLink RX1 40 yX0_addSight, Cond.instanceMethod yX0_addSight, Cond.selects RX0 yX0_addSight yX0_addSight, Cond.initialized RX0, Cond.code yX0_addSight cX0_addSight 6 (some .int), Cond.fieldLink RX0 15 "CountLearner$Table" "sights" "I"]
def wsX1_begins_r2 : List Cond := [Cond.fieldLink RX0 21 "CountLearner$Table" "from" "[I", Cond.fieldLink RX0 25 "CountLearner$Table" "to" "[I", Cond.fieldLink RX0 28 "CountLearner$Table" "fewest" "[I", Cond.fieldLink RX0 31 "CountLearner$Table" "most" "[I", Cond.methodLink RX0 56 yX0_forget, Cond.instanceMethod yX0_forget, Cond.selects RX0 yX0_forget yX0_forget, Cond.code yX0_forget cX0_forget 1 none, Cond.fieldLink RX0 49 "CountLearner$Table" "isSettled" "Z", Cond.fieldLink RX0 53 "CountLearner$Table" "isSpread" "Z"]
def wsX1_begins : List Cond := .code yX1_begins cX1_begins 7 (some .int) :: ((wsX1_begins_r1 ++ wsX1_begins_r2) ++ wsX00 ++ wsX10)
def wsX1_room : List Cond := .code yX1_room cX1_room 4 (some .boolean) :: ([.methodLink RX1 16 yX1_tableAt, .instanceMethod yX1_tableAt, .selects RX1 yX1_tableAt yX1_tableAt, .initialized RX1, .code yX1_tableAt cX1_tableAt 2 (some (.object "CountLearner$Table")), .fieldLink RX1 11 "CountLearner" "tables" "[LCountLearner$Table;", .methodLink RX1 52 yX0_makeRoom, .instanceMethod yX0_makeRoom, .selects RX0 yX0_makeRoom yX0_makeRoom, .initialized RX0, .code yX0_makeRoom cX0_makeRoom 2 none, .fieldLink RX0 18 "CountLearner$Table" "places" "I", .methodLink RX0 56 yX0_forget, .instanceMethod yX0_forget, .selects RX0 yX0_forget yX0_forget, .code yX0_forget cX0_forget 1 none, .fieldLink RX0 49 "CountLearner$Table" "isSettled" "Z", .fieldLink RX0 53 "CountLearner$Table" "isSpread" "Z"] ++ wsX10 ++ wsX00)
def wsX1_sightOf_r1 : List Cond := [Cond.fieldLink RX1 55 "CountLearner$Table" "sights" "I", Cond.fieldLink RX1 58 "CountLearner$Table" "from" "[I", Cond.fieldLink RX1 62 "CountLearner$Table" "to" "[I", Cond.fieldLink RX1 65 "CountLearner$Table" "fewest" "[I", Cond.fieldLink RX1 68 "CountLearner$Table" "most" "[I", Cond.fieldLink RX1 74 "CountLearner$Table" "how" "[I", Cond.methodLink RX1 16 yX1_tableAt, Cond.instanceMethod yX1_tableAt, Cond.selects RX1 yX1_tableAt yX1_tableAt, Cond.initialized RX1, Cond.code yX1_tableAt cX1_tableAt 2 (some (.object "CountLearner$Table")), Cond.fieldLink RX1 11 "CountLearner" "tables" "[LCountLearner$Table;", Cond.methodLink RX1 71 yX0_settle, Cond.instanceMethod yX0_settle, Cond.selects RX0 yX0_settle yX0_settle, Cond.initialized RX0, Cond.code yX0_settle cX0_settle 3 none, Cond.fieldLink RX0 49 "CountLearner$Table" "isSettled" "Z", Cond.fieldLink RX0 34 "CountLearner$Table" "how" "[I", Cond.fieldLink RX0 43 "CountLearner$Table" "lowest" "[I", Cond.fieldLink RX0 9 "CountLearner$Table" "rows" "I", Cond.fieldLink RX0 15 "CountLearner$Table" "sights" "I", Cond.fieldLink RX0 18 "CountLearner$Table" "places" "I", Cond.methodLink RX0 67 Lib.Math.max.name]
def wsX1_sightOf_r2 : List Cond := [Cond.static Lib.Math.max.name, Cond.initialized "java/lang/Math", Cond.code Lib.Math.max.name Lib.Math.max.code 2 (some .int), Cond.methodLink RX0 73 yJ7_fill_53178, Cond.static yJ7_fill_53178, Cond.initialized RJ7, Cond.code yJ7_fill_53178 cJ7_fill_53178 4 none, Cond.methodLink RX0 79 yX0_fits, Cond.instanceMethod yX0_fits, Cond.selects RX0 yX0_fits yX0_fits, Cond.code yX0_fits cX0_fits 9 (some .boolean), Cond.fieldLink RX0 21 "CountLearner$Table" "from" "[I", Cond.fieldLink RX0 25 "CountLearner$Table" "to" "[I", Cond.fieldLink RX0 28 "CountLearner$Table" "fewest" "[I", Cond.fieldLink RX0 31 "CountLearner$Table" "most" "[I", Cond.fieldLink RX0 46 "CountLearner$Table" "work" "[I", Cond.methodLink RX0 87 arraycopyName, Cond.native arraycopyName, Cond.static arraycopyName, Cond.initialized "java/lang/System", Cond.methodLink RX0 97 yX0_raise, Cond.static yX0_raise, Cond.code yX0_raise cX0_raise 5 (some .boolean), Cond.methodLink RX0 83 yX0_climb]
def wsX1_sightOf_r3 : List Cond := [Cond.instanceMethod yX0_climb, Cond.selects RX0 yX0_climb yX0_climb, Cond.code yX0_climb cX0_climb 7 (some .boolean)]
def wsX1_sightOf : List Cond := .code yX1_sightOf cX1_sightOf 5 (some .int) :: ((wsX1_sightOf_r1 ++ (wsX1_sightOf_r2 ++ wsX1_sightOf_r3)) ++ wsX00 ++ wsX10)
def wsX1_least_r1 : List Cond := [Cond.methodLink RX1 16 yX1_tableAt, Cond.instanceMethod yX1_tableAt, Cond.selects RX1 yX1_tableAt yX1_tableAt, Cond.initialized RX1, Cond.code yX1_tableAt cX1_tableAt 2 (some (.object "CountLearner$Table")), Cond.fieldLink RX1 11 "CountLearner" "tables" "[LCountLearner$Table;", Cond.methodLink RX1 35 yX1_isSpan, Cond.static yX1_isSpan, Cond.code yX1_isSpan cX1_isSpan 2 (some .boolean), Cond.methodLink RX1 77 yX0_leastStep, Cond.instanceMethod yX0_leastStep, Cond.selects RX0 yX0_leastStep yX0_leastStep, Cond.initialized RX0, Cond.code yX0_leastStep cX0_leastStep 4 (some .int), Cond.fieldLink RX0 46 "CountLearner$Table" "work" "[I", Cond.fieldLink RX0 9 "CountLearner$Table" "rows" "I", Cond.methodLink RX0 70 yX0_settle, Cond.instanceMethod yX0_settle, Cond.selects RX0 yX0_settle yX0_settle, Cond.code yX0_settle cX0_settle 3 none, Cond.fieldLink RX0 49 "CountLearner$Table" "isSettled" "Z", Cond.fieldLink RX0 34 "CountLearner$Table" "how" "[I", Cond.fieldLink RX0 43 "CountLearner$Table" "lowest" "[I", Cond.fieldLink RX0 15 "CountLearner$Table" "sights" "I"]
def wsX1_least_r2 : List Cond := [Cond.fieldLink RX0 18 "CountLearner$Table" "places" "I", Cond.methodLink RX0 67 Lib.Math.max.name, Cond.static Lib.Math.max.name, Cond.initialized "java/lang/Math", Cond.code Lib.Math.max.name Lib.Math.max.code 2 (some .int), Cond.methodLink RX0 73 yJ7_fill_53178, Cond.static yJ7_fill_53178, Cond.initialized RJ7, Cond.code yJ7_fill_53178 cJ7_fill_53178 4 none, Cond.methodLink RX0 79 yX0_fits, Cond.instanceMethod yX0_fits, Cond.selects RX0 yX0_fits yX0_fits, Cond.code yX0_fits cX0_fits 9 (some .boolean), Cond.fieldLink RX0 21 "CountLearner$Table" "from" "[I", Cond.fieldLink RX0 25 "CountLearner$Table" "to" "[I", Cond.fieldLink RX0 28 "CountLearner$Table" "fewest" "[I", Cond.fieldLink RX0 31 "CountLearner$Table" "most" "[I", Cond.methodLink RX0 87 arraycopyName, Cond.native arraycopyName, Cond.static arraycopyName, Cond.initialized "java/lang/System", Cond.methodLink RX0 97 yX0_raise, Cond.static yX0_raise, Cond.code yX0_raise cX0_raise 5 (some .boolean)]
def wsX1_least_r3 : List Cond := [Cond.methodLink RX0 83 yX0_climb, Cond.instanceMethod yX0_climb, Cond.selects RX0 yX0_climb yX0_climb, Cond.code yX0_climb cX0_climb 7 (some .boolean)]
def wsX1_least : List Cond := .code yX1_least cX1_least 5 (some .int) :: ((wsX1_least_r1 ++ (wsX1_least_r2 ++ wsX1_least_r3)) ++ wsX10 ++ wsX00)
def wsX1_greatest_r1 : List Cond := [Cond.methodLink RX1 16 yX1_tableAt, Cond.instanceMethod yX1_tableAt, Cond.selects RX1 yX1_tableAt yX1_tableAt, Cond.initialized RX1, Cond.code yX1_tableAt cX1_tableAt 2 (some (.object "CountLearner$Table")), Cond.fieldLink RX1 11 "CountLearner" "tables" "[LCountLearner$Table;", Cond.methodLink RX1 35 yX1_isSpan, Cond.static yX1_isSpan, Cond.code yX1_isSpan cX1_isSpan 2 (some .boolean), Cond.methodLink RX1 77 yX0_leastStep, Cond.instanceMethod yX0_leastStep, Cond.selects RX0 yX0_leastStep yX0_leastStep, Cond.initialized RX0, Cond.code yX0_leastStep cX0_leastStep 4 (some .int), Cond.fieldLink RX0 46 "CountLearner$Table" "work" "[I", Cond.fieldLink RX0 9 "CountLearner$Table" "rows" "I", Cond.methodLink RX0 70 yX0_settle, Cond.instanceMethod yX0_settle, Cond.selects RX0 yX0_settle yX0_settle, Cond.code yX0_settle cX0_settle 3 none, Cond.fieldLink RX0 49 "CountLearner$Table" "isSettled" "Z", Cond.fieldLink RX0 34 "CountLearner$Table" "how" "[I", Cond.fieldLink RX0 43 "CountLearner$Table" "lowest" "[I", Cond.fieldLink RX0 15 "CountLearner$Table" "sights" "I"]
def wsX1_greatest_r2 : List Cond := [Cond.fieldLink RX0 18 "CountLearner$Table" "places" "I", Cond.methodLink RX0 67 Lib.Math.max.name, Cond.static Lib.Math.max.name, Cond.initialized "java/lang/Math", Cond.code Lib.Math.max.name Lib.Math.max.code 2 (some .int), Cond.methodLink RX0 73 yJ7_fill_53178, Cond.static yJ7_fill_53178, Cond.initialized RJ7, Cond.code yJ7_fill_53178 cJ7_fill_53178 4 none, Cond.methodLink RX0 79 yX0_fits, Cond.instanceMethod yX0_fits, Cond.selects RX0 yX0_fits yX0_fits, Cond.code yX0_fits cX0_fits 9 (some .boolean), Cond.fieldLink RX0 21 "CountLearner$Table" "from" "[I", Cond.fieldLink RX0 25 "CountLearner$Table" "to" "[I", Cond.fieldLink RX0 28 "CountLearner$Table" "fewest" "[I", Cond.fieldLink RX0 31 "CountLearner$Table" "most" "[I", Cond.methodLink RX0 87 arraycopyName, Cond.native arraycopyName, Cond.static arraycopyName, Cond.initialized "java/lang/System", Cond.methodLink RX0 97 yX0_raise, Cond.static yX0_raise, Cond.code yX0_raise cX0_raise 5 (some .boolean)]
def wsX1_greatest_r3 : List Cond := [Cond.methodLink RX0 83 yX0_climb, Cond.instanceMethod yX0_climb, Cond.selects RX0 yX0_climb yX0_climb, Cond.code yX0_climb cX0_climb 7 (some .boolean)]
def wsX1_greatest : List Cond := .code yX1_greatest cX1_greatest 5 (some .int) :: ((wsX1_greatest_r1 ++ (wsX1_greatest_r2 ++ wsX1_greatest_r3)) ++ wsX10 ++ wsX00)
def wsX1_guess_r1 : List Cond := [Cond.fieldLink RX1 84 "CountLearner$Table" "guessed" "[I", Cond.methodLink RX1 16 yX1_tableAt, Cond.instanceMethod yX1_tableAt, Cond.selects RX1 yX1_tableAt yX1_tableAt, Cond.initialized RX1, Cond.code yX1_tableAt cX1_tableAt 2 (some (.object "CountLearner$Table")), Cond.fieldLink RX1 11 "CountLearner" "tables" "[LCountLearner$Table;", Cond.methodLink RX1 35 yX1_isSpan, Cond.static yX1_isSpan, Cond.code yX1_isSpan cX1_isSpan 2 (some .boolean), Cond.methodLink RX1 81 yX0_spread, Cond.instanceMethod yX0_spread, Cond.selects RX0 yX0_spread yX0_spread, Cond.initialized RX0, Cond.code yX0_spread cX0_spread 7 none, Cond.fieldLink RX0 53 "CountLearner$Table" "isSpread" "Z", Cond.fieldLink RX0 43 "CountLearner$Table" "lowest" "[I", Cond.fieldLink RX0 40 "CountLearner$Table" "guessed" "[I", Cond.methodLink RX0 87 arraycopyName, Cond.native arraycopyName, Cond.static arraycopyName, Cond.initialized "java/lang/System", Cond.fieldLink RX0 46 "CountLearner$Table" "work" "[I", Cond.fieldLink RX0 9 "CountLearner$Table" "rows" "I"]
def wsX1_guess_r2 : List Cond := [Cond.methodLink RX0 67 Lib.Math.max.name, Cond.static Lib.Math.max.name, Cond.initialized "java/lang/Math", Cond.code Lib.Math.max.name Lib.Math.max.code 2 (some .int), Cond.methodLink RX0 61 Lib.Math.min.name, Cond.static Lib.Math.min.name, Cond.code Lib.Math.min.name Lib.Math.min.code 2 (some .int), Cond.methodLink RX0 70 yX0_settle, Cond.instanceMethod yX0_settle, Cond.selects RX0 yX0_settle yX0_settle, Cond.code yX0_settle cX0_settle 3 none, Cond.fieldLink RX0 49 "CountLearner$Table" "isSettled" "Z", Cond.fieldLink RX0 34 "CountLearner$Table" "how" "[I", Cond.fieldLink RX0 15 "CountLearner$Table" "sights" "I", Cond.fieldLink RX0 18 "CountLearner$Table" "places" "I", Cond.methodLink RX0 73 yJ7_fill_53178, Cond.static yJ7_fill_53178, Cond.initialized RJ7, Cond.code yJ7_fill_53178 cJ7_fill_53178 4 none, Cond.methodLink RX0 79 yX0_fits, Cond.instanceMethod yX0_fits, Cond.selects RX0 yX0_fits yX0_fits, Cond.code yX0_fits cX0_fits 9 (some .boolean), Cond.fieldLink RX0 21 "CountLearner$Table" "from" "[I"]
def wsX1_guess_r3 : List Cond := [Cond.fieldLink RX0 25 "CountLearner$Table" "to" "[I", Cond.fieldLink RX0 28 "CountLearner$Table" "fewest" "[I", Cond.fieldLink RX0 31 "CountLearner$Table" "most" "[I", Cond.methodLink RX0 97 yX0_raise, Cond.static yX0_raise, Cond.code yX0_raise cX0_raise 5 (some .boolean), Cond.methodLink RX0 83 yX0_climb, Cond.instanceMethod yX0_climb, Cond.selects RX0 yX0_climb yX0_climb, Cond.code yX0_climb cX0_climb 7 (some .boolean), Cond.methodLink RX0 93 yX0_sink, Cond.instanceMethod yX0_sink, Cond.selects RX0 yX0_sink yX0_sink, Cond.code yX0_sink cX0_sink 5 none, Cond.methodLink RX0 100 yX0_lower, Cond.static yX0_lower, Cond.code yX0_lower cX0_lower 5 (some .boolean)]
def wsX1_guess : List Cond := .code yX1_guess cX1_guess 5 (some .int) :: ((wsX1_guess_r1 ++ (wsX1_guess_r2 ++ wsX1_guess_r3)) ++ wsX00 ++ wsX10)
def wsX1_join_r1 : List Cond := [Cond.constantLong RX1 87 (-1), Cond.methodLink RX1 16 yX1_tableAt, Cond.instanceMethod yX1_tableAt, Cond.selects RX1 yX1_tableAt yX1_tableAt, Cond.initialized RX1, Cond.code yX1_tableAt cX1_tableAt 2 (some (.object "CountLearner$Table")), Cond.fieldLink RX1 11 "CountLearner" "tables" "[LCountLearner$Table;", Cond.methodLink RX1 35 yX1_isSpan, Cond.static yX1_isSpan, Cond.code yX1_isSpan cX1_isSpan 2 (some .boolean), Cond.methodLink RX1 81 yX0_spread, Cond.instanceMethod yX0_spread, Cond.selects RX0 yX0_spread yX0_spread, Cond.initialized RX0, Cond.code yX0_spread cX0_spread 7 none, Cond.fieldLink RX0 53 "CountLearner$Table" "isSpread" "Z", Cond.fieldLink RX0 43 "CountLearner$Table" "lowest" "[I", Cond.fieldLink RX0 40 "CountLearner$Table" "guessed" "[I", Cond.methodLink RX0 87 arraycopyName, Cond.native arraycopyName, Cond.static arraycopyName, Cond.initialized "java/lang/System", Cond.fieldLink RX0 46 "CountLearner$Table" "work" "[I", Cond.fieldLink RX0 9 "CountLearner$Table" "rows" "I"]
def wsX1_join_r2 : List Cond := [Cond.methodLink RX0 67 Lib.Math.max.name, Cond.static Lib.Math.max.name, Cond.initialized "java/lang/Math", Cond.code Lib.Math.max.name Lib.Math.max.code 2 (some .int), Cond.methodLink RX0 61 Lib.Math.min.name, Cond.static Lib.Math.min.name, Cond.code Lib.Math.min.name Lib.Math.min.code 2 (some .int), Cond.methodLink RX0 70 yX0_settle, Cond.instanceMethod yX0_settle, Cond.selects RX0 yX0_settle yX0_settle, Cond.code yX0_settle cX0_settle 3 none, Cond.fieldLink RX0 49 "CountLearner$Table" "isSettled" "Z", Cond.fieldLink RX0 34 "CountLearner$Table" "how" "[I", Cond.fieldLink RX0 15 "CountLearner$Table" "sights" "I", Cond.fieldLink RX0 18 "CountLearner$Table" "places" "I", Cond.methodLink RX0 73 yJ7_fill_53178, Cond.static yJ7_fill_53178, Cond.initialized RJ7, Cond.code yJ7_fill_53178 cJ7_fill_53178 4 none, Cond.methodLink RX0 79 yX0_fits, Cond.instanceMethod yX0_fits, Cond.selects RX0 yX0_fits yX0_fits, Cond.code yX0_fits cX0_fits 9 (some .boolean), Cond.fieldLink RX0 21 "CountLearner$Table" "from" "[I"]
def wsX1_join_r3 : List Cond := [Cond.fieldLink RX0 25 "CountLearner$Table" "to" "[I", Cond.fieldLink RX0 28 "CountLearner$Table" "fewest" "[I", Cond.fieldLink RX0 31 "CountLearner$Table" "most" "[I", Cond.methodLink RX0 97 yX0_raise, Cond.static yX0_raise, Cond.code yX0_raise cX0_raise 5 (some .boolean), Cond.methodLink RX0 83 yX0_climb, Cond.instanceMethod yX0_climb, Cond.selects RX0 yX0_climb yX0_climb, Cond.code yX0_climb cX0_climb 7 (some .boolean), Cond.methodLink RX0 93 yX0_sink, Cond.instanceMethod yX0_sink, Cond.selects RX0 yX0_sink yX0_sink, Cond.code yX0_sink cX0_sink 5 none, Cond.methodLink RX0 100 yX0_lower, Cond.static yX0_lower, Cond.code yX0_lower cX0_lower 5 (some .boolean), Cond.methodLink RX1 89 yX0_rowsOf, Cond.instanceMethod yX0_rowsOf, Cond.selects RX0 yX0_rowsOf yX0_rowsOf, Cond.code yX0_rowsOf cX0_rowsOf 3 (some .long), Cond.fieldLink RX0 37 "CountLearner$Table" "truly" "[I"]
def wsX1_join : List Cond := .code yX1_join cX1_join 10 (some .long) :: ((wsX1_join_r1 ++ (wsX1_join_r2 ++ wsX1_join_r3)) ++ wsX10 ++ wsX00)
def wsX1_truth : List Cond := .code yX1_truth cX1_truth 5 (some .boolean) :: ([.constant RX1 93 (100000), .fieldLink RX1 94 "CountLearner$Table" "truly" "[I", .methodLink RX1 16 yX1_tableAt, .instanceMethod yX1_tableAt, .selects RX1 yX1_tableAt yX1_tableAt, .initialized RX1, .code yX1_tableAt cX1_tableAt 2 (some (.object "CountLearner$Table")), .fieldLink RX1 11 "CountLearner" "tables" "[LCountLearner$Table;"] ++ wsX00 ++ wsX10)
def wsX1_agrees_r1 : List Cond := [Cond.methodLink RX1 16 yX1_tableAt, Cond.instanceMethod yX1_tableAt, Cond.selects RX1 yX1_tableAt yX1_tableAt, Cond.initialized RX1, Cond.code yX1_tableAt cX1_tableAt 2 (some (.object "CountLearner$Table")), Cond.fieldLink RX1 11 "CountLearner" "tables" "[LCountLearner$Table;", Cond.methodLink RX1 97 yX0_trulyAgrees, Cond.instanceMethod yX0_trulyAgrees, Cond.selects RX0 yX0_trulyAgrees yX0_trulyAgrees, Cond.initialized RX0, Cond.code yX0_trulyAgrees cX0_trulyAgrees 3 (some .boolean), Cond.fieldLink RX0 46 "CountLearner$Table" "work" "[I", Cond.fieldLink RX0 37 "CountLearner$Table" "truly" "[I", Cond.fieldLink RX0 9 "CountLearner$Table" "rows" "I", Cond.fieldLink RX0 15 "CountLearner$Table" "sights" "I", Cond.fieldLink RX0 25 "CountLearner$Table" "to" "[I", Cond.fieldLink RX0 21 "CountLearner$Table" "from" "[I", Cond.fieldLink RX0 34 "CountLearner$Table" "how" "[I", Cond.fieldLink RX0 28 "CountLearner$Table" "fewest" "[I", Cond.fieldLink RX0 31 "CountLearner$Table" "most" "[I", Cond.methodLink RX0 70 yX0_settle, Cond.instanceMethod yX0_settle, Cond.selects RX0 yX0_settle yX0_settle, Cond.code yX0_settle cX0_settle 3 none]
def wsX1_agrees_r2 : List Cond := [Cond.fieldLink RX0 49 "CountLearner$Table" "isSettled" "Z", Cond.fieldLink RX0 43 "CountLearner$Table" "lowest" "[I", Cond.fieldLink RX0 18 "CountLearner$Table" "places" "I", Cond.methodLink RX0 67 Lib.Math.max.name, Cond.static Lib.Math.max.name, Cond.initialized "java/lang/Math", Cond.code Lib.Math.max.name Lib.Math.max.code 2 (some .int), Cond.methodLink RX0 73 yJ7_fill_53178, Cond.static yJ7_fill_53178, Cond.initialized RJ7, Cond.code yJ7_fill_53178 cJ7_fill_53178 4 none, Cond.methodLink RX0 79 yX0_fits, Cond.instanceMethod yX0_fits, Cond.selects RX0 yX0_fits yX0_fits, Cond.code yX0_fits cX0_fits 9 (some .boolean), Cond.methodLink RX0 87 arraycopyName, Cond.native arraycopyName, Cond.static arraycopyName, Cond.initialized "java/lang/System", Cond.methodLink RX0 97 yX0_raise, Cond.static yX0_raise, Cond.code yX0_raise cX0_raise 5 (some .boolean), Cond.methodLink RX0 83 yX0_climb, Cond.instanceMethod yX0_climb]
def wsX1_agrees_r3 : List Cond := [Cond.selects RX0 yX0_climb yX0_climb, Cond.code yX0_climb cX0_climb 7 (some .boolean)]
def wsX1_agrees : List Cond := .code yX1_agrees cX1_agrees 3 (some .int) :: ((wsX1_agrees_r1 ++ (wsX1_agrees_r2 ++ wsX1_agrees_r3)) ++ wsX10 ++ wsX00)
def wsX1_spreadAll_r1 : List Cond := [Cond.fieldLink RX1 11 "CountLearner" "tables" "[LCountLearner$Table;", Cond.methodLink RX1 81 yX0_spread, Cond.instanceMethod yX0_spread, Cond.selects RX0 yX0_spread yX0_spread, Cond.initialized RX0, Cond.code yX0_spread cX0_spread 7 none, Cond.fieldLink RX0 53 "CountLearner$Table" "isSpread" "Z", Cond.fieldLink RX0 43 "CountLearner$Table" "lowest" "[I", Cond.fieldLink RX0 40 "CountLearner$Table" "guessed" "[I", Cond.methodLink RX0 87 arraycopyName, Cond.native arraycopyName, Cond.static arraycopyName, Cond.initialized "java/lang/System", Cond.fieldLink RX0 46 "CountLearner$Table" "work" "[I", Cond.fieldLink RX0 9 "CountLearner$Table" "rows" "I", Cond.methodLink RX0 67 Lib.Math.max.name, Cond.static Lib.Math.max.name, Cond.initialized "java/lang/Math", Cond.code Lib.Math.max.name Lib.Math.max.code 2 (some .int), Cond.methodLink RX0 61 Lib.Math.min.name, Cond.static Lib.Math.min.name, Cond.code Lib.Math.min.name Lib.Math.min.code 2 (some .int), Cond.methodLink RX0 70 yX0_settle, Cond.instanceMethod yX0_settle]
def wsX1_spreadAll_r2 : List Cond := [Cond.selects RX0 yX0_settle yX0_settle, Cond.code yX0_settle cX0_settle 3 none, Cond.fieldLink RX0 49 "CountLearner$Table" "isSettled" "Z", Cond.fieldLink RX0 34 "CountLearner$Table" "how" "[I", Cond.fieldLink RX0 15 "CountLearner$Table" "sights" "I", Cond.fieldLink RX0 18 "CountLearner$Table" "places" "I", Cond.methodLink RX0 73 yJ7_fill_53178, Cond.static yJ7_fill_53178, Cond.initialized RJ7, Cond.code yJ7_fill_53178 cJ7_fill_53178 4 none, Cond.methodLink RX0 79 yX0_fits, Cond.instanceMethod yX0_fits, Cond.selects RX0 yX0_fits yX0_fits, Cond.code yX0_fits cX0_fits 9 (some .boolean), Cond.fieldLink RX0 21 "CountLearner$Table" "from" "[I", Cond.fieldLink RX0 25 "CountLearner$Table" "to" "[I", Cond.fieldLink RX0 28 "CountLearner$Table" "fewest" "[I", Cond.fieldLink RX0 31 "CountLearner$Table" "most" "[I", Cond.methodLink RX0 97 yX0_raise, Cond.static yX0_raise, Cond.code yX0_raise cX0_raise 5 (some .boolean), Cond.methodLink RX0 83 yX0_climb, Cond.instanceMethod yX0_climb, Cond.selects RX0 yX0_climb yX0_climb]
def wsX1_spreadAll_r3 : List Cond := [Cond.code yX0_climb cX0_climb 7 (some .boolean), Cond.methodLink RX0 93 yX0_sink, Cond.instanceMethod yX0_sink, Cond.selects RX0 yX0_sink yX0_sink, Cond.code yX0_sink cX0_sink 5 none, Cond.methodLink RX0 100 yX0_lower, Cond.static yX0_lower, Cond.code yX0_lower cX0_lower 5 (some .boolean)]
def wsX1_spreadAll : List Cond := .code yX1_spreadAll cX1_spreadAll 2 none :: ((wsX1_spreadAll_r1 ++ (wsX1_spreadAll_r2 ++ wsX1_spreadAll_r3)) ++ wsX10 ++ wsX00)
def wsX1_costOf : List Cond := .code yX1_costOf cX1_costOf 11 (some .long) :: ([.fieldLink RX1 11 "CountLearner" "tables" "[LCountLearner$Table;", .fieldLink RX1 117 "CountLearner" "ORDER_TABLES" "[I", .methodLink RX1 89 yX0_rowsOf, .instanceMethod yX0_rowsOf, .selects RX0 yX0_rowsOf yX0_rowsOf, .initialized RX0, .code yX0_rowsOf cX0_rowsOf 3 (some .long), .fieldLink RX0 37 "CountLearner$Table" "truly" "[I", .fieldLink RX0 40 "CountLearner$Table" "guessed" "[I"] ++ wsX10 ++ wsX00)
def wsX1_cost_r1 : List Cond := [Cond.constantLong RX1 87 (-1), Cond.methodLink RX1 101 yX1_spreadAll, Cond.instanceMethod yX1_spreadAll, Cond.selects RX1 yX1_spreadAll yX1_spreadAll, Cond.initialized RX1, Cond.code yX1_spreadAll cX1_spreadAll 2 none, Cond.fieldLink RX1 11 "CountLearner" "tables" "[LCountLearner$Table;", Cond.methodLink RX1 81 yX0_spread, Cond.instanceMethod yX0_spread, Cond.selects RX0 yX0_spread yX0_spread, Cond.initialized RX0, Cond.code yX0_spread cX0_spread 7 none, Cond.fieldLink RX0 53 "CountLearner$Table" "isSpread" "Z", Cond.fieldLink RX0 43 "CountLearner$Table" "lowest" "[I", Cond.fieldLink RX0 40 "CountLearner$Table" "guessed" "[I", Cond.methodLink RX0 87 arraycopyName, Cond.native arraycopyName, Cond.static arraycopyName, Cond.initialized "java/lang/System", Cond.fieldLink RX0 46 "CountLearner$Table" "work" "[I", Cond.fieldLink RX0 9 "CountLearner$Table" "rows" "I", Cond.methodLink RX0 67 Lib.Math.max.name, Cond.static Lib.Math.max.name, Cond.initialized "java/lang/Math"]
def wsX1_cost_r2 : List Cond := [Cond.code Lib.Math.max.name Lib.Math.max.code 2 (some .int), Cond.methodLink RX0 61 Lib.Math.min.name, Cond.static Lib.Math.min.name, Cond.code Lib.Math.min.name Lib.Math.min.code 2 (some .int), Cond.methodLink RX0 70 yX0_settle, Cond.instanceMethod yX0_settle, Cond.selects RX0 yX0_settle yX0_settle, Cond.code yX0_settle cX0_settle 3 none, Cond.fieldLink RX0 49 "CountLearner$Table" "isSettled" "Z", Cond.fieldLink RX0 34 "CountLearner$Table" "how" "[I", Cond.fieldLink RX0 15 "CountLearner$Table" "sights" "I", Cond.fieldLink RX0 18 "CountLearner$Table" "places" "I", Cond.methodLink RX0 73 yJ7_fill_53178, Cond.static yJ7_fill_53178, Cond.initialized RJ7, Cond.code yJ7_fill_53178 cJ7_fill_53178 4 none, Cond.methodLink RX0 79 yX0_fits, Cond.instanceMethod yX0_fits, Cond.selects RX0 yX0_fits yX0_fits, Cond.code yX0_fits cX0_fits 9 (some .boolean), Cond.fieldLink RX0 21 "CountLearner$Table" "from" "[I", Cond.fieldLink RX0 25 "CountLearner$Table" "to" "[I", Cond.fieldLink RX0 28 "CountLearner$Table" "fewest" "[I", Cond.fieldLink RX0 31 "CountLearner$Table" "most" "[I"]
def wsX1_cost_r3 : List Cond := [Cond.methodLink RX0 97 yX0_raise, Cond.static yX0_raise, Cond.code yX0_raise cX0_raise 5 (some .boolean), Cond.methodLink RX0 83 yX0_climb, Cond.instanceMethod yX0_climb, Cond.selects RX0 yX0_climb yX0_climb, Cond.code yX0_climb cX0_climb 7 (some .boolean), Cond.methodLink RX0 93 yX0_sink, Cond.instanceMethod yX0_sink, Cond.selects RX0 yX0_sink yX0_sink, Cond.code yX0_sink cX0_sink 5 none, Cond.methodLink RX0 100 yX0_lower, Cond.static yX0_lower, Cond.code yX0_lower cX0_lower 5 (some .boolean), Cond.methodLink RX1 104 yX1_costOf, Cond.instanceMethod yX1_costOf, Cond.selects RX1 yX1_costOf yX1_costOf, Cond.code yX1_costOf cX1_costOf 11 (some .long), Cond.fieldLink RX1 117 "CountLearner" "ORDER_TABLES" "[I", Cond.methodLink RX1 89 yX0_rowsOf, Cond.instanceMethod yX0_rowsOf, Cond.selects RX0 yX0_rowsOf yX0_rowsOf, Cond.code yX0_rowsOf cX0_rowsOf 3 (some .long), Cond.fieldLink RX0 37 "CountLearner$Table" "truly" "[I"]
def wsX1_cost : List Cond := .code yX1_cost cX1_cost 3 (some .long) :: ((wsX1_cost_r1 ++ (wsX1_cost_r2 ++ wsX1_cost_r3)) ++ wsX10 ++ wsX00)
def wsX1_cheapest : List Cond := .code yX1_cheapest cX1_cheapest 8 (some .int) :: ([.methodLink RX1 104 yX1_costOf, .instanceMethod yX1_costOf, .selects RX1 yX1_costOf yX1_costOf, .initialized RX1, .code yX1_costOf cX1_costOf 11 (some .long), .fieldLink RX1 11 "CountLearner" "tables" "[LCountLearner$Table;", .fieldLink RX1 117 "CountLearner" "ORDER_TABLES" "[I", .methodLink RX1 89 yX0_rowsOf, .instanceMethod yX0_rowsOf, .selects RX0 yX0_rowsOf yX0_rowsOf, .initialized RX0, .code yX0_rowsOf cX0_rowsOf 3 (some .long), .fieldLink RX0 37 "CountLearner$Table" "truly" "[I", .fieldLink RX0 40 "CountLearner$Table" "guessed" "[I"] ++ wsX10 ++ wsX00)
def wsX1_plan_r1 : List Cond := [Cond.methodLink RX1 101 yX1_spreadAll, Cond.instanceMethod yX1_spreadAll, Cond.selects RX1 yX1_spreadAll yX1_spreadAll, Cond.initialized RX1, Cond.code yX1_spreadAll cX1_spreadAll 2 none, Cond.fieldLink RX1 11 "CountLearner" "tables" "[LCountLearner$Table;", Cond.methodLink RX1 81 yX0_spread, Cond.instanceMethod yX0_spread, Cond.selects RX0 yX0_spread yX0_spread, Cond.initialized RX0, Cond.code yX0_spread cX0_spread 7 none, Cond.fieldLink RX0 53 "CountLearner$Table" "isSpread" "Z", Cond.fieldLink RX0 43 "CountLearner$Table" "lowest" "[I", Cond.fieldLink RX0 40 "CountLearner$Table" "guessed" "[I", Cond.methodLink RX0 87 arraycopyName, Cond.native arraycopyName, Cond.static arraycopyName, Cond.initialized "java/lang/System", Cond.fieldLink RX0 46 "CountLearner$Table" "work" "[I", Cond.fieldLink RX0 9 "CountLearner$Table" "rows" "I", Cond.methodLink RX0 67 Lib.Math.max.name, Cond.static Lib.Math.max.name, Cond.initialized "java/lang/Math", Cond.code Lib.Math.max.name Lib.Math.max.code 2 (some .int)]
def wsX1_plan_r2 : List Cond := [Cond.methodLink RX0 61 Lib.Math.min.name, Cond.static Lib.Math.min.name, Cond.code Lib.Math.min.name Lib.Math.min.code 2 (some .int), Cond.methodLink RX0 70 yX0_settle, Cond.instanceMethod yX0_settle, Cond.selects RX0 yX0_settle yX0_settle, Cond.code yX0_settle cX0_settle 3 none, Cond.fieldLink RX0 49 "CountLearner$Table" "isSettled" "Z", Cond.fieldLink RX0 34 "CountLearner$Table" "how" "[I", Cond.fieldLink RX0 15 "CountLearner$Table" "sights" "I", Cond.fieldLink RX0 18 "CountLearner$Table" "places" "I", Cond.methodLink RX0 73 yJ7_fill_53178, Cond.static yJ7_fill_53178, Cond.initialized RJ7, Cond.code yJ7_fill_53178 cJ7_fill_53178 4 none, Cond.methodLink RX0 79 yX0_fits, Cond.instanceMethod yX0_fits, Cond.selects RX0 yX0_fits yX0_fits, Cond.code yX0_fits cX0_fits 9 (some .boolean), Cond.fieldLink RX0 21 "CountLearner$Table" "from" "[I", Cond.fieldLink RX0 25 "CountLearner$Table" "to" "[I", Cond.fieldLink RX0 28 "CountLearner$Table" "fewest" "[I", Cond.fieldLink RX0 31 "CountLearner$Table" "most" "[I", Cond.methodLink RX0 97 yX0_raise]
def wsX1_plan_r3 : List Cond := [Cond.static yX0_raise, Cond.code yX0_raise cX0_raise 5 (some .boolean), Cond.methodLink RX0 83 yX0_climb, Cond.instanceMethod yX0_climb, Cond.selects RX0 yX0_climb yX0_climb, Cond.code yX0_climb cX0_climb 7 (some .boolean), Cond.methodLink RX0 93 yX0_sink, Cond.instanceMethod yX0_sink, Cond.selects RX0 yX0_sink yX0_sink, Cond.code yX0_sink cX0_sink 5 none, Cond.methodLink RX0 100 yX0_lower, Cond.static yX0_lower, Cond.code yX0_lower cX0_lower 5 (some .boolean), Cond.methodLink RX1 107 yX1_cheapest, Cond.instanceMethod yX1_cheapest, Cond.selects RX1 yX1_cheapest yX1_cheapest, Cond.code yX1_cheapest cX1_cheapest 8 (some .int), Cond.methodLink RX1 104 yX1_costOf, Cond.instanceMethod yX1_costOf, Cond.selects RX1 yX1_costOf yX1_costOf, Cond.code yX1_costOf cX1_costOf 11 (some .long), Cond.fieldLink RX1 117 "CountLearner" "ORDER_TABLES" "[I", Cond.methodLink RX1 89 yX0_rowsOf, Cond.instanceMethod yX0_rowsOf]
def wsX1_plan_r4 : List Cond := [Cond.selects RX0 yX0_rowsOf yX0_rowsOf, Cond.code yX0_rowsOf cX0_rowsOf 3 (some .long), Cond.fieldLink RX0 37 "CountLearner$Table" "truly" "[I"]
def wsX1_plan : List Cond := .code yX1_plan cX1_plan 2 (some .int) :: ((wsX1_plan_r1 ++ (wsX1_plan_r2 ++ (wsX1_plan_r3 ++ wsX1_plan_r4))) ++ wsX10 ++ wsX00)
def wsX1_lost_r1 : List Cond := [Cond.methodLink RX1 101 yX1_spreadAll, Cond.instanceMethod yX1_spreadAll, Cond.selects RX1 yX1_spreadAll yX1_spreadAll, Cond.initialized RX1, Cond.code yX1_spreadAll cX1_spreadAll 2 none, Cond.fieldLink RX1 11 "CountLearner" "tables" "[LCountLearner$Table;", Cond.methodLink RX1 81 yX0_spread, Cond.instanceMethod yX0_spread, Cond.selects RX0 yX0_spread yX0_spread, Cond.initialized RX0, Cond.code yX0_spread cX0_spread 7 none, Cond.fieldLink RX0 53 "CountLearner$Table" "isSpread" "Z", Cond.fieldLink RX0 43 "CountLearner$Table" "lowest" "[I", Cond.fieldLink RX0 40 "CountLearner$Table" "guessed" "[I", Cond.methodLink RX0 87 arraycopyName, Cond.native arraycopyName, Cond.static arraycopyName, Cond.initialized "java/lang/System", Cond.fieldLink RX0 46 "CountLearner$Table" "work" "[I", Cond.fieldLink RX0 9 "CountLearner$Table" "rows" "I", Cond.methodLink RX0 67 Lib.Math.max.name, Cond.static Lib.Math.max.name, Cond.initialized "java/lang/Math", Cond.code Lib.Math.max.name Lib.Math.max.code 2 (some .int)]
def wsX1_lost_r2 : List Cond := [Cond.methodLink RX0 61 Lib.Math.min.name, Cond.static Lib.Math.min.name, Cond.code Lib.Math.min.name Lib.Math.min.code 2 (some .int), Cond.methodLink RX0 70 yX0_settle, Cond.instanceMethod yX0_settle, Cond.selects RX0 yX0_settle yX0_settle, Cond.code yX0_settle cX0_settle 3 none, Cond.fieldLink RX0 49 "CountLearner$Table" "isSettled" "Z", Cond.fieldLink RX0 34 "CountLearner$Table" "how" "[I", Cond.fieldLink RX0 15 "CountLearner$Table" "sights" "I", Cond.fieldLink RX0 18 "CountLearner$Table" "places" "I", Cond.methodLink RX0 73 yJ7_fill_53178, Cond.static yJ7_fill_53178, Cond.initialized RJ7, Cond.code yJ7_fill_53178 cJ7_fill_53178 4 none, Cond.methodLink RX0 79 yX0_fits, Cond.instanceMethod yX0_fits, Cond.selects RX0 yX0_fits yX0_fits, Cond.code yX0_fits cX0_fits 9 (some .boolean), Cond.fieldLink RX0 21 "CountLearner$Table" "from" "[I", Cond.fieldLink RX0 25 "CountLearner$Table" "to" "[I", Cond.fieldLink RX0 28 "CountLearner$Table" "fewest" "[I", Cond.fieldLink RX0 31 "CountLearner$Table" "most" "[I", Cond.methodLink RX0 97 yX0_raise]
def wsX1_lost_r3 : List Cond := [Cond.static yX0_raise, Cond.code yX0_raise cX0_raise 5 (some .boolean), Cond.methodLink RX0 83 yX0_climb, Cond.instanceMethod yX0_climb, Cond.selects RX0 yX0_climb yX0_climb, Cond.code yX0_climb cX0_climb 7 (some .boolean), Cond.methodLink RX0 93 yX0_sink, Cond.instanceMethod yX0_sink, Cond.selects RX0 yX0_sink yX0_sink, Cond.code yX0_sink cX0_sink 5 none, Cond.methodLink RX0 100 yX0_lower, Cond.static yX0_lower, Cond.code yX0_lower cX0_lower 5 (some .boolean), Cond.methodLink RX1 107 yX1_cheapest, Cond.instanceMethod yX1_cheapest, Cond.selects RX1 yX1_cheapest yX1_cheapest, Cond.code yX1_cheapest cX1_cheapest 8 (some .int), Cond.methodLink RX1 104 yX1_costOf, Cond.instanceMethod yX1_costOf, Cond.selects RX1 yX1_costOf yX1_costOf, Cond.code yX1_costOf cX1_costOf 11 (some .long), Cond.fieldLink RX1 117 "CountLearner" "ORDER_TABLES" "[I", Cond.methodLink RX1 89 yX0_rowsOf, Cond.instanceMethod yX0_rowsOf]
def wsX1_lost_r4 : List Cond := [Cond.selects RX0 yX0_rowsOf yX0_rowsOf, Cond.code yX0_rowsOf cX0_rowsOf 3 (some .long), Cond.fieldLink RX0 37 "CountLearner$Table" "truly" "[I"]
def wsX1_lost : List Cond := .code yX1_lost cX1_lost 1 (some .long) :: ((wsX1_lost_r1 ++ (wsX1_lost_r2 ++ (wsX1_lost_r3 ++ wsX1_lost_r4))) ++ wsX10 ++ wsX00)
def wsX1_table_r1 : List Cond := [Cond.fieldLink RX1 25 "CountLearner$Table" "rows" "I", Cond.fieldLink RX1 55 "CountLearner$Table" "sights" "I", Cond.fieldLink RX1 114 "CountLearner$Table" "places" "I", Cond.methodLink RX1 16 yX1_tableAt, Cond.instanceMethod yX1_tableAt, Cond.selects RX1 yX1_tableAt yX1_tableAt, Cond.initialized RX1, Cond.code yX1_tableAt cX1_tableAt 2 (some (.object "CountLearner$Table")), Cond.fieldLink RX1 11 "CountLearner" "tables" "[LCountLearner$Table;", Cond.methodLink RX1 111 yX0_sightsThatAre, Cond.instanceMethod yX0_sightsThatAre, Cond.selects RX0 yX0_sightsThatAre yX0_sightsThatAre, Cond.initialized RX0, Cond.code yX0_sightsThatAre cX0_sightsThatAre 4 (some .int), Cond.fieldLink RX0 15 "CountLearner$Table" "sights" "I", Cond.fieldLink RX0 34 "CountLearner$Table" "how" "[I", Cond.methodLink RX0 70 yX0_settle, Cond.instanceMethod yX0_settle, Cond.selects RX0 yX0_settle yX0_settle, Cond.code yX0_settle cX0_settle 3 none, Cond.fieldLink RX0 49 "CountLearner$Table" "isSettled" "Z", Cond.fieldLink RX0 43 "CountLearner$Table" "lowest" "[I", Cond.fieldLink RX0 9 "CountLearner$Table" "rows" "I", Cond.fieldLink RX0 18 "CountLearner$Table" "places" "I"]
def wsX1_table_r2 : List Cond := [Cond.methodLink RX0 67 Lib.Math.max.name, Cond.static Lib.Math.max.name, Cond.initialized "java/lang/Math", Cond.code Lib.Math.max.name Lib.Math.max.code 2 (some .int), Cond.methodLink RX0 73 yJ7_fill_53178, Cond.static yJ7_fill_53178, Cond.initialized RJ7, Cond.code yJ7_fill_53178 cJ7_fill_53178 4 none, Cond.methodLink RX0 79 yX0_fits, Cond.instanceMethod yX0_fits, Cond.selects RX0 yX0_fits yX0_fits, Cond.code yX0_fits cX0_fits 9 (some .boolean), Cond.fieldLink RX0 21 "CountLearner$Table" "from" "[I", Cond.fieldLink RX0 25 "CountLearner$Table" "to" "[I", Cond.fieldLink RX0 28 "CountLearner$Table" "fewest" "[I", Cond.fieldLink RX0 31 "CountLearner$Table" "most" "[I", Cond.fieldLink RX0 46 "CountLearner$Table" "work" "[I", Cond.methodLink RX0 87 arraycopyName, Cond.native arraycopyName, Cond.static arraycopyName, Cond.initialized "java/lang/System", Cond.methodLink RX0 97 yX0_raise, Cond.static yX0_raise, Cond.code yX0_raise cX0_raise 5 (some .boolean)]
def wsX1_table_r3 : List Cond := [Cond.methodLink RX0 83 yX0_climb, Cond.instanceMethod yX0_climb, Cond.selects RX0 yX0_climb yX0_climb, Cond.code yX0_climb cX0_climb 7 (some .boolean)]
def wsX1_table : List Cond := .code yX1_table cX1_table 4 (some .int) :: ((wsX1_table_r1 ++ (wsX1_table_r2 ++ wsX1_table_r3)) ++ wsX00 ++ wsX10)
def wsX2_init : List Cond := .code yX2_init cX2_init 2 none :: ([.methodLink RX2 1 objectInit, .instanceMethod objectInit, .code objectInit ⟨#[0xb1]⟩ 1 none, .arrayClass .int, .fieldLink RX2 7 "CountLearnerModel" "rows" "[I", .fieldLink RX2 13 "CountLearnerModel" "sights" "[I", .fieldLink RX2 16 "CountLearnerModel" "room" "[I", .fieldLink RX2 19 "CountLearnerModel" "from" "[I", .fieldLink RX2 22 "CountLearnerModel" "to" "[I", .fieldLink RX2 25 "CountLearnerModel" "least" "[I", .fieldLink RX2 28 "CountLearnerModel" "greatest" "[I", .fieldLink RX2 31 "CountLearnerModel" "state" "[I", .fieldLink RX2 34 "CountLearnerModel" "truth" "[I", .fieldLink RX2 37 "CountLearnerModel" "far" "[I", .fieldLink RX2 40 "CountLearnerModel" "closed" "I", .fieldLink RX2 44 "CountLearnerModel" "below" "[I"] ++ wsX20)
def wsX2_isIn : List Cond := .code yX2_isIn cX2_isIn 3 (some .boolean) :: ([])
def wsX2_isTable : List Cond := .code yX2_isTable cX2_isTable 1 (some .boolean) :: ([.methodLink RX2 47 yX2_isIn, .static yX2_isIn, .initialized RX2, .code yX2_isIn cX2_isIn 3 (some .boolean)])
def wsX2_isSpan : List Cond := .code yX2_isSpan cX2_isSpan 2 (some .boolean) :: ([])
def wsX2_rows : List Cond := .code yX2_rows cX2_rows 3 (some .boolean) :: ([.constant RX2 55 (1000000), .fieldLink RX2 40 "CountLearnerModel" "closed" "I", .fieldLink RX2 7 "CountLearnerModel" "rows" "[I", .fieldLink RX2 13 "CountLearnerModel" "sights" "[I", .methodLink RX2 51 yX2_isTable, .static yX2_isTable, .initialized RX2, .code yX2_isTable cX2_isTable 1 (some .boolean), .methodLink RX2 47 yX2_isIn, .static yX2_isIn, .code yX2_isIn cX2_isIn 3 (some .boolean)] ++ wsX20)
def wsX2_put : List Cond := .code yX2_put cX2_put 4 (some .int) :: ([.constant RX2 55 (1000000), .fieldLink RX2 7 "CountLearnerModel" "rows" "[I", .fieldLink RX2 40 "CountLearnerModel" "closed" "I", .fieldLink RX2 13 "CountLearnerModel" "sights" "[I", .fieldLink RX2 28 "CountLearnerModel" "greatest" "[I", .constant RX2 56 (1000001), .methodLink RX2 57 Lib.Math.min.name, .static Lib.Math.min.name, .initialized "java/lang/Math", .code Lib.Math.min.name Lib.Math.min.code 2 (some .int), .methodLink RX2 51 yX2_isTable, .static yX2_isTable, .initialized RX2, .code yX2_isTable cX2_isTable 1 (some .boolean), .methodLink RX2 47 yX2_isIn, .static yX2_isIn, .code yX2_isIn cX2_isIn 3 (some .boolean)] ++ wsX20)
def wsX2_strike : List Cond := .code yX2_strike cX2_strike 4 (some .int) :: ([.fieldLink RX2 7 "CountLearnerModel" "rows" "[I", .fieldLink RX2 40 "CountLearnerModel" "closed" "I", .fieldLink RX2 13 "CountLearnerModel" "sights" "[I", .fieldLink RX2 25 "CountLearnerModel" "least" "[I", .methodLink RX2 63 Lib.Math.max.name, .static Lib.Math.max.name, .initialized "java/lang/Math", .code Lib.Math.max.name Lib.Math.max.code 2 (some .int), .methodLink RX2 51 yX2_isTable, .static yX2_isTable, .initialized RX2, .code yX2_isTable cX2_isTable 1 (some .boolean), .methodLink RX2 47 yX2_isIn, .static yX2_isIn, .code yX2_isIn cX2_isIn 3 (some .boolean)] ++ wsX20)
def wsX2_sight : List Cond := .code yX2_sight cX2_sight 7 (some .int) :: ([.fieldLink RX2 7 "CountLearnerModel" "rows" "[I", .fieldLink RX2 13 "CountLearnerModel" "sights" "[I", .fieldLink RX2 19 "CountLearnerModel" "from" "[I", .fieldLink RX2 22 "CountLearnerModel" "to" "[I", .fieldLink RX2 25 "CountLearnerModel" "least" "[I", .fieldLink RX2 28 "CountLearnerModel" "greatest" "[I", .constant RX2 56 (1000001), .fieldLink RX2 40 "CountLearnerModel" "closed" "I", .methodLink RX2 51 yX2_isTable, .static yX2_isTable, .initialized RX2, .code yX2_isTable cX2_isTable 1 (some .boolean), .methodLink RX2 47 yX2_isIn, .static yX2_isIn, .code yX2_isIn cX2_isIn 3 (some .boolean), .methodLink RX2 66 yX2_isSpan, .static yX2_isSpan, .code yX2_isSpan cX2_isSpan 2 (some .boolean)] ++ wsX20)
def wsX2_begins : List Cond := .code yX2_begins cX2_begins 6 (some .int) :: ([.methodLink RX2 47 yX2_isIn, .static yX2_isIn, .initialized RX2, .code yX2_isIn cX2_isIn 3 (some .boolean), .methodLink RX2 70 yX2_sight, .instanceMethod yX2_sight, .selects RX2 yX2_sight yX2_sight, .code yX2_sight cX2_sight 7 (some .int), .fieldLink RX2 7 "CountLearnerModel" "rows" "[I", .fieldLink RX2 13 "CountLearnerModel" "sights" "[I", .fieldLink RX2 19 "CountLearnerModel" "from" "[I", .fieldLink RX2 22 "CountLearnerModel" "to" "[I", .fieldLink RX2 25 "CountLearnerModel" "least" "[I", .fieldLink RX2 28 "CountLearnerModel" "greatest" "[I", .constant RX2 56 (1000001), .fieldLink RX2 40 "CountLearnerModel" "closed" "I", .methodLink RX2 51 yX2_isTable, .static yX2_isTable, .code yX2_isTable cX2_isTable 1 (some .boolean), .methodLink RX2 66 yX2_isSpan, .static yX2_isSpan, .code yX2_isSpan cX2_isSpan 2 (some .boolean)] ++ wsX20)
def wsX2_room : List Cond := .code yX2_room cX2_room 3 (some .boolean) :: ([.fieldLink RX2 40 "CountLearnerModel" "closed" "I", .fieldLink RX2 16 "CountLearnerModel" "room" "[I", .methodLink RX2 51 yX2_isTable, .static yX2_isTable, .initialized RX2, .code yX2_isTable cX2_isTable 1 (some .boolean), .methodLink RX2 47 yX2_isIn, .static yX2_isIn, .code yX2_isIn cX2_isIn 3 (some .boolean)] ++ wsX20)
def wsX2_most : List Cond := .code yX2_most cX2_most 3 (some .int) :: ([.fieldLink RX2 37 "CountLearnerModel" "far" "[I"] ++ wsX20)
def wsX2_binds : List Cond := .code yX2_binds cX2_binds 7 none :: ([.fieldLink RX2 37 "CountLearnerModel" "far" "[I", .methodLink RX2 57 Lib.Math.min.name, .static Lib.Math.min.name, .initialized "java/lang/Math", .code Lib.Math.min.name Lib.Math.min.code 2 (some .int), .methodLink RX2 74 yX2_most, .instanceMethod yX2_most, .selects RX2 yX2_most yX2_most, .initialized RX2, .code yX2_most cX2_most 3 (some .int)] ++ wsX20)
def wsX2_closes_r1 : List Cond := [Cond.fieldLink RX2 40 "CountLearnerModel" "closed" "I", Cond.fieldLink RX2 37 "CountLearnerModel" "far" "[I", Cond.fieldLink RX2 7 "CountLearnerModel" "rows" "[I", Cond.fieldLink RX2 13 "CountLearnerModel" "sights" "[I", Cond.fieldLink RX2 16 "CountLearnerModel" "room" "[I", Cond.fieldLink RX2 31 "CountLearnerModel" "state" "[I", Cond.fieldLink RX2 25 "CountLearnerModel" "least" "[I", Cond.fieldLink RX2 22 "CountLearnerModel" "to" "[I", Cond.fieldLink RX2 19 "CountLearnerModel" "from" "[I", Cond.methodLink RX2 63 Lib.Math.max.name, Cond.static Lib.Math.max.name, Cond.initialized "java/lang/Math", Cond.code Lib.Math.max.name Lib.Math.max.code 2 (some .int), Cond.fieldLink RX2 28 "CountLearnerModel" "greatest" "[I", Cond.methodLink RX2 57 Lib.Math.min.name, Cond.static Lib.Math.min.name, Cond.code Lib.Math.min.name Lib.Math.min.code 2 (some .int), Cond.methodLink RX2 74 yX2_most, Cond.instanceMethod yX2_most, Cond.selects RX2 yX2_most yX2_most, Cond.initialized RX2, Cond.code yX2_most cX2_most 3 (some .int), Cond.methodLink RX2 77 yX2_binds, Cond.instanceMethod yX2_binds]
def wsX2_closes_r2 : List Cond := [Cond.selects RX2 yX2_binds yX2_binds, Cond.code yX2_binds cX2_binds 7 none]
def wsX2_closes : List Cond := .code yX2_closes cX2_closes 6 none :: ((wsX2_closes_r1 ++ wsX2_closes_r2) ++ wsX20)
def wsX2_sightOf_r1 : List Cond := [Cond.fieldLink RX2 13 "CountLearnerModel" "sights" "[I", Cond.fieldLink RX2 19 "CountLearnerModel" "from" "[I", Cond.fieldLink RX2 22 "CountLearnerModel" "to" "[I", Cond.fieldLink RX2 25 "CountLearnerModel" "least" "[I", Cond.fieldLink RX2 28 "CountLearnerModel" "greatest" "[I", Cond.fieldLink RX2 31 "CountLearnerModel" "state" "[I", Cond.methodLink RX2 51 yX2_isTable, Cond.static yX2_isTable, Cond.initialized RX2, Cond.code yX2_isTable cX2_isTable 1 (some .boolean), Cond.methodLink RX2 47 yX2_isIn, Cond.static yX2_isIn, Cond.code yX2_isIn cX2_isIn 3 (some .boolean), Cond.methodLink RX2 81 yX2_closes, Cond.instanceMethod yX2_closes, Cond.selects RX2 yX2_closes yX2_closes, Cond.code yX2_closes cX2_closes 6 none, Cond.fieldLink RX2 40 "CountLearnerModel" "closed" "I", Cond.fieldLink RX2 37 "CountLearnerModel" "far" "[I", Cond.fieldLink RX2 7 "CountLearnerModel" "rows" "[I", Cond.fieldLink RX2 16 "CountLearnerModel" "room" "[I", Cond.methodLink RX2 63 Lib.Math.max.name, Cond.static Lib.Math.max.name, Cond.initialized "java/lang/Math"]
def wsX2_sightOf_r2 : List Cond := [Cond.code Lib.Math.max.name Lib.Math.max.code 2 (some .int), Cond.methodLink RX2 57 Lib.Math.min.name, Cond.static Lib.Math.min.name, Cond.code Lib.Math.min.name Lib.Math.min.code 2 (some .int), Cond.methodLink RX2 74 yX2_most, Cond.instanceMethod yX2_most, Cond.selects RX2 yX2_most yX2_most, Cond.code yX2_most cX2_most 3 (some .int), Cond.methodLink RX2 77 yX2_binds, Cond.instanceMethod yX2_binds, Cond.selects RX2 yX2_binds yX2_binds, Cond.code yX2_binds cX2_binds 7 none]
def wsX2_sightOf : List Cond := .code yX2_sightOf cX2_sightOf 5 (some .int) :: ((wsX2_sightOf_r1 ++ wsX2_sightOf_r2) ++ wsX20)
def wsX2_least_r1 : List Cond := [Cond.methodLink RX2 51 yX2_isTable, Cond.static yX2_isTable, Cond.initialized RX2, Cond.code yX2_isTable cX2_isTable 1 (some .boolean), Cond.methodLink RX2 47 yX2_isIn, Cond.static yX2_isIn, Cond.code yX2_isIn cX2_isIn 3 (some .boolean), Cond.methodLink RX2 66 yX2_isSpan, Cond.static yX2_isSpan, Cond.code yX2_isSpan cX2_isSpan 2 (some .boolean), Cond.methodLink RX2 81 yX2_closes, Cond.instanceMethod yX2_closes, Cond.selects RX2 yX2_closes yX2_closes, Cond.code yX2_closes cX2_closes 6 none, Cond.fieldLink RX2 40 "CountLearnerModel" "closed" "I", Cond.fieldLink RX2 37 "CountLearnerModel" "far" "[I", Cond.fieldLink RX2 7 "CountLearnerModel" "rows" "[I", Cond.fieldLink RX2 13 "CountLearnerModel" "sights" "[I", Cond.fieldLink RX2 16 "CountLearnerModel" "room" "[I", Cond.fieldLink RX2 31 "CountLearnerModel" "state" "[I", Cond.fieldLink RX2 25 "CountLearnerModel" "least" "[I", Cond.fieldLink RX2 22 "CountLearnerModel" "to" "[I", Cond.fieldLink RX2 19 "CountLearnerModel" "from" "[I", Cond.methodLink RX2 63 Lib.Math.max.name]
def wsX2_least_r2 : List Cond := [Cond.static Lib.Math.max.name, Cond.initialized "java/lang/Math", Cond.code Lib.Math.max.name Lib.Math.max.code 2 (some .int), Cond.fieldLink RX2 28 "CountLearnerModel" "greatest" "[I", Cond.methodLink RX2 57 Lib.Math.min.name, Cond.static Lib.Math.min.name, Cond.code Lib.Math.min.name Lib.Math.min.code 2 (some .int), Cond.methodLink RX2 74 yX2_most, Cond.instanceMethod yX2_most, Cond.selects RX2 yX2_most yX2_most, Cond.code yX2_most cX2_most 3 (some .int), Cond.methodLink RX2 77 yX2_binds, Cond.instanceMethod yX2_binds, Cond.selects RX2 yX2_binds yX2_binds, Cond.code yX2_binds cX2_binds 7 none]
def wsX2_least : List Cond := .code yX2_least cX2_least 4 (some .int) :: ((wsX2_least_r1 ++ wsX2_least_r2) ++ wsX20)
def wsX2_greatest_r1 : List Cond := [Cond.methodLink RX2 51 yX2_isTable, Cond.static yX2_isTable, Cond.initialized RX2, Cond.code yX2_isTable cX2_isTable 1 (some .boolean), Cond.methodLink RX2 47 yX2_isIn, Cond.static yX2_isIn, Cond.code yX2_isIn cX2_isIn 3 (some .boolean), Cond.methodLink RX2 66 yX2_isSpan, Cond.static yX2_isSpan, Cond.code yX2_isSpan cX2_isSpan 2 (some .boolean), Cond.methodLink RX2 81 yX2_closes, Cond.instanceMethod yX2_closes, Cond.selects RX2 yX2_closes yX2_closes, Cond.code yX2_closes cX2_closes 6 none, Cond.fieldLink RX2 40 "CountLearnerModel" "closed" "I", Cond.fieldLink RX2 37 "CountLearnerModel" "far" "[I", Cond.fieldLink RX2 7 "CountLearnerModel" "rows" "[I", Cond.fieldLink RX2 13 "CountLearnerModel" "sights" "[I", Cond.fieldLink RX2 16 "CountLearnerModel" "room" "[I", Cond.fieldLink RX2 31 "CountLearnerModel" "state" "[I", Cond.fieldLink RX2 25 "CountLearnerModel" "least" "[I", Cond.fieldLink RX2 22 "CountLearnerModel" "to" "[I", Cond.fieldLink RX2 19 "CountLearnerModel" "from" "[I", Cond.methodLink RX2 63 Lib.Math.max.name]
def wsX2_greatest_r2 : List Cond := [Cond.static Lib.Math.max.name, Cond.initialized "java/lang/Math", Cond.code Lib.Math.max.name Lib.Math.max.code 2 (some .int), Cond.fieldLink RX2 28 "CountLearnerModel" "greatest" "[I", Cond.methodLink RX2 57 Lib.Math.min.name, Cond.static Lib.Math.min.name, Cond.code Lib.Math.min.name Lib.Math.min.code 2 (some .int), Cond.methodLink RX2 74 yX2_most, Cond.instanceMethod yX2_most, Cond.selects RX2 yX2_most yX2_most, Cond.code yX2_most cX2_most 3 (some .int), Cond.methodLink RX2 77 yX2_binds, Cond.instanceMethod yX2_binds, Cond.selects RX2 yX2_binds yX2_binds, Cond.code yX2_binds cX2_binds 7 none]
def wsX2_greatest : List Cond := .code yX2_greatest cX2_greatest 4 (some .int) :: ((wsX2_greatest_r1 ++ wsX2_greatest_r2) ++ wsX20)
def wsX2_guesses_r1 : List Cond := [Cond.fieldLink RX2 44 "CountLearnerModel" "below" "[I", Cond.fieldLink RX2 7 "CountLearnerModel" "rows" "[I", Cond.methodLink RX2 63 Lib.Math.max.name, Cond.static Lib.Math.max.name, Cond.initialized "java/lang/Math", Cond.code Lib.Math.max.name Lib.Math.max.code 2 (some .int), Cond.methodLink RX2 57 Lib.Math.min.name, Cond.static Lib.Math.min.name, Cond.code Lib.Math.min.name Lib.Math.min.code 2 (some .int), Cond.methodLink RX2 81 yX2_closes, Cond.instanceMethod yX2_closes, Cond.selects RX2 yX2_closes yX2_closes, Cond.initialized RX2, Cond.code yX2_closes cX2_closes 6 none, Cond.fieldLink RX2 40 "CountLearnerModel" "closed" "I", Cond.fieldLink RX2 37 "CountLearnerModel" "far" "[I", Cond.fieldLink RX2 13 "CountLearnerModel" "sights" "[I", Cond.fieldLink RX2 16 "CountLearnerModel" "room" "[I", Cond.fieldLink RX2 31 "CountLearnerModel" "state" "[I", Cond.fieldLink RX2 25 "CountLearnerModel" "least" "[I", Cond.fieldLink RX2 22 "CountLearnerModel" "to" "[I", Cond.fieldLink RX2 19 "CountLearnerModel" "from" "[I", Cond.fieldLink RX2 28 "CountLearnerModel" "greatest" "[I", Cond.methodLink RX2 74 yX2_most]
def wsX2_guesses_r2 : List Cond := [Cond.instanceMethod yX2_most, Cond.selects RX2 yX2_most yX2_most, Cond.code yX2_most cX2_most 3 (some .int), Cond.methodLink RX2 77 yX2_binds, Cond.instanceMethod yX2_binds, Cond.selects RX2 yX2_binds yX2_binds, Cond.code yX2_binds cX2_binds 7 none]
def wsX2_guesses : List Cond := .code yX2_guesses cX2_guesses 7 none :: ((wsX2_guesses_r1 ++ wsX2_guesses_r2) ++ wsX20)
def wsX2_guessOf : List Cond := .code yX2_guessOf cX2_guessOf 3 (some .long) :: ([.fieldLink RX2 44 "CountLearnerModel" "below" "[I"] ++ wsX20)
def wsX2_guess_r1 : List Cond := [Cond.fieldLink RX2 44 "CountLearnerModel" "below" "[I", Cond.methodLink RX2 51 yX2_isTable, Cond.static yX2_isTable, Cond.initialized RX2, Cond.code yX2_isTable cX2_isTable 1 (some .boolean), Cond.methodLink RX2 47 yX2_isIn, Cond.static yX2_isIn, Cond.code yX2_isIn cX2_isIn 3 (some .boolean), Cond.methodLink RX2 66 yX2_isSpan, Cond.static yX2_isSpan, Cond.code yX2_isSpan cX2_isSpan 2 (some .boolean), Cond.methodLink RX2 85 yX2_guesses, Cond.instanceMethod yX2_guesses, Cond.selects RX2 yX2_guesses yX2_guesses, Cond.code yX2_guesses cX2_guesses 7 none, Cond.fieldLink RX2 7 "CountLearnerModel" "rows" "[I", Cond.methodLink RX2 63 Lib.Math.max.name, Cond.static Lib.Math.max.name, Cond.initialized "java/lang/Math", Cond.code Lib.Math.max.name Lib.Math.max.code 2 (some .int), Cond.methodLink RX2 57 Lib.Math.min.name, Cond.static Lib.Math.min.name, Cond.code Lib.Math.min.name Lib.Math.min.code 2 (some .int), Cond.methodLink RX2 81 yX2_closes]
def wsX2_guess_r2 : List Cond := [Cond.instanceMethod yX2_closes, Cond.selects RX2 yX2_closes yX2_closes, Cond.code yX2_closes cX2_closes 6 none, Cond.fieldLink RX2 40 "CountLearnerModel" "closed" "I", Cond.fieldLink RX2 37 "CountLearnerModel" "far" "[I", Cond.fieldLink RX2 13 "CountLearnerModel" "sights" "[I", Cond.fieldLink RX2 16 "CountLearnerModel" "room" "[I", Cond.fieldLink RX2 31 "CountLearnerModel" "state" "[I", Cond.fieldLink RX2 25 "CountLearnerModel" "least" "[I", Cond.fieldLink RX2 22 "CountLearnerModel" "to" "[I", Cond.fieldLink RX2 19 "CountLearnerModel" "from" "[I", Cond.fieldLink RX2 28 "CountLearnerModel" "greatest" "[I", Cond.methodLink RX2 74 yX2_most, Cond.instanceMethod yX2_most, Cond.selects RX2 yX2_most yX2_most, Cond.code yX2_most cX2_most 3 (some .int), Cond.methodLink RX2 77 yX2_binds, Cond.instanceMethod yX2_binds, Cond.selects RX2 yX2_binds yX2_binds, Cond.code yX2_binds cX2_binds 7 none]
def wsX2_guess : List Cond := .code yX2_guess cX2_guess 4 (some .int) :: ((wsX2_guess_r1 ++ wsX2_guess_r2) ++ wsX20)
def wsX2_join_r1 : List Cond := [Cond.constantLong RX2 88 (-1), Cond.methodLink RX2 51 yX2_isTable, Cond.static yX2_isTable, Cond.initialized RX2, Cond.code yX2_isTable cX2_isTable 1 (some .boolean), Cond.methodLink RX2 47 yX2_isIn, Cond.static yX2_isIn, Cond.code yX2_isIn cX2_isIn 3 (some .boolean), Cond.methodLink RX2 66 yX2_isSpan, Cond.static yX2_isSpan, Cond.code yX2_isSpan cX2_isSpan 2 (some .boolean), Cond.methodLink RX2 85 yX2_guesses, Cond.instanceMethod yX2_guesses, Cond.selects RX2 yX2_guesses yX2_guesses, Cond.code yX2_guesses cX2_guesses 7 none, Cond.fieldLink RX2 44 "CountLearnerModel" "below" "[I", Cond.fieldLink RX2 7 "CountLearnerModel" "rows" "[I", Cond.methodLink RX2 63 Lib.Math.max.name, Cond.static Lib.Math.max.name, Cond.initialized "java/lang/Math", Cond.code Lib.Math.max.name Lib.Math.max.code 2 (some .int), Cond.methodLink RX2 57 Lib.Math.min.name, Cond.static Lib.Math.min.name, Cond.code Lib.Math.min.name Lib.Math.min.code 2 (some .int)]
def wsX2_join_r2 : List Cond := [Cond.methodLink RX2 81 yX2_closes, Cond.instanceMethod yX2_closes, Cond.selects RX2 yX2_closes yX2_closes, Cond.code yX2_closes cX2_closes 6 none, Cond.fieldLink RX2 40 "CountLearnerModel" "closed" "I", Cond.fieldLink RX2 37 "CountLearnerModel" "far" "[I", Cond.fieldLink RX2 13 "CountLearnerModel" "sights" "[I", Cond.fieldLink RX2 16 "CountLearnerModel" "room" "[I", Cond.fieldLink RX2 31 "CountLearnerModel" "state" "[I", Cond.fieldLink RX2 25 "CountLearnerModel" "least" "[I", Cond.fieldLink RX2 22 "CountLearnerModel" "to" "[I", Cond.fieldLink RX2 19 "CountLearnerModel" "from" "[I", Cond.fieldLink RX2 28 "CountLearnerModel" "greatest" "[I", Cond.methodLink RX2 74 yX2_most, Cond.instanceMethod yX2_most, Cond.selects RX2 yX2_most yX2_most, Cond.code yX2_most cX2_most 3 (some .int), Cond.methodLink RX2 77 yX2_binds, Cond.instanceMethod yX2_binds, Cond.selects RX2 yX2_binds yX2_binds, Cond.code yX2_binds cX2_binds 7 none, Cond.methodLink RX2 90 yX2_guessOf, Cond.instanceMethod yX2_guessOf, Cond.selects RX2 yX2_guessOf yX2_guessOf]
def wsX2_join_r3 : List Cond := [Cond.code yX2_guessOf cX2_guessOf 3 (some .long)]
def wsX2_join : List Cond := .code yX2_join cX2_join 8 (some .long) :: ((wsX2_join_r1 ++ (wsX2_join_r2 ++ wsX2_join_r3)) ++ wsX20)
def wsX2_truth : List Cond := .code yX2_truth cX2_truth 4 (some .boolean) :: ([.constant RX2 94 (100000), .fieldLink RX2 34 "CountLearnerModel" "truth" "[I", .methodLink RX2 51 yX2_isTable, .static yX2_isTable, .initialized RX2, .code yX2_isTable cX2_isTable 1 (some .boolean), .methodLink RX2 47 yX2_isIn, .static yX2_isIn, .code yX2_isIn cX2_isIn 3 (some .boolean)] ++ wsX20)
def wsX2_trueIn : List Cond := .code yX2_trueIn cX2_trueIn 7 (some .long) :: ([.fieldLink RX2 34 "CountLearnerModel" "truth" "[I"] ++ wsX20)
def wsX2_agrees_r1 : List Cond := [Cond.fieldLink RX2 7 "CountLearnerModel" "rows" "[I", Cond.fieldLink RX2 13 "CountLearnerModel" "sights" "[I", Cond.fieldLink RX2 19 "CountLearnerModel" "from" "[I", Cond.fieldLink RX2 22 "CountLearnerModel" "to" "[I", Cond.fieldLink RX2 31 "CountLearnerModel" "state" "[I", Cond.fieldLink RX2 25 "CountLearnerModel" "least" "[I", Cond.fieldLink RX2 28 "CountLearnerModel" "greatest" "[I", Cond.constant RX2 56 (1000001), Cond.methodLink RX2 51 yX2_isTable, Cond.static yX2_isTable, Cond.initialized RX2, Cond.code yX2_isTable cX2_isTable 1 (some .boolean), Cond.methodLink RX2 47 yX2_isIn, Cond.static yX2_isIn, Cond.code yX2_isIn cX2_isIn 3 (some .boolean), Cond.methodLink RX2 81 yX2_closes, Cond.instanceMethod yX2_closes, Cond.selects RX2 yX2_closes yX2_closes, Cond.code yX2_closes cX2_closes 6 none, Cond.fieldLink RX2 40 "CountLearnerModel" "closed" "I", Cond.fieldLink RX2 37 "CountLearnerModel" "far" "[I", Cond.fieldLink RX2 16 "CountLearnerModel" "room" "[I", Cond.methodLink RX2 63 Lib.Math.max.name, Cond.static Lib.Math.max.name]
def wsX2_agrees_r2 : List Cond := [Cond.initialized "java/lang/Math", Cond.code Lib.Math.max.name Lib.Math.max.code 2 (some .int), Cond.methodLink RX2 57 Lib.Math.min.name, Cond.static Lib.Math.min.name, Cond.code Lib.Math.min.name Lib.Math.min.code 2 (some .int), Cond.methodLink RX2 74 yX2_most, Cond.instanceMethod yX2_most, Cond.selects RX2 yX2_most yX2_most, Cond.code yX2_most cX2_most 3 (some .int), Cond.methodLink RX2 77 yX2_binds, Cond.instanceMethod yX2_binds, Cond.selects RX2 yX2_binds yX2_binds, Cond.code yX2_binds cX2_binds 7 none, Cond.methodLink RX2 95 yX2_trueIn, Cond.instanceMethod yX2_trueIn, Cond.selects RX2 yX2_trueIn yX2_trueIn, Cond.code yX2_trueIn cX2_trueIn 7 (some .long), Cond.fieldLink RX2 34 "CountLearnerModel" "truth" "[I"]
def wsX2_agrees : List Cond := .code yX2_agrees cX2_agrees 6 (some .int) :: ((wsX2_agrees_r1 ++ wsX2_agrees_r2) ++ wsX20)
def wsX2_rowsOf : List Cond := .code yX2_rowsOf cX2_rowsOf 4 (some .long) :: ([.fieldLink RX2 34 "CountLearnerModel" "truth" "[I", .methodLink RX2 90 yX2_guessOf, .instanceMethod yX2_guessOf, .selects RX2 yX2_guessOf yX2_guessOf, .initialized RX2, .code yX2_guessOf cX2_guessOf 3 (some .long), .fieldLink RX2 44 "CountLearnerModel" "below" "[I"] ++ wsX20)
def wsX2_costOf : List Cond := .code yX2_costOf cX2_costOf 11 (some .long) :: ([.methodLink RX2 99 yX2_rowsOf, .instanceMethod yX2_rowsOf, .selects RX2 yX2_rowsOf yX2_rowsOf, .initialized RX2, .code yX2_rowsOf cX2_rowsOf 4 (some .long), .fieldLink RX2 34 "CountLearnerModel" "truth" "[I", .methodLink RX2 90 yX2_guessOf, .instanceMethod yX2_guessOf, .selects RX2 yX2_guessOf yX2_guessOf, .code yX2_guessOf cX2_guessOf 3 (some .long), .fieldLink RX2 44 "CountLearnerModel" "below" "[I"] ++ wsX20)
def wsX2_allGuesses_r1 : List Cond := [Cond.methodLink RX2 85 yX2_guesses, Cond.instanceMethod yX2_guesses, Cond.selects RX2 yX2_guesses yX2_guesses, Cond.initialized RX2, Cond.code yX2_guesses cX2_guesses 7 none, Cond.fieldLink RX2 44 "CountLearnerModel" "below" "[I", Cond.fieldLink RX2 7 "CountLearnerModel" "rows" "[I", Cond.methodLink RX2 63 Lib.Math.max.name, Cond.static Lib.Math.max.name, Cond.initialized "java/lang/Math", Cond.code Lib.Math.max.name Lib.Math.max.code 2 (some .int), Cond.methodLink RX2 57 Lib.Math.min.name, Cond.static Lib.Math.min.name, Cond.code Lib.Math.min.name Lib.Math.min.code 2 (some .int), Cond.methodLink RX2 81 yX2_closes, Cond.instanceMethod yX2_closes, Cond.selects RX2 yX2_closes yX2_closes, Cond.code yX2_closes cX2_closes 6 none, Cond.fieldLink RX2 40 "CountLearnerModel" "closed" "I", Cond.fieldLink RX2 37 "CountLearnerModel" "far" "[I", Cond.fieldLink RX2 13 "CountLearnerModel" "sights" "[I", Cond.fieldLink RX2 16 "CountLearnerModel" "room" "[I", Cond.fieldLink RX2 31 "CountLearnerModel" "state" "[I", Cond.fieldLink RX2 25 "CountLearnerModel" "least" "[I"]
def wsX2_allGuesses_r2 : List Cond := [Cond.fieldLink RX2 22 "CountLearnerModel" "to" "[I", Cond.fieldLink RX2 19 "CountLearnerModel" "from" "[I", Cond.fieldLink RX2 28 "CountLearnerModel" "greatest" "[I", Cond.methodLink RX2 74 yX2_most, Cond.instanceMethod yX2_most, Cond.selects RX2 yX2_most yX2_most, Cond.code yX2_most cX2_most 3 (some .int), Cond.methodLink RX2 77 yX2_binds, Cond.instanceMethod yX2_binds, Cond.selects RX2 yX2_binds yX2_binds, Cond.code yX2_binds cX2_binds 7 none]
def wsX2_allGuesses : List Cond := .code yX2_allGuesses cX2_allGuesses 2 none :: ((wsX2_allGuesses_r1 ++ wsX2_allGuesses_r2) ++ wsX20)
def wsX2_cost_r1 : List Cond := [Cond.constantLong RX2 88 (-1), Cond.methodLink RX2 47 yX2_isIn, Cond.static yX2_isIn, Cond.initialized RX2, Cond.code yX2_isIn cX2_isIn 3 (some .boolean), Cond.methodLink RX2 103 yX2_allGuesses, Cond.instanceMethod yX2_allGuesses, Cond.selects RX2 yX2_allGuesses yX2_allGuesses, Cond.code yX2_allGuesses cX2_allGuesses 2 none, Cond.methodLink RX2 85 yX2_guesses, Cond.instanceMethod yX2_guesses, Cond.selects RX2 yX2_guesses yX2_guesses, Cond.code yX2_guesses cX2_guesses 7 none, Cond.fieldLink RX2 44 "CountLearnerModel" "below" "[I", Cond.fieldLink RX2 7 "CountLearnerModel" "rows" "[I", Cond.methodLink RX2 63 Lib.Math.max.name, Cond.static Lib.Math.max.name, Cond.initialized "java/lang/Math", Cond.code Lib.Math.max.name Lib.Math.max.code 2 (some .int), Cond.methodLink RX2 57 Lib.Math.min.name, Cond.static Lib.Math.min.name, Cond.code Lib.Math.min.name Lib.Math.min.code 2 (some .int), Cond.methodLink RX2 81 yX2_closes, Cond.instanceMethod yX2_closes]
def wsX2_cost_r2 : List Cond := [Cond.selects RX2 yX2_closes yX2_closes, Cond.code yX2_closes cX2_closes 6 none, Cond.fieldLink RX2 40 "CountLearnerModel" "closed" "I", Cond.fieldLink RX2 37 "CountLearnerModel" "far" "[I", Cond.fieldLink RX2 13 "CountLearnerModel" "sights" "[I", Cond.fieldLink RX2 16 "CountLearnerModel" "room" "[I", Cond.fieldLink RX2 31 "CountLearnerModel" "state" "[I", Cond.fieldLink RX2 25 "CountLearnerModel" "least" "[I", Cond.fieldLink RX2 22 "CountLearnerModel" "to" "[I", Cond.fieldLink RX2 19 "CountLearnerModel" "from" "[I", Cond.fieldLink RX2 28 "CountLearnerModel" "greatest" "[I", Cond.methodLink RX2 74 yX2_most, Cond.instanceMethod yX2_most, Cond.selects RX2 yX2_most yX2_most, Cond.code yX2_most cX2_most 3 (some .int), Cond.methodLink RX2 77 yX2_binds, Cond.instanceMethod yX2_binds, Cond.selects RX2 yX2_binds yX2_binds, Cond.code yX2_binds cX2_binds 7 none, Cond.methodLink RX2 106 yX2_costOf, Cond.instanceMethod yX2_costOf, Cond.selects RX2 yX2_costOf yX2_costOf, Cond.code yX2_costOf cX2_costOf 11 (some .long), Cond.methodLink RX2 99 yX2_rowsOf]
def wsX2_cost_r3 : List Cond := [Cond.instanceMethod yX2_rowsOf, Cond.selects RX2 yX2_rowsOf yX2_rowsOf, Cond.code yX2_rowsOf cX2_rowsOf 4 (some .long), Cond.fieldLink RX2 34 "CountLearnerModel" "truth" "[I", Cond.methodLink RX2 90 yX2_guessOf, Cond.instanceMethod yX2_guessOf, Cond.selects RX2 yX2_guessOf yX2_guessOf, Cond.code yX2_guessOf cX2_guessOf 3 (some .long)]
def wsX2_cost : List Cond := .code yX2_cost cX2_cost 3 (some .long) :: ((wsX2_cost_r1 ++ (wsX2_cost_r2 ++ wsX2_cost_r3)) ++ wsX20)
def wsX2_plan_r1 : List Cond := [Cond.methodLink RX2 103 yX2_allGuesses, Cond.instanceMethod yX2_allGuesses, Cond.selects RX2 yX2_allGuesses yX2_allGuesses, Cond.initialized RX2, Cond.code yX2_allGuesses cX2_allGuesses 2 none, Cond.methodLink RX2 85 yX2_guesses, Cond.instanceMethod yX2_guesses, Cond.selects RX2 yX2_guesses yX2_guesses, Cond.code yX2_guesses cX2_guesses 7 none, Cond.fieldLink RX2 44 "CountLearnerModel" "below" "[I", Cond.fieldLink RX2 7 "CountLearnerModel" "rows" "[I", Cond.methodLink RX2 63 Lib.Math.max.name, Cond.static Lib.Math.max.name, Cond.initialized "java/lang/Math", Cond.code Lib.Math.max.name Lib.Math.max.code 2 (some .int), Cond.methodLink RX2 57 Lib.Math.min.name, Cond.static Lib.Math.min.name, Cond.code Lib.Math.min.name Lib.Math.min.code 2 (some .int), Cond.methodLink RX2 81 yX2_closes, Cond.instanceMethod yX2_closes, Cond.selects RX2 yX2_closes yX2_closes, Cond.code yX2_closes cX2_closes 6 none, Cond.fieldLink RX2 40 "CountLearnerModel" "closed" "I", Cond.fieldLink RX2 37 "CountLearnerModel" "far" "[I"]
def wsX2_plan_r2 : List Cond := [Cond.fieldLink RX2 13 "CountLearnerModel" "sights" "[I", Cond.fieldLink RX2 16 "CountLearnerModel" "room" "[I", Cond.fieldLink RX2 31 "CountLearnerModel" "state" "[I", Cond.fieldLink RX2 25 "CountLearnerModel" "least" "[I", Cond.fieldLink RX2 22 "CountLearnerModel" "to" "[I", Cond.fieldLink RX2 19 "CountLearnerModel" "from" "[I", Cond.fieldLink RX2 28 "CountLearnerModel" "greatest" "[I", Cond.methodLink RX2 74 yX2_most, Cond.instanceMethod yX2_most, Cond.selects RX2 yX2_most yX2_most, Cond.code yX2_most cX2_most 3 (some .int), Cond.methodLink RX2 77 yX2_binds, Cond.instanceMethod yX2_binds, Cond.selects RX2 yX2_binds yX2_binds, Cond.code yX2_binds cX2_binds 7 none, Cond.methodLink RX2 106 yX2_costOf, Cond.instanceMethod yX2_costOf, Cond.selects RX2 yX2_costOf yX2_costOf, Cond.code yX2_costOf cX2_costOf 11 (some .long), Cond.methodLink RX2 99 yX2_rowsOf, Cond.instanceMethod yX2_rowsOf, Cond.selects RX2 yX2_rowsOf yX2_rowsOf, Cond.code yX2_rowsOf cX2_rowsOf 4 (some .long), Cond.fieldLink RX2 34 "CountLearnerModel" "truth" "[I"]
def wsX2_plan_r3 : List Cond := [Cond.methodLink RX2 90 yX2_guessOf, Cond.instanceMethod yX2_guessOf, Cond.selects RX2 yX2_guessOf yX2_guessOf, Cond.code yX2_guessOf cX2_guessOf 3 (some .long)]
def wsX2_plan : List Cond := .code yX2_plan cX2_plan 4 (some .int) :: ((wsX2_plan_r1 ++ (wsX2_plan_r2 ++ wsX2_plan_r3)) ++ wsX20)
def wsX2_lost_r1 : List Cond := [Cond.methodLink RX2 110 yX2_plan, Cond.instanceMethod yX2_plan, Cond.selects RX2 yX2_plan yX2_plan, Cond.initialized RX2, Cond.code yX2_plan cX2_plan 4 (some .int), Cond.methodLink RX2 103 yX2_allGuesses, Cond.instanceMethod yX2_allGuesses, Cond.selects RX2 yX2_allGuesses yX2_allGuesses, Cond.code yX2_allGuesses cX2_allGuesses 2 none, Cond.methodLink RX2 85 yX2_guesses, Cond.instanceMethod yX2_guesses, Cond.selects RX2 yX2_guesses yX2_guesses, Cond.code yX2_guesses cX2_guesses 7 none, Cond.fieldLink RX2 44 "CountLearnerModel" "below" "[I", Cond.fieldLink RX2 7 "CountLearnerModel" "rows" "[I", Cond.methodLink RX2 63 Lib.Math.max.name, Cond.static Lib.Math.max.name, Cond.initialized "java/lang/Math", Cond.code Lib.Math.max.name Lib.Math.max.code 2 (some .int), Cond.methodLink RX2 57 Lib.Math.min.name, Cond.static Lib.Math.min.name, Cond.code Lib.Math.min.name Lib.Math.min.code 2 (some .int), Cond.methodLink RX2 81 yX2_closes, Cond.instanceMethod yX2_closes]
def wsX2_lost_r2 : List Cond := [Cond.selects RX2 yX2_closes yX2_closes, Cond.code yX2_closes cX2_closes 6 none, Cond.fieldLink RX2 40 "CountLearnerModel" "closed" "I", Cond.fieldLink RX2 37 "CountLearnerModel" "far" "[I", Cond.fieldLink RX2 13 "CountLearnerModel" "sights" "[I", Cond.fieldLink RX2 16 "CountLearnerModel" "room" "[I", Cond.fieldLink RX2 31 "CountLearnerModel" "state" "[I", Cond.fieldLink RX2 25 "CountLearnerModel" "least" "[I", Cond.fieldLink RX2 22 "CountLearnerModel" "to" "[I", Cond.fieldLink RX2 19 "CountLearnerModel" "from" "[I", Cond.fieldLink RX2 28 "CountLearnerModel" "greatest" "[I", Cond.methodLink RX2 74 yX2_most, Cond.instanceMethod yX2_most, Cond.selects RX2 yX2_most yX2_most, Cond.code yX2_most cX2_most 3 (some .int), Cond.methodLink RX2 77 yX2_binds, Cond.instanceMethod yX2_binds, Cond.selects RX2 yX2_binds yX2_binds, Cond.code yX2_binds cX2_binds 7 none, Cond.methodLink RX2 106 yX2_costOf, Cond.instanceMethod yX2_costOf, Cond.selects RX2 yX2_costOf yX2_costOf, Cond.code yX2_costOf cX2_costOf 11 (some .long), Cond.methodLink RX2 99 yX2_rowsOf]
def wsX2_lost_r3 : List Cond := [Cond.instanceMethod yX2_rowsOf, Cond.selects RX2 yX2_rowsOf yX2_rowsOf, Cond.code yX2_rowsOf cX2_rowsOf 4 (some .long), Cond.fieldLink RX2 34 "CountLearnerModel" "truth" "[I", Cond.methodLink RX2 90 yX2_guessOf, Cond.instanceMethod yX2_guessOf, Cond.selects RX2 yX2_guessOf yX2_guessOf, Cond.code yX2_guessOf cX2_guessOf 3 (some .long)]
def wsX2_lost : List Cond := .code yX2_lost cX2_lost 3 (some .long) :: ((wsX2_lost_r1 ++ (wsX2_lost_r2 ++ wsX2_lost_r3)) ++ wsX20)
def wsX2_many_r1 : List Cond := [Cond.fieldLink RX2 13 "CountLearnerModel" "sights" "[I", Cond.fieldLink RX2 31 "CountLearnerModel" "state" "[I", Cond.methodLink RX2 81 yX2_closes, Cond.instanceMethod yX2_closes, Cond.selects RX2 yX2_closes yX2_closes, Cond.initialized RX2, Cond.code yX2_closes cX2_closes 6 none, Cond.fieldLink RX2 40 "CountLearnerModel" "closed" "I", Cond.fieldLink RX2 37 "CountLearnerModel" "far" "[I", Cond.fieldLink RX2 7 "CountLearnerModel" "rows" "[I", Cond.fieldLink RX2 16 "CountLearnerModel" "room" "[I", Cond.fieldLink RX2 25 "CountLearnerModel" "least" "[I", Cond.fieldLink RX2 22 "CountLearnerModel" "to" "[I", Cond.fieldLink RX2 19 "CountLearnerModel" "from" "[I", Cond.methodLink RX2 63 Lib.Math.max.name, Cond.static Lib.Math.max.name, Cond.initialized "java/lang/Math", Cond.code Lib.Math.max.name Lib.Math.max.code 2 (some .int), Cond.fieldLink RX2 28 "CountLearnerModel" "greatest" "[I", Cond.methodLink RX2 57 Lib.Math.min.name, Cond.static Lib.Math.min.name, Cond.code Lib.Math.min.name Lib.Math.min.code 2 (some .int), Cond.methodLink RX2 74 yX2_most, Cond.instanceMethod yX2_most]
def wsX2_many_r2 : List Cond := [Cond.selects RX2 yX2_most yX2_most, Cond.code yX2_most cX2_most 3 (some .int), Cond.methodLink RX2 77 yX2_binds, Cond.instanceMethod yX2_binds, Cond.selects RX2 yX2_binds yX2_binds, Cond.code yX2_binds cX2_binds 7 none]
def wsX2_many : List Cond := .code yX2_many cX2_many 5 (some .int) :: ((wsX2_many_r1 ++ wsX2_many_r2) ++ wsX20)
def wsX2_table_r1 : List Cond := [Cond.fieldLink RX2 7 "CountLearnerModel" "rows" "[I", Cond.fieldLink RX2 13 "CountLearnerModel" "sights" "[I", Cond.fieldLink RX2 16 "CountLearnerModel" "room" "[I", Cond.methodLink RX2 51 yX2_isTable, Cond.static yX2_isTable, Cond.initialized RX2, Cond.code yX2_isTable cX2_isTable 1 (some .boolean), Cond.methodLink RX2 47 yX2_isIn, Cond.static yX2_isIn, Cond.code yX2_isIn cX2_isIn 3 (some .boolean), Cond.methodLink RX2 114 yX2_many, Cond.instanceMethod yX2_many, Cond.selects RX2 yX2_many yX2_many, Cond.code yX2_many cX2_many 5 (some .int), Cond.fieldLink RX2 31 "CountLearnerModel" "state" "[I", Cond.methodLink RX2 81 yX2_closes, Cond.instanceMethod yX2_closes, Cond.selects RX2 yX2_closes yX2_closes, Cond.code yX2_closes cX2_closes 6 none, Cond.fieldLink RX2 40 "CountLearnerModel" "closed" "I", Cond.fieldLink RX2 37 "CountLearnerModel" "far" "[I", Cond.fieldLink RX2 25 "CountLearnerModel" "least" "[I", Cond.fieldLink RX2 22 "CountLearnerModel" "to" "[I", Cond.fieldLink RX2 19 "CountLearnerModel" "from" "[I"]
def wsX2_table_r2 : List Cond := [Cond.methodLink RX2 63 Lib.Math.max.name, Cond.static Lib.Math.max.name, Cond.initialized "java/lang/Math", Cond.code Lib.Math.max.name Lib.Math.max.code 2 (some .int), Cond.fieldLink RX2 28 "CountLearnerModel" "greatest" "[I", Cond.methodLink RX2 57 Lib.Math.min.name, Cond.static Lib.Math.min.name, Cond.code Lib.Math.min.name Lib.Math.min.code 2 (some .int), Cond.methodLink RX2 74 yX2_most, Cond.instanceMethod yX2_most, Cond.selects RX2 yX2_most yX2_most, Cond.code yX2_most cX2_most 3 (some .int), Cond.methodLink RX2 77 yX2_binds, Cond.instanceMethod yX2_binds, Cond.selects RX2 yX2_binds yX2_binds, Cond.code yX2_binds cX2_binds 7 none]
def wsX2_table : List Cond := .code yX2_table cX2_table 3 (some .int) :: ((wsX2_table_r1 ++ wsX2_table_r2) ++ wsX20)
def wsJ9_max_7cf53 : List Cond := .code yJ9_max_7cf53 cJ9_max_7cf53 2 (some .int) :: ([])
def wsJ9_min_7cf53 : List Cond := .code yJ9_min_7cf53 cJ9_min_7cf53 2 (some .int) :: ([])
def wsL_law_r1 : List Cond := [Cond.classLink RL 7 RX1, Cond.instantiable RX1 1, Cond.initialized RX1, Cond.classLink RL 10 RX2, Cond.instantiable RX2 12, Cond.initialized RX2, Cond.methodLink RL 9 yX1_init, Cond.instanceMethod yX1_init, Cond.code yX1_init cX1_init 2 none, Cond.methodLink RX1 3 objectInit, Cond.instanceMethod objectInit, Cond.code objectInit ⟨#[0xb1]⟩ 1 none, Cond.classLink RX1 9 RX0, Cond.fieldLink RX1 11 "CountLearner" "tables" "[LCountLearner$Table;", Cond.instantiable RX0 14, Cond.initialized RX0, Cond.instanceMethod yX0_init, Cond.code yX0_init cX0_init 1 none, Cond.methodLink RX0 3 objectInit, Cond.fieldLink RX0 9 "CountLearner$Table" "rows" "I", Cond.fieldLink RX0 15 "CountLearner$Table" "sights" "I", Cond.fieldLink RX0 18 "CountLearner$Table" "places" "I", Cond.arrayClass .int, Cond.fieldLink RX0 21 "CountLearner$Table" "from" "[I"]
def wsL_law_r2 : List Cond := [Cond.fieldLink RX0 25 "CountLearner$Table" "to" "[I", Cond.fieldLink RX0 28 "CountLearner$Table" "fewest" "[I", Cond.fieldLink RX0 31 "CountLearner$Table" "most" "[I", Cond.fieldLink RX0 34 "CountLearner$Table" "how" "[I", Cond.fieldLink RX0 37 "CountLearner$Table" "truly" "[I", Cond.fieldLink RX0 40 "CountLearner$Table" "guessed" "[I", Cond.fieldLink RX0 43 "CountLearner$Table" "lowest" "[I", Cond.fieldLink RX0 46 "CountLearner$Table" "work" "[I", Cond.fieldLink RX0 49 "CountLearner$Table" "isSettled" "Z", Cond.fieldLink RX0 53 "CountLearner$Table" "isSpread" "Z", Cond.methodLink RL 12 yX2_init, Cond.instanceMethod yX2_init, Cond.code yX2_init cX2_init 2 none, Cond.methodLink RX2 1 objectInit, Cond.fieldLink RX2 7 "CountLearnerModel" "rows" "[I", Cond.fieldLink RX2 13 "CountLearnerModel" "sights" "[I", Cond.fieldLink RX2 16 "CountLearnerModel" "room" "[I", Cond.fieldLink RX2 19 "CountLearnerModel" "from" "[I", Cond.fieldLink RX2 22 "CountLearnerModel" "to" "[I", Cond.fieldLink RX2 25 "CountLearnerModel" "least" "[I", Cond.fieldLink RX2 28 "CountLearnerModel" "greatest" "[I", Cond.fieldLink RX2 31 "CountLearnerModel" "state" "[I", Cond.fieldLink RX2 34 "CountLearnerModel" "truth" "[I", Cond.fieldLink RX2 37 "CountLearnerModel" "far" "[I"]
def wsL_law_r3 : List Cond := [Cond.fieldLink RX2 40 "CountLearnerModel" "closed" "I", Cond.fieldLink RX2 44 "CountLearnerModel" "below" "[I", Cond.methodLink RL 13 yX1_rows, Cond.instanceMethod yX1_rows, Cond.selects RX1 yX1_rows yX1_rows, Cond.code yX1_rows cX1_rows 4 (some .boolean), Cond.constant RX1 20 (1000000), Cond.methodLink RX1 16 yX1_tableAt, Cond.instanceMethod yX1_tableAt, Cond.selects RX1 yX1_tableAt yX1_tableAt, Cond.code yX1_tableAt cX1_tableAt 2 (some (.object "CountLearner$Table")), Cond.methodLink RX1 21 yX0_startAnew, Cond.instanceMethod yX0_startAnew, Cond.selects RX0 yX0_startAnew yX0_startAnew, Cond.code yX0_startAnew cX0_startAnew 2 none, Cond.methodLink RX0 56 yX0_forget, Cond.instanceMethod yX0_forget, Cond.selects RX0 yX0_forget yX0_forget, Cond.code yX0_forget cX0_forget 1 none, Cond.methodLink RL 17 yX2_rows, Cond.instanceMethod yX2_rows, Cond.selects RX2 yX2_rows yX2_rows, Cond.code yX2_rows cX2_rows 3 (some .boolean), Cond.constant RX2 55 (1000000)]
def wsL_law_r4 : List Cond := [Cond.methodLink RX2 51 yX2_isTable, Cond.static yX2_isTable, Cond.code yX2_isTable cX2_isTable 1 (some .boolean), Cond.methodLink RX2 47 yX2_isIn, Cond.static yX2_isIn, Cond.code yX2_isIn cX2_isIn 3 (some .boolean), Cond.methodLink RL 18 yX1_put, Cond.instanceMethod yX1_put, Cond.selects RX1 yX1_put yX1_put, Cond.code yX1_put cX1_put 4 (some .int), Cond.fieldLink RX1 25 "CountLearner$Table" "rows" "I", Cond.methodLink RX1 29 yX0_grow, Cond.instanceMethod yX0_grow, Cond.selects RX0 yX0_grow yX0_grow, Cond.code yX0_grow cX0_grow 3 none, Cond.constant RX0 59 (1000001), Cond.constant RX0 60 (1000000), Cond.methodLink RX0 61 Lib.Math.min.name, Cond.static Lib.Math.min.name, Cond.initialized "java/lang/Math", Cond.code Lib.Math.min.name Lib.Math.min.code 2 (some .int), Cond.methodLink RL 22 yX2_put, Cond.instanceMethod yX2_put, Cond.selects RX2 yX2_put yX2_put]
def wsL_law_r5 : List Cond := [Cond.code yX2_put cX2_put 4 (some .int), Cond.constant RX2 56 (1000001), Cond.methodLink RX2 57 Lib.Math.min.name, Cond.methodLink RL 23 yX1_strike, Cond.instanceMethod yX1_strike, Cond.selects RX1 yX1_strike yX1_strike, Cond.code yX1_strike cX1_strike 4 (some .int), Cond.methodLink RX1 32 yX0_shrink, Cond.instanceMethod yX0_shrink, Cond.selects RX0 yX0_shrink yX0_shrink, Cond.code yX0_shrink cX0_shrink 3 none, Cond.methodLink RX0 67 Lib.Math.max.name, Cond.static Lib.Math.max.name, Cond.code Lib.Math.max.name Lib.Math.max.code 2 (some .int), Cond.methodLink RL 26 yX2_strike, Cond.instanceMethod yX2_strike, Cond.selects RX2 yX2_strike yX2_strike, Cond.code yX2_strike cX2_strike 4 (some .int), Cond.methodLink RX2 63 Lib.Math.max.name, Cond.methodLink RL 27 yX1_sight, Cond.instanceMethod yX1_sight, Cond.selects RX1 yX1_sight yX1_sight, Cond.code yX1_sight cX1_sight 7 (some .int), Cond.constant RX1 39 (1000001)]
def wsL_law_r6 : List Cond := [Cond.methodLink RX1 35 yX1_isSpan, Cond.static yX1_isSpan, Cond.code yX1_isSpan cX1_isSpan 2 (some .boolean), Cond.methodLink RX1 40 yX0_addSight, Cond.instanceMethod yX0_addSight, Cond.selects RX0 yX0_addSight yX0_addSight, Cond.code yX0_addSight cX0_addSight 6 (some .int), Cond.methodLink RL 31 yX2_sight, Cond.instanceMethod yX2_sight, Cond.selects RX2 yX2_sight yX2_sight, Cond.code yX2_sight cX2_sight 7 (some .int), Cond.methodLink RX2 66 yX2_isSpan, Cond.static yX2_isSpan, Cond.code yX2_isSpan cX2_isSpan 2 (some .boolean), Cond.methodLink RL 32 yX1_begins, Cond.instanceMethod yX1_begins, Cond.selects RX1 yX1_begins yX1_begins, Cond.code yX1_begins cX1_begins 7 (some .int), Cond.methodLink RX1 44 yX1_textsOf, Cond.static yX1_textsOf, Cond.code yX1_textsOf cX1_textsOf 1 (some .int), Cond.methodLink RX1 48 yX1_sight, Cond.methodLink RL 36 yX2_begins, Cond.instanceMethod yX2_begins]
def wsL_law_r7 : List Cond := [Cond.selects RX2 yX2_begins yX2_begins, Cond.code yX2_begins cX2_begins 6 (some .int), Cond.methodLink RX2 70 yX2_sight, Cond.methodLink RL 37 yX1_room, Cond.instanceMethod yX1_room, Cond.selects RX1 yX1_room yX1_room, Cond.code yX1_room cX1_room 4 (some .boolean), Cond.methodLink RX1 52 yX0_makeRoom, Cond.instanceMethod yX0_makeRoom, Cond.selects RX0 yX0_makeRoom yX0_makeRoom, Cond.code yX0_makeRoom cX0_makeRoom 2 none, Cond.methodLink RL 40 yX2_room, Cond.instanceMethod yX2_room, Cond.selects RX2 yX2_room yX2_room, Cond.code yX2_room cX2_room 3 (some .boolean), Cond.methodLink RL 41 yX1_sightOf, Cond.instanceMethod yX1_sightOf, Cond.selects RX1 yX1_sightOf yX1_sightOf, Cond.code yX1_sightOf cX1_sightOf 5 (some .int), Cond.fieldLink RX1 55 "CountLearner$Table" "sights" "I", Cond.fieldLink RX1 58 "CountLearner$Table" "from" "[I", Cond.fieldLink RX1 62 "CountLearner$Table" "to" "[I", Cond.fieldLink RX1 65 "CountLearner$Table" "fewest" "[I", Cond.fieldLink RX1 68 "CountLearner$Table" "most" "[I"]
def wsL_law_r8 : List Cond := [Cond.fieldLink RX1 74 "CountLearner$Table" "how" "[I", Cond.methodLink RX1 71 yX0_settle, Cond.instanceMethod yX0_settle, Cond.selects RX0 yX0_settle yX0_settle, Cond.code yX0_settle cX0_settle 3 none, Cond.methodLink RX0 73 yJ7_fill_53178, Cond.static yJ7_fill_53178, Cond.initialized RJ7, Cond.code yJ7_fill_53178 cJ7_fill_53178 4 none, Cond.methodLink RX0 79 yX0_fits, Cond.instanceMethod yX0_fits, Cond.selects RX0 yX0_fits yX0_fits, Cond.code yX0_fits cX0_fits 9 (some .boolean), Cond.methodLink RX0 87 arraycopyName, Cond.native arraycopyName, Cond.static arraycopyName, Cond.initialized "java/lang/System", Cond.methodLink RX0 97 yX0_raise, Cond.static yX0_raise, Cond.code yX0_raise cX0_raise 5 (some .boolean), Cond.methodLink RX0 83 yX0_climb, Cond.instanceMethod yX0_climb, Cond.selects RX0 yX0_climb yX0_climb, Cond.code yX0_climb cX0_climb 7 (some .boolean)]
def wsL_law_r9 : List Cond := [Cond.methodLink RL 45 yX2_sightOf, Cond.instanceMethod yX2_sightOf, Cond.selects RX2 yX2_sightOf yX2_sightOf, Cond.code yX2_sightOf cX2_sightOf 5 (some .int), Cond.methodLink RX2 81 yX2_closes, Cond.instanceMethod yX2_closes, Cond.selects RX2 yX2_closes yX2_closes, Cond.code yX2_closes cX2_closes 6 none, Cond.methodLink RX2 74 yX2_most, Cond.instanceMethod yX2_most, Cond.selects RX2 yX2_most yX2_most, Cond.code yX2_most cX2_most 3 (some .int), Cond.methodLink RX2 77 yX2_binds, Cond.instanceMethod yX2_binds, Cond.selects RX2 yX2_binds yX2_binds, Cond.code yX2_binds cX2_binds 7 none, Cond.methodLink RL 46 yX1_least, Cond.instanceMethod yX1_least, Cond.selects RX1 yX1_least yX1_least, Cond.code yX1_least cX1_least 5 (some .int), Cond.methodLink RX1 77 yX0_leastStep, Cond.instanceMethod yX0_leastStep, Cond.selects RX0 yX0_leastStep yX0_leastStep, Cond.code yX0_leastStep cX0_leastStep 4 (some .int)]
def wsL_law_r10 : List Cond := [Cond.methodLink RX0 70 yX0_settle, Cond.methodLink RL 49 yX2_least, Cond.instanceMethod yX2_least, Cond.selects RX2 yX2_least yX2_least, Cond.code yX2_least cX2_least 4 (some .int), Cond.methodLink RL 50 yX1_greatest, Cond.instanceMethod yX1_greatest, Cond.selects RX1 yX1_greatest yX1_greatest, Cond.code yX1_greatest cX1_greatest 5 (some .int), Cond.methodLink RL 53 yX2_greatest, Cond.instanceMethod yX2_greatest, Cond.selects RX2 yX2_greatest yX2_greatest, Cond.code yX2_greatest cX2_greatest 4 (some .int), Cond.methodLink RL 54 yX1_guess, Cond.instanceMethod yX1_guess, Cond.selects RX1 yX1_guess yX1_guess, Cond.code yX1_guess cX1_guess 5 (some .int), Cond.fieldLink RX1 84 "CountLearner$Table" "guessed" "[I", Cond.methodLink RX1 81 yX0_spread, Cond.instanceMethod yX0_spread, Cond.selects RX0 yX0_spread yX0_spread, Cond.code yX0_spread cX0_spread 7 none, Cond.methodLink RX0 93 yX0_sink, Cond.instanceMethod yX0_sink]
def wsL_law_r11 : List Cond := [Cond.selects RX0 yX0_sink yX0_sink, Cond.code yX0_sink cX0_sink 5 none, Cond.methodLink RX0 100 yX0_lower, Cond.static yX0_lower, Cond.code yX0_lower cX0_lower 5 (some .boolean), Cond.methodLink RL 57 yX2_guess, Cond.instanceMethod yX2_guess, Cond.selects RX2 yX2_guess yX2_guess, Cond.code yX2_guess cX2_guess 4 (some .int), Cond.methodLink RX2 85 yX2_guesses, Cond.instanceMethod yX2_guesses, Cond.selects RX2 yX2_guesses yX2_guesses, Cond.code yX2_guesses cX2_guesses 7 none, Cond.methodLink RL 58 yX1_join, Cond.instanceMethod yX1_join, Cond.selects RX1 yX1_join yX1_join, Cond.code yX1_join cX1_join 10 (some .long), Cond.constantLong RX1 87 (-1), Cond.methodLink RX1 89 yX0_rowsOf, Cond.instanceMethod yX0_rowsOf, Cond.selects RX0 yX0_rowsOf yX0_rowsOf, Cond.code yX0_rowsOf cX0_rowsOf 3 (some .long), Cond.methodLink RL 62 yX2_join, Cond.instanceMethod yX2_join]
def wsL_law_r12 : List Cond := [Cond.selects RX2 yX2_join yX2_join, Cond.code yX2_join cX2_join 8 (some .long), Cond.constantLong RX2 88 (-1), Cond.methodLink RX2 90 yX2_guessOf, Cond.instanceMethod yX2_guessOf, Cond.selects RX2 yX2_guessOf yX2_guessOf, Cond.code yX2_guessOf cX2_guessOf 3 (some .long), Cond.methodLink RL 63 yX1_truth, Cond.instanceMethod yX1_truth, Cond.selects RX1 yX1_truth yX1_truth, Cond.code yX1_truth cX1_truth 5 (some .boolean), Cond.constant RX1 93 (100000), Cond.fieldLink RX1 94 "CountLearner$Table" "truly" "[I", Cond.methodLink RL 67 yX2_truth, Cond.instanceMethod yX2_truth, Cond.selects RX2 yX2_truth yX2_truth, Cond.code yX2_truth cX2_truth 4 (some .boolean), Cond.constant RX2 94 (100000), Cond.methodLink RL 68 yX1_agrees, Cond.instanceMethod yX1_agrees, Cond.selects RX1 yX1_agrees yX1_agrees, Cond.code yX1_agrees cX1_agrees 3 (some .int), Cond.methodLink RX1 97 yX0_trulyAgrees, Cond.instanceMethod yX0_trulyAgrees]
def wsL_law_r13 : List Cond := [Cond.selects RX0 yX0_trulyAgrees yX0_trulyAgrees, Cond.code yX0_trulyAgrees cX0_trulyAgrees 3 (some .boolean), Cond.methodLink RL 72 yX2_agrees, Cond.instanceMethod yX2_agrees, Cond.selects RX2 yX2_agrees yX2_agrees, Cond.code yX2_agrees cX2_agrees 6 (some .int), Cond.methodLink RX2 95 yX2_trueIn, Cond.instanceMethod yX2_trueIn, Cond.selects RX2 yX2_trueIn yX2_trueIn, Cond.code yX2_trueIn cX2_trueIn 7 (some .long), Cond.methodLink RL 73 yX1_cost, Cond.instanceMethod yX1_cost, Cond.selects RX1 yX1_cost yX1_cost, Cond.code yX1_cost cX1_cost 3 (some .long), Cond.methodLink RX1 101 yX1_spreadAll, Cond.instanceMethod yX1_spreadAll, Cond.selects RX1 yX1_spreadAll yX1_spreadAll, Cond.code yX1_spreadAll cX1_spreadAll 2 none, Cond.methodLink RX1 104 yX1_costOf, Cond.instanceMethod yX1_costOf, Cond.selects RX1 yX1_costOf yX1_costOf, Cond.code yX1_costOf cX1_costOf 11 (some .long), Cond.fieldLink RX1 117 "CountLearner" "ORDER_TABLES" "[I", Cond.methodLink RL 77 yX2_cost]
def wsL_law_r14 : List Cond := [Cond.instanceMethod yX2_cost, Cond.selects RX2 yX2_cost yX2_cost, Cond.code yX2_cost cX2_cost 3 (some .long), Cond.methodLink RX2 103 yX2_allGuesses, Cond.instanceMethod yX2_allGuesses, Cond.selects RX2 yX2_allGuesses yX2_allGuesses, Cond.code yX2_allGuesses cX2_allGuesses 2 none, Cond.methodLink RX2 106 yX2_costOf, Cond.instanceMethod yX2_costOf, Cond.selects RX2 yX2_costOf yX2_costOf, Cond.code yX2_costOf cX2_costOf 11 (some .long), Cond.methodLink RX2 99 yX2_rowsOf, Cond.instanceMethod yX2_rowsOf, Cond.selects RX2 yX2_rowsOf yX2_rowsOf, Cond.code yX2_rowsOf cX2_rowsOf 4 (some .long), Cond.methodLink RL 78 yX1_plan, Cond.instanceMethod yX1_plan, Cond.selects RX1 yX1_plan yX1_plan, Cond.code yX1_plan cX1_plan 2 (some .int), Cond.methodLink RX1 107 yX1_cheapest, Cond.instanceMethod yX1_cheapest, Cond.selects RX1 yX1_cheapest yX1_cheapest, Cond.code yX1_cheapest cX1_cheapest 8 (some .int), Cond.methodLink RL 82 yX2_plan]
def wsL_law_r15 : List Cond := [Cond.instanceMethod yX2_plan, Cond.selects RX2 yX2_plan yX2_plan, Cond.code yX2_plan cX2_plan 4 (some .int), Cond.methodLink RL 83 yX1_lost, Cond.instanceMethod yX1_lost, Cond.selects RX1 yX1_lost yX1_lost, Cond.code yX1_lost cX1_lost 1 (some .long), Cond.methodLink RL 87 yX2_lost, Cond.instanceMethod yX2_lost, Cond.selects RX2 yX2_lost yX2_lost, Cond.code yX2_lost cX2_lost 3 (some .long), Cond.methodLink RX2 110 yX2_plan, Cond.methodLink RL 88 yX1_table, Cond.instanceMethod yX1_table, Cond.selects RX1 yX1_table yX1_table, Cond.code yX1_table cX1_table 4 (some .int), Cond.fieldLink RX1 114 "CountLearner$Table" "places" "I", Cond.methodLink RX1 111 yX0_sightsThatAre, Cond.instanceMethod yX0_sightsThatAre, Cond.selects RX0 yX0_sightsThatAre yX0_sightsThatAre, Cond.code yX0_sightsThatAre cX0_sightsThatAre 4 (some .int), Cond.methodLink RL 91 yX2_table, Cond.instanceMethod yX2_table, Cond.selects RX2 yX2_table yX2_table]
def wsL_law_r16 : List Cond := [Cond.code yX2_table cX2_table 3 (some .int), Cond.methodLink RX2 114 yX2_many, Cond.instanceMethod yX2_many, Cond.selects RX2 yX2_many yX2_many, Cond.code yX2_many cX2_many 5 (some .int)]
def wsL_law : List Cond := (wsL_law_r1 ++ (wsL_law_r2 ++ (wsL_law_r3 ++ (wsL_law_r4 ++ (wsL_law_r5 ++ (wsL_law_r6 ++ (wsL_law_r7 ++ (wsL_law_r8 ++ (wsL_law_r9 ++ (wsL_law_r10 ++ (wsL_law_r11 ++ (wsL_law_r12 ++ (wsL_law_r13 ++ (wsL_law_r14 ++ (wsL_law_r15 ++ wsL_law_r16))))))))))))))) ++ wsX10 ++ wsX20 ++ wsX00 ++ ([] : List Cond)
end
section
set_option maxRecDepth 20000 in
theorem wsL_law_r1_in : ∀ w ∈ wsL_law_r1, w ∈ lw_tbl := fun w h => (goodIn_p wsL_law_r1 [29, 32, 38] (by decide +kernel) (by decide +kernel) w h).1
set_option maxRecDepth 20000 in
theorem wsL_law_r2_in : ∀ w ∈ wsL_law_r2, w ∈ lw_tbl := fun w h => (goodIn_p wsL_law_r2 [280] (by decide +kernel) (by decide +kernel) w h).1
set_option maxRecDepth 20000 in
theorem wsL_law_r3_in : ∀ w ∈ wsL_law_r3, w ∈ lw_tbl := fun w h => (goodIn_p wsL_law_r3 [101, 105, 110, 114, 322] (by decide +kernel) (by decide +kernel) w h).1
set_option maxRecDepth 20000 in
theorem wsL_law_r4_in : ∀ w ∈ wsL_law_r4, w ∈ lw_tbl := fun w h => (goodIn_p wsL_law_r4 [325, 328, 118, 122, 127] (by decide +kernel) (by decide +kernel) w h).1
set_option maxRecDepth 20000 in
theorem wsL_law_r5_in : ∀ w ∈ wsL_law_r5, w ∈ lw_tbl := fun w h => (goodIn_p wsL_law_r5 [333, 131, 135, 138, 339, 142] (by decide +kernel) (by decide +kernel) w h).1
set_option maxRecDepth 20000 in
theorem wsL_law_r6_in : ∀ w ∈ wsL_law_r6, w ∈ lw_tbl := fun w h => (goodIn_p wsL_law_r6 [145, 150, 344, 347, 154, 157] (by decide +kernel) (by decide +kernel) w h).1
set_option maxRecDepth 20000 in
theorem wsL_law_r7_in : ∀ w ∈ wsL_law_r7, w ∈ lw_tbl := fun w h => (goodIn_p wsL_law_r7 [351, 162, 166, 356, 170] (by decide +kernel) (by decide +kernel) w h).1
set_option maxRecDepth 20000 in
theorem wsL_law_r8_in : ∀ w ∈ wsL_law_r8, w ∈ lw_tbl := fun w h => (goodIn_p wsL_law_r8 [174, 177, 181, 187, 191] (by decide +kernel) (by decide +kernel) w h).1
set_option maxRecDepth 20000 in
theorem wsL_law_r9_in : ∀ w ∈ wsL_law_r9, w ∈ lw_tbl := fun w h => (goodIn_p wsL_law_r9 [360, 364, 368, 372, 195, 199] (by decide +kernel) (by decide +kernel) w h).1
end
section
set_option maxRecDepth 20000 in
theorem wsL_law_r10_in : ∀ w ∈ wsL_law_r10, w ∈ lw_tbl := fun w h => (goodIn_p wsL_law_r10 [376, 204, 380, 208, 212] (by decide +kernel) (by decide +kernel) w h).1
set_option maxRecDepth 20000 in
theorem wsL_law_r11_in : ∀ w ∈ wsL_law_r11, w ∈ lw_tbl := fun w h => (goodIn_p wsL_law_r11 [216, 219, 384, 388, 223, 228] (by decide +kernel) (by decide +kernel) w h).1
set_option maxRecDepth 20000 in
theorem wsL_law_r12_in : ∀ w ∈ wsL_law_r12, w ∈ lw_tbl := fun w h => (goodIn_p wsL_law_r12 [392, 397, 232, 401, 237] (by decide +kernel) (by decide +kernel) w h).1
set_option maxRecDepth 20000 in
theorem wsL_law_r13_in : ∀ w ∈ wsL_law_r13, w ∈ lw_tbl := fun w h => (goodIn_p wsL_law_r13 [241, 406, 410, 245, 249, 253] (by decide +kernel) (by decide +kernel) w h).1
set_option maxRecDepth 20000 in
theorem wsL_law_r14_in : ∀ w ∈ wsL_law_r14, w ∈ lw_tbl := fun w h => (goodIn_p wsL_law_r14 [414, 418, 422, 426, 259, 263] (by decide +kernel) (by decide +kernel) w h).1
set_option maxRecDepth 20000 in
theorem wsL_law_r15_in : ∀ w ∈ wsL_law_r15, w ∈ lw_tbl := fun w h => (goodIn_p wsL_law_r15 [430, 267, 434, 271, 275] (by decide +kernel) (by decide +kernel) w h).1
set_option maxRecDepth 20000 in
theorem wsL_law_r16_in : ∀ w ∈ wsL_law_r16, w ∈ lw_tbl := fun w h => (goodIn_p wsL_law_r16 [439, 443] (by decide +kernel) (by decide +kernel) w h).1
set_option maxRecDepth 20000 in
theorem wsX10_in : ∀ w ∈ wsX10, w ∈ lw_tbl := by decide +kernel
set_option maxRecDepth 20000 in
theorem wsX20_in : ∀ w ∈ wsX20, w ∈ lw_tbl := by decide +kernel
set_option maxRecDepth 20000 in
theorem wsX00_in : ∀ w ∈ wsX00, w ∈ lw_tbl := by decide +kernel
theorem wsL_law_in : ∀ w ∈ wsL_law, w ∈ lw_tbl := List.forall_mem_append.mpr ⟨List.forall_mem_append.mpr ⟨List.forall_mem_append.mpr ⟨List.forall_mem_append.mpr ⟨(List.forall_mem_append.mpr ⟨wsL_law_r1_in, (List.forall_mem_append.mpr ⟨wsL_law_r2_in, (List.forall_mem_append.mpr ⟨wsL_law_r3_in, (List.forall_mem_append.mpr ⟨wsL_law_r4_in, (List.forall_mem_append.mpr ⟨wsL_law_r5_in, (List.forall_mem_append.mpr ⟨wsL_law_r6_in, (List.forall_mem_append.mpr ⟨wsL_law_r7_in, (List.forall_mem_append.mpr ⟨wsL_law_r8_in, (List.forall_mem_append.mpr ⟨wsL_law_r9_in, (List.forall_mem_append.mpr ⟨wsL_law_r10_in, (List.forall_mem_append.mpr ⟨wsL_law_r11_in, (List.forall_mem_append.mpr ⟨wsL_law_r12_in, (List.forall_mem_append.mpr ⟨wsL_law_r13_in, (List.forall_mem_append.mpr ⟨wsL_law_r14_in, (List.forall_mem_append.mpr ⟨wsL_law_r15_in, wsL_law_r16_in⟩)⟩)⟩)⟩)⟩)⟩)⟩)⟩)⟩)⟩)⟩)⟩)⟩)⟩)⟩), wsX10_in⟩, wsX20_in⟩, wsX00_in⟩, fun _ h => absurd h List.not_mem_nil⟩
theorem inlX0 : ∀ w ∈ wsX00, w ∈ wsL_law := fun _ h => List.mem_append_left _ (List.mem_append_right _ h)
theorem inX0 : ∀ w ∈ wsX00, w ∈ lw_tbl := fun w h => wsL_law_in w (inlX0 w h)
theorem inlX1 : ∀ w ∈ wsX10, w ∈ wsL_law := fun _ h => List.mem_append_left _ (List.mem_append_left _ (List.mem_append_left _ (List.mem_append_right _ h)))
theorem inX1 : ∀ w ∈ wsX10, w ∈ lw_tbl := fun w h => wsL_law_in w (inlX1 w h)
theorem inlX2 : ∀ w ∈ wsX20, w ∈ wsL_law := fun _ h => List.mem_append_left _ (List.mem_append_left _ (List.mem_append_right _ h))
theorem inX2 : ∀ w ∈ wsX20, w ∈ lw_tbl := fun w h => wsL_law_in w (inlX2 w h)
theorem inJ9 : ∀ w ∈ wsJ90, w ∈ lw_tbl := by decide +kernel
theorem inJ10 : ∀ w ∈ wsJ100, w ∈ lw_tbl := by decide +kernel
theorem inJ7 : ∀ w ∈ wsJ70, w ∈ lw_tbl := by decide +kernel
end
section
theorem dX0_init_0 : decode cX0_init 0 = .ok (.aload_n 0, 1) := by decide +kernel
theorem dX0_init_1 : decode cX0_init 1 = .ok (.invokespecial 3, 3) := by decide +kernel
theorem dX0_init_4 : decode cX0_init 4 = .ok (.aload_n 0, 1) := by decide +kernel
theorem dX0_init_5 : decode cX0_init 5 = .ok (.iconst 0, 1) := by decide +kernel
theorem dX0_init_6 : decode cX0_init 6 = .ok (.putfield 9, 3) := by decide +kernel
theorem dX0_init_9 : decode cX0_init 9 = .ok (.aload_n 0, 1) := by decide +kernel
theorem dX0_init_10 : decode cX0_init 10 = .ok (.iconst 0, 1) := by decide +kernel
theorem dX0_init_11 : decode cX0_init 11 = .ok (.putfield 15, 3) := by decide +kernel
theorem dX0_init_14 : decode cX0_init 14 = .ok (.aload_n 0, 1) := by decide +kernel
theorem dX0_init_15 : decode cX0_init 15 = .ok (.bipush 40, 2) := by decide +kernel
theorem dX0_init_17 : decode cX0_init 17 = .ok (.putfield 18, 3) := by decide +kernel
theorem dX0_init_20 : decode cX0_init 20 = .ok (.aload_n 0, 1) := by decide +kernel
theorem dX0_init_21 : decode cX0_init 21 = .ok (.bipush 40, 2) := by decide +kernel
theorem dX0_init_23 : decode cX0_init 23 = .ok (.newarray .int, 2) := by decide +kernel
theorem dX0_init_25 : decode cX0_init 25 = .ok (.putfield 21, 3) := by decide +kernel
theorem dX0_init_28 : decode cX0_init 28 = .ok (.aload_n 0, 1) := by decide +kernel
theorem dX0_init_29 : decode cX0_init 29 = .ok (.bipush 40, 2) := by decide +kernel
theorem dX0_init_31 : decode cX0_init 31 = .ok (.newarray .int, 2) := by decide +kernel
theorem dX0_init_33 : decode cX0_init 33 = .ok (.putfield 25, 3) := by decide +kernel
theorem dX0_init_36 : decode cX0_init 36 = .ok (.aload_n 0, 1) := by decide +kernel
theorem dX0_init_37 : decode cX0_init 37 = .ok (.bipush 40, 2) := by decide +kernel
theorem dX0_init_39 : decode cX0_init 39 = .ok (.newarray .int, 2) := by decide +kernel
theorem dX0_init_41 : decode cX0_init 41 = .ok (.putfield 28, 3) := by decide +kernel
theorem dX0_init_44 : decode cX0_init 44 = .ok (.aload_n 0, 1) := by decide +kernel
theorem dX0_init_45 : decode cX0_init 45 = .ok (.bipush 40, 2) := by decide +kernel
theorem dX0_init_47 : decode cX0_init 47 = .ok (.newarray .int, 2) := by decide +kernel
theorem dX0_init_49 : decode cX0_init 49 = .ok (.putfield 31, 3) := by decide +kernel
theorem dX0_init_52 : decode cX0_init 52 = .ok (.aload_n 0, 1) := by decide +kernel
theorem dX0_init_53 : decode cX0_init 53 = .ok (.bipush 40, 2) := by decide +kernel
theorem dX0_init_55 : decode cX0_init 55 = .ok (.newarray .int, 2) := by decide +kernel
theorem dX0_init_57 : decode cX0_init 57 = .ok (.putfield 34, 3) := by decide +kernel
theorem dX0_init_60 : decode cX0_init 60 = .ok (.aload_n 0, 1) := by decide +kernel
theorem dX0_init_61 : decode cX0_init 61 = .ok (.bipush 64, 2) := by decide +kernel
theorem dX0_init_63 : decode cX0_init 63 = .ok (.newarray .int, 2) := by decide +kernel
theorem dX0_init_65 : decode cX0_init 65 = .ok (.putfield 37, 3) := by decide +kernel
theorem dX0_init_68 : decode cX0_init 68 = .ok (.aload_n 0, 1) := by decide +kernel
theorem dX0_init_69 : decode cX0_init 69 = .ok (.bipush 65, 2) := by decide +kernel
theorem dX0_init_71 : decode cX0_init 71 = .ok (.newarray .int, 2) := by decide +kernel
theorem dX0_init_73 : decode cX0_init 73 = .ok (.putfield 40, 3) := by decide +kernel
theorem dX0_init_76 : decode cX0_init 76 = .ok (.aload_n 0, 1) := by decide +kernel
theorem dX0_init_77 : decode cX0_init 77 = .ok (.bipush 65, 2) := by decide +kernel
theorem dX0_init_79 : decode cX0_init 79 = .ok (.newarray .int, 2) := by decide +kernel
theorem dX0_init_81 : decode cX0_init 81 = .ok (.putfield 43, 3) := by decide +kernel
theorem dX0_init_84 : decode cX0_init 84 = .ok (.aload_n 0, 1) := by decide +kernel
theorem dX0_init_85 : decode cX0_init 85 = .ok (.bipush 65, 2) := by decide +kernel
theorem dX0_init_87 : decode cX0_init 87 = .ok (.newarray .int, 2) := by decide +kernel
theorem dX0_init_89 : decode cX0_init 89 = .ok (.putfield 46, 3) := by decide +kernel
theorem dX0_init_92 : decode cX0_init 92 = .ok (.aload_n 0, 1) := by decide +kernel
theorem dX0_init_93 : decode cX0_init 93 = .ok (.iconst 0, 1) := by decide +kernel
theorem dX0_init_94 : decode cX0_init 94 = .ok (.putfield 49, 3) := by decide +kernel
theorem dX0_init_97 : decode cX0_init 97 = .ok (.aload_n 0, 1) := by decide +kernel
theorem dX0_init_98 : decode cX0_init 98 = .ok (.iconst 0, 1) := by decide +kernel
theorem dX0_init_99 : decode cX0_init 99 = .ok (.putfield 53, 3) := by decide +kernel
theorem dX0_init_102 : decode cX0_init 102 = .ok (.return_, 1) := by decide +kernel
set_option maxRecDepth 20000 in
theorem ggX0_startAnew_X0_forget : GoodIn wsX0_startAnew wsX0_forget := goodIn_r _ [7, 8, 9, 10, 11, 12, 13, 14, 15, 16, 17, 18, 19, 20, 21, 22, 23] (by decide +kernel) (by decide +kernel)
set_option maxRecDepth 20000 in
theorem gX0_startAnew_X0_forget : GoodIn wsX0_startAnew (wsV RX0 56 RX0 yX0_forget wsX0_forget) := goodIn_app (goodIn_of _ (by decide +kernel)) ggX0_startAnew_X0_forget
theorem dX0_startAnew_0 : decode cX0_startAnew 0 = .ok (.aload_n 0, 1) := by decide +kernel
theorem dX0_startAnew_1 : decode cX0_startAnew 1 = .ok (.iload_n 1, 1) := by decide +kernel
theorem dX0_startAnew_2 : decode cX0_startAnew 2 = .ok (.putfield 9, 3) := by decide +kernel
theorem dX0_startAnew_5 : decode cX0_startAnew 5 = .ok (.aload_n 0, 1) := by decide +kernel
theorem dX0_startAnew_6 : decode cX0_startAnew 6 = .ok (.iconst 0, 1) := by decide +kernel
theorem dX0_startAnew_7 : decode cX0_startAnew 7 = .ok (.putfield 15, 3) := by decide +kernel
theorem dX0_startAnew_10 : decode cX0_startAnew 10 = .ok (.aload_n 0, 1) := by decide +kernel
theorem dX0_startAnew_11 : decode cX0_startAnew 11 = .ok (.invokevirtual 56, 3) := by decide +kernel
theorem dX0_startAnew_14 : decode cX0_startAnew 14 = .ok (.return_, 1) := by decide +kernel
set_option maxRecDepth 20000 in
theorem ggX0_grow_X0_forget : GoodIn wsX0_grow wsX0_forget := goodIn_r _ [14, 15, 16, 17, 18, 19, 20, 21, 22, 23, 24, 25, 26, 27, 28, 29, 30] (by decide +kernel) (by decide +kernel)
set_option maxRecDepth 20000 in
theorem gX0_grow_X0_forget : GoodIn wsX0_grow (wsV RX0 56 RX0 yX0_forget wsX0_forget) := goodIn_app (goodIn_of _ (by decide +kernel)) ggX0_grow_X0_forget
theorem dX0_grow_0 : decode cX0_grow 0 = .ok (.aload_n 0, 1) := by decide +kernel
theorem dX0_grow_1 : decode cX0_grow 1 = .ok (.dup, 1) := by decide +kernel
theorem dX0_grow_2 : decode cX0_grow 2 = .ok (.getfield 9, 3) := by decide +kernel
theorem dX0_grow_5 : decode cX0_grow 5 = .ok (.iload_n 1, 1) := by decide +kernel
theorem dX0_grow_6 : decode cX0_grow 6 = .ok (.iadd, 1) := by decide +kernel
theorem dX0_grow_7 : decode cX0_grow 7 = .ok (.putfield 9, 3) := by decide +kernel
theorem dX0_grow_10 : decode cX0_grow 10 = .ok (.iconst 0, 1) := by decide +kernel
theorem dX0_grow_11 : decode cX0_grow 11 = .ok (.istore_n 2, 1) := by decide +kernel
theorem dX0_grow_12 : decode cX0_grow 12 = .ok (.iload_n 2, 1) := by decide +kernel
theorem dX0_grow_13 : decode cX0_grow 13 = .ok (.aload_n 0, 1) := by decide +kernel
theorem dX0_grow_14 : decode cX0_grow 14 = .ok (.getfield 15, 3) := by decide +kernel
theorem dX0_grow_17 : decode cX0_grow 17 = .ok (.if_icmp .ge 39, 3) := by decide +kernel
theorem dX0_grow_20 : decode cX0_grow 20 = .ok (.aload_n 0, 1) := by decide +kernel
theorem dX0_grow_21 : decode cX0_grow 21 = .ok (.getfield 31, 3) := by decide +kernel
theorem dX0_grow_24 : decode cX0_grow 24 = .ok (.iload_n 2, 1) := by decide +kernel
theorem dX0_grow_25 : decode cX0_grow 25 = .ok (.iaload, 1) := by decide +kernel
theorem dX0_grow_26 : decode cX0_grow 26 = .ok (.ldc 59, 2) := by decide +kernel
theorem dX0_grow_28 : decode cX0_grow 28 = .ok (.if_icmp .eq 22, 3) := by decide +kernel
theorem dX0_grow_31 : decode cX0_grow 31 = .ok (.aload_n 0, 1) := by decide +kernel
theorem dX0_grow_32 : decode cX0_grow 32 = .ok (.getfield 31, 3) := by decide +kernel
theorem dX0_grow_35 : decode cX0_grow 35 = .ok (.iload_n 2, 1) := by decide +kernel
theorem dX0_grow_36 : decode cX0_grow 36 = .ok (.aload_n 0, 1) := by decide +kernel
theorem dX0_grow_37 : decode cX0_grow 37 = .ok (.getfield 31, 3) := by decide +kernel
theorem dX0_grow_40 : decode cX0_grow 40 = .ok (.iload_n 2, 1) := by decide +kernel
theorem dX0_grow_41 : decode cX0_grow 41 = .ok (.iaload, 1) := by decide +kernel
theorem dX0_grow_42 : decode cX0_grow 42 = .ok (.iload_n 1, 1) := by decide +kernel
theorem dX0_grow_43 : decode cX0_grow 43 = .ok (.iadd, 1) := by decide +kernel
theorem dX0_grow_44 : decode cX0_grow 44 = .ok (.ldc 60, 2) := by decide +kernel
theorem dX0_grow_46 : decode cX0_grow 46 = .ok (.invokestatic 61, 3) := by decide +kernel
theorem dX0_grow_49 : decode cX0_grow 49 = .ok (.iastore, 1) := by decide +kernel
theorem dX0_grow_50 : decode cX0_grow 50 = .ok (.iinc 2 1, 3) := by decide +kernel
theorem dX0_grow_53 : decode cX0_grow 53 = .ok (.goto (-41), 3) := by decide +kernel
theorem dX0_grow_56 : decode cX0_grow 56 = .ok (.aload_n 0, 1) := by decide +kernel
theorem dX0_grow_57 : decode cX0_grow 57 = .ok (.invokevirtual 56, 3) := by decide +kernel
theorem dX0_grow_60 : decode cX0_grow 60 = .ok (.return_, 1) := by decide +kernel
set_option maxRecDepth 20000 in
theorem ggX0_shrink_X0_forget : GoodIn wsX0_shrink wsX0_forget := goodIn_r _ [12, 13, 14, 15, 16, 17, 18, 19, 20, 21, 22, 23, 24, 25, 26, 27, 28] (by decide +kernel) (by decide +kernel)
set_option maxRecDepth 20000 in
theorem gX0_shrink_X0_forget : GoodIn wsX0_shrink (wsV RX0 56 RX0 yX0_forget wsX0_forget) := goodIn_app (goodIn_of _ (by decide +kernel)) ggX0_shrink_X0_forget
theorem dX0_shrink_0 : decode cX0_shrink 0 = .ok (.aload_n 0, 1) := by decide +kernel
theorem dX0_shrink_1 : decode cX0_shrink 1 = .ok (.dup, 1) := by decide +kernel
theorem dX0_shrink_2 : decode cX0_shrink 2 = .ok (.getfield 9, 3) := by decide +kernel
theorem dX0_shrink_5 : decode cX0_shrink 5 = .ok (.iload_n 1, 1) := by decide +kernel
theorem dX0_shrink_6 : decode cX0_shrink 6 = .ok (.isub, 1) := by decide +kernel
theorem dX0_shrink_7 : decode cX0_shrink 7 = .ok (.putfield 9, 3) := by decide +kernel
theorem dX0_shrink_10 : decode cX0_shrink 10 = .ok (.iconst 0, 1) := by decide +kernel
theorem dX0_shrink_11 : decode cX0_shrink 11 = .ok (.istore_n 2, 1) := by decide +kernel
theorem dX0_shrink_12 : decode cX0_shrink 12 = .ok (.iload_n 2, 1) := by decide +kernel
theorem dX0_shrink_13 : decode cX0_shrink 13 = .ok (.aload_n 0, 1) := by decide +kernel
theorem dX0_shrink_14 : decode cX0_shrink 14 = .ok (.getfield 15, 3) := by decide +kernel
theorem dX0_shrink_17 : decode cX0_shrink 17 = .ok (.if_icmp .ge 27, 3) := by decide +kernel
theorem dX0_shrink_20 : decode cX0_shrink 20 = .ok (.aload_n 0, 1) := by decide +kernel
theorem dX0_shrink_21 : decode cX0_shrink 21 = .ok (.getfield 28, 3) := by decide +kernel
theorem dX0_shrink_24 : decode cX0_shrink 24 = .ok (.iload_n 2, 1) := by decide +kernel
theorem dX0_shrink_25 : decode cX0_shrink 25 = .ok (.aload_n 0, 1) := by decide +kernel
theorem dX0_shrink_26 : decode cX0_shrink 26 = .ok (.getfield 28, 3) := by decide +kernel
theorem dX0_shrink_29 : decode cX0_shrink 29 = .ok (.iload_n 2, 1) := by decide +kernel
theorem dX0_shrink_30 : decode cX0_shrink 30 = .ok (.iaload, 1) := by decide +kernel
theorem dX0_shrink_31 : decode cX0_shrink 31 = .ok (.iload_n 1, 1) := by decide +kernel
theorem dX0_shrink_32 : decode cX0_shrink 32 = .ok (.isub, 1) := by decide +kernel
theorem dX0_shrink_33 : decode cX0_shrink 33 = .ok (.iconst 0, 1) := by decide +kernel
theorem dX0_shrink_34 : decode cX0_shrink 34 = .ok (.invokestatic 67, 3) := by decide +kernel
theorem dX0_shrink_37 : decode cX0_shrink 37 = .ok (.iastore, 1) := by decide +kernel
theorem dX0_shrink_38 : decode cX0_shrink 38 = .ok (.iinc 2 1, 3) := by decide +kernel
theorem dX0_shrink_41 : decode cX0_shrink 41 = .ok (.goto (-29), 3) := by decide +kernel
theorem dX0_shrink_44 : decode cX0_shrink 44 = .ok (.aload_n 0, 1) := by decide +kernel
theorem dX0_shrink_45 : decode cX0_shrink 45 = .ok (.invokevirtual 56, 3) := by decide +kernel
theorem dX0_shrink_48 : decode cX0_shrink 48 = .ok (.return_, 1) := by decide +kernel
set_option maxRecDepth 20000 in
theorem ggX0_addSight_X0_forget : GoodIn wsX0_addSight wsX0_forget := goodIn_r _ [10, 11, 12, 13, 14, 15, 16, 17, 18, 19, 20, 21, 22, 23, 24, 25, 26] (by decide +kernel) (by decide +kernel)
set_option maxRecDepth 20000 in
theorem gX0_addSight_X0_forget : GoodIn wsX0_addSight (wsV RX0 56 RX0 yX0_forget wsX0_forget) := goodIn_app (goodIn_of _ (by decide +kernel)) ggX0_addSight_X0_forget
theorem dX0_addSight_0 : decode cX0_addSight 0 = .ok (.aload_n 0, 1) := by decide +kernel
theorem dX0_addSight_1 : decode cX0_addSight 1 = .ok (.getfield 15, 3) := by decide +kernel
theorem dX0_addSight_4 : decode cX0_addSight 4 = .ok (.istore 5, 2) := by decide +kernel
theorem dX0_addSight_6 : decode cX0_addSight 6 = .ok (.iload 5, 2) := by decide +kernel
theorem dX0_addSight_8 : decode cX0_addSight 8 = .ok (.bipush 40, 2) := by decide +kernel
theorem dX0_addSight_10 : decode cX0_addSight 10 = .ok (.if_icmp .lt 5, 3) := by decide +kernel
theorem dX0_addSight_13 : decode cX0_addSight 13 = .ok (.iconst (-1), 1) := by decide +kernel
theorem dX0_addSight_14 : decode cX0_addSight 14 = .ok (.ireturn, 1) := by decide +kernel
theorem dX0_addSight_15 : decode cX0_addSight 15 = .ok (.aload_n 0, 1) := by decide +kernel
theorem dX0_addSight_16 : decode cX0_addSight 16 = .ok (.getfield 21, 3) := by decide +kernel
theorem dX0_addSight_19 : decode cX0_addSight 19 = .ok (.iload 5, 2) := by decide +kernel
theorem dX0_addSight_21 : decode cX0_addSight 21 = .ok (.iload_n 1, 1) := by decide +kernel
theorem dX0_addSight_22 : decode cX0_addSight 22 = .ok (.iastore, 1) := by decide +kernel
theorem dX0_addSight_23 : decode cX0_addSight 23 = .ok (.aload_n 0, 1) := by decide +kernel
theorem dX0_addSight_24 : decode cX0_addSight 24 = .ok (.getfield 25, 3) := by decide +kernel
theorem dX0_addSight_27 : decode cX0_addSight 27 = .ok (.iload 5, 2) := by decide +kernel
theorem dX0_addSight_29 : decode cX0_addSight 29 = .ok (.iload_n 2, 1) := by decide +kernel
theorem dX0_addSight_30 : decode cX0_addSight 30 = .ok (.iastore, 1) := by decide +kernel
theorem dX0_addSight_31 : decode cX0_addSight 31 = .ok (.aload_n 0, 1) := by decide +kernel
theorem dX0_addSight_32 : decode cX0_addSight 32 = .ok (.getfield 28, 3) := by decide +kernel
theorem dX0_addSight_35 : decode cX0_addSight 35 = .ok (.iload 5, 2) := by decide +kernel
theorem dX0_addSight_37 : decode cX0_addSight 37 = .ok (.iload_n 3, 1) := by decide +kernel
theorem dX0_addSight_38 : decode cX0_addSight 38 = .ok (.iastore, 1) := by decide +kernel
theorem dX0_addSight_39 : decode cX0_addSight 39 = .ok (.aload_n 0, 1) := by decide +kernel
theorem dX0_addSight_40 : decode cX0_addSight 40 = .ok (.getfield 31, 3) := by decide +kernel
theorem dX0_addSight_43 : decode cX0_addSight 43 = .ok (.iload 5, 2) := by decide +kernel
theorem dX0_addSight_45 : decode cX0_addSight 45 = .ok (.iload 4, 2) := by decide +kernel
theorem dX0_addSight_47 : decode cX0_addSight 47 = .ok (.iastore, 1) := by decide +kernel
theorem dX0_addSight_48 : decode cX0_addSight 48 = .ok (.aload_n 0, 1) := by decide +kernel
theorem dX0_addSight_49 : decode cX0_addSight 49 = .ok (.iload 5, 2) := by decide +kernel
theorem dX0_addSight_51 : decode cX0_addSight 51 = .ok (.iconst 1, 1) := by decide +kernel
theorem dX0_addSight_52 : decode cX0_addSight 52 = .ok (.iadd, 1) := by decide +kernel
theorem dX0_addSight_53 : decode cX0_addSight 53 = .ok (.putfield 15, 3) := by decide +kernel
theorem dX0_addSight_56 : decode cX0_addSight 56 = .ok (.aload_n 0, 1) := by decide +kernel
theorem dX0_addSight_57 : decode cX0_addSight 57 = .ok (.invokevirtual 56, 3) := by decide +kernel
theorem dX0_addSight_60 : decode cX0_addSight 60 = .ok (.iload 5, 2) := by decide +kernel
theorem dX0_addSight_62 : decode cX0_addSight 62 = .ok (.ireturn, 1) := by decide +kernel
set_option maxRecDepth 20000 in
theorem ggX0_makeRoom_X0_forget : GoodIn wsX0_makeRoom wsX0_forget := goodIn_r _ [6, 7, 8, 9, 10, 11, 12, 13, 14, 15, 16, 17, 18, 19, 20, 21, 22] (by decide +kernel) (by decide +kernel)
set_option maxRecDepth 20000 in
theorem gX0_makeRoom_X0_forget : GoodIn wsX0_makeRoom (wsV RX0 56 RX0 yX0_forget wsX0_forget) := goodIn_app (goodIn_of _ (by decide +kernel)) ggX0_makeRoom_X0_forget
theorem dX0_makeRoom_0 : decode cX0_makeRoom 0 = .ok (.aload_n 0, 1) := by decide +kernel
theorem dX0_makeRoom_1 : decode cX0_makeRoom 1 = .ok (.iload_n 1, 1) := by decide +kernel
theorem dX0_makeRoom_2 : decode cX0_makeRoom 2 = .ok (.putfield 18, 3) := by decide +kernel
theorem dX0_makeRoom_5 : decode cX0_makeRoom 5 = .ok (.aload_n 0, 1) := by decide +kernel
theorem dX0_makeRoom_6 : decode cX0_makeRoom 6 = .ok (.invokevirtual 56, 3) := by decide +kernel
theorem dX0_makeRoom_9 : decode cX0_makeRoom 9 = .ok (.return_, 1) := by decide +kernel
set_option maxRecDepth 20000 in
theorem ggX0_sightsThatAre_X0_settle : GoodIn wsX0_sightsThatAre wsX0_settle := goodIn_r _ [7, 8, 2, 9, 10, 1, 11, 12, 13, 14, 15, 16, 17, 18, 19, 20, 21, 22, 6, 23, 24, 25, 26, 27, 28, 29, 30, 31, 32, 33, 34, 35, 36, 37, 38, 39, 40, 41, 42, 43, 44, 45, 46, 47, 48, 49, 50, 51, 52, 53] (by decide +kernel) (by decide +kernel)
set_option maxRecDepth 20000 in
theorem gX0_sightsThatAre_X0_settle : GoodIn wsX0_sightsThatAre (wsV RX0 70 RX0 yX0_settle wsX0_settle) := goodIn_app (goodIn_of _ (by decide +kernel)) ggX0_sightsThatAre_X0_settle
theorem dX0_sightsThatAre_0 : decode cX0_sightsThatAre 0 = .ok (.aload_n 0, 1) := by decide +kernel
theorem dX0_sightsThatAre_1 : decode cX0_sightsThatAre 1 = .ok (.invokevirtual 70, 3) := by decide +kernel
theorem dX0_sightsThatAre_4 : decode cX0_sightsThatAre 4 = .ok (.iconst 0, 1) := by decide +kernel
theorem dX0_sightsThatAre_5 : decode cX0_sightsThatAre 5 = .ok (.istore_n 2, 1) := by decide +kernel
theorem dX0_sightsThatAre_6 : decode cX0_sightsThatAre 6 = .ok (.iconst 0, 1) := by decide +kernel
theorem dX0_sightsThatAre_7 : decode cX0_sightsThatAre 7 = .ok (.istore_n 3, 1) := by decide +kernel
theorem dX0_sightsThatAre_8 : decode cX0_sightsThatAre 8 = .ok (.iload_n 3, 1) := by decide +kernel
theorem dX0_sightsThatAre_9 : decode cX0_sightsThatAre 9 = .ok (.aload_n 0, 1) := by decide +kernel
theorem dX0_sightsThatAre_10 : decode cX0_sightsThatAre 10 = .ok (.getfield 15, 3) := by decide +kernel
theorem dX0_sightsThatAre_13 : decode cX0_sightsThatAre 13 = .ok (.if_icmp .ge 22, 3) := by decide +kernel
theorem dX0_sightsThatAre_16 : decode cX0_sightsThatAre 16 = .ok (.aload_n 0, 1) := by decide +kernel
theorem dX0_sightsThatAre_17 : decode cX0_sightsThatAre 17 = .ok (.getfield 34, 3) := by decide +kernel
theorem dX0_sightsThatAre_20 : decode cX0_sightsThatAre 20 = .ok (.iload_n 3, 1) := by decide +kernel
theorem dX0_sightsThatAre_21 : decode cX0_sightsThatAre 21 = .ok (.iaload, 1) := by decide +kernel
theorem dX0_sightsThatAre_22 : decode cX0_sightsThatAre 22 = .ok (.iload_n 1, 1) := by decide +kernel
theorem dX0_sightsThatAre_23 : decode cX0_sightsThatAre 23 = .ok (.if_icmp .ne 6, 3) := by decide +kernel
theorem dX0_sightsThatAre_26 : decode cX0_sightsThatAre 26 = .ok (.iinc 2 1, 3) := by decide +kernel
theorem dX0_sightsThatAre_29 : decode cX0_sightsThatAre 29 = .ok (.iinc 3 1, 3) := by decide +kernel
theorem dX0_sightsThatAre_32 : decode cX0_sightsThatAre 32 = .ok (.goto (-24), 3) := by decide +kernel
theorem dX0_sightsThatAre_35 : decode cX0_sightsThatAre 35 = .ok (.iload_n 2, 1) := by decide +kernel
theorem dX0_sightsThatAre_36 : decode cX0_sightsThatAre 36 = .ok (.ireturn, 1) := by decide +kernel
theorem dX0_rowsOf_0 : decode cX0_rowsOf 0 = .ok (.iload_n 2, 1) := by decide +kernel
theorem dX0_rowsOf_1 : decode cX0_rowsOf 1 = .ok (.ifCond .eq 13, 3) := by decide +kernel
theorem dX0_rowsOf_4 : decode cX0_rowsOf 4 = .ok (.aload_n 0, 1) := by decide +kernel
theorem dX0_rowsOf_5 : decode cX0_rowsOf 5 = .ok (.getfield 37, 3) := by decide +kernel
theorem dX0_rowsOf_8 : decode cX0_rowsOf 8 = .ok (.iload_n 1, 1) := by decide +kernel
theorem dX0_rowsOf_9 : decode cX0_rowsOf 9 = .ok (.iaload, 1) := by decide +kernel
theorem dX0_rowsOf_10 : decode cX0_rowsOf 10 = .ok (.i2l, 1) := by decide +kernel
theorem dX0_rowsOf_11 : decode cX0_rowsOf 11 = .ok (.goto 19, 3) := by decide +kernel
theorem dX0_rowsOf_14 : decode cX0_rowsOf 14 = .ok (.aload_n 0, 1) := by decide +kernel
theorem dX0_rowsOf_15 : decode cX0_rowsOf 15 = .ok (.getfield 40, 3) := by decide +kernel
theorem dX0_rowsOf_18 : decode cX0_rowsOf 18 = .ok (.iload_n 1, 1) := by decide +kernel
theorem dX0_rowsOf_19 : decode cX0_rowsOf 19 = .ok (.iconst 1, 1) := by decide +kernel
theorem dX0_rowsOf_20 : decode cX0_rowsOf 20 = .ok (.iadd, 1) := by decide +kernel
theorem dX0_rowsOf_21 : decode cX0_rowsOf 21 = .ok (.iaload, 1) := by decide +kernel
theorem dX0_rowsOf_22 : decode cX0_rowsOf 22 = .ok (.aload_n 0, 1) := by decide +kernel
theorem dX0_rowsOf_23 : decode cX0_rowsOf 23 = .ok (.getfield 40, 3) := by decide +kernel
theorem dX0_rowsOf_26 : decode cX0_rowsOf 26 = .ok (.iload_n 1, 1) := by decide +kernel
theorem dX0_rowsOf_27 : decode cX0_rowsOf 27 = .ok (.iaload, 1) := by decide +kernel
theorem dX0_rowsOf_28 : decode cX0_rowsOf 28 = .ok (.isub, 1) := by decide +kernel
theorem dX0_rowsOf_29 : decode cX0_rowsOf 29 = .ok (.i2l, 1) := by decide +kernel
theorem dX0_rowsOf_30 : decode cX0_rowsOf 30 = .ok (.lreturn, 1) := by decide +kernel
set_option maxRecDepth 20000 in
theorem ggX0_trulyAgrees_X0_settle : GoodIn wsX0_trulyAgrees wsX0_settle := goodIn_r _ [14, 15, 7, 16, 3, 4, 17, 18, 19, 20, 21, 22, 23, 24, 25, 26, 27, 28, 13, 29, 6, 5, 8, 9, 1, 30, 31, 32, 33, 34, 35, 36, 37, 38, 39, 40, 41, 42, 43, 44, 45, 46, 47, 48, 49, 50, 51, 52, 53, 54] (by decide +kernel) (by decide +kernel)
set_option maxRecDepth 20000 in
theorem gX0_trulyAgrees_X0_settle : GoodIn wsX0_trulyAgrees (wsV RX0 70 RX0 yX0_settle wsX0_settle) := goodIn_app (goodIn_of _ (by decide +kernel)) ggX0_trulyAgrees_X0_settle
theorem dX0_trulyAgrees_0 : decode cX0_trulyAgrees 0 = .ok (.aload_n 0, 1) := by decide +kernel
theorem dX0_trulyAgrees_1 : decode cX0_trulyAgrees 1 = .ok (.invokevirtual 70, 3) := by decide +kernel
theorem dX0_trulyAgrees_4 : decode cX0_trulyAgrees 4 = .ok (.aload_n 0, 1) := by decide +kernel
theorem dX0_trulyAgrees_5 : decode cX0_trulyAgrees 5 = .ok (.getfield 46, 3) := by decide +kernel
theorem dX0_trulyAgrees_8 : decode cX0_trulyAgrees 8 = .ok (.iconst 0, 1) := by decide +kernel
theorem dX0_trulyAgrees_9 : decode cX0_trulyAgrees 9 = .ok (.iconst 0, 1) := by decide +kernel
theorem dX0_trulyAgrees_10 : decode cX0_trulyAgrees 10 = .ok (.iastore, 1) := by decide +kernel
theorem dX0_trulyAgrees_11 : decode cX0_trulyAgrees 11 = .ok (.iconst 0, 1) := by decide +kernel
theorem dX0_trulyAgrees_12 : decode cX0_trulyAgrees 12 = .ok (.istore_n 1, 1) := by decide +kernel
theorem dX0_trulyAgrees_13 : decode cX0_trulyAgrees 13 = .ok (.iload_n 1, 1) := by decide +kernel
theorem dX0_trulyAgrees_14 : decode cX0_trulyAgrees 14 = .ok (.bipush 64, 2) := by decide +kernel
theorem dX0_trulyAgrees_16 : decode cX0_trulyAgrees 16 = .ok (.if_icmp .ge 30, 3) := by decide +kernel
theorem dX0_trulyAgrees_19 : decode cX0_trulyAgrees 19 = .ok (.aload_n 0, 1) := by decide +kernel
theorem dX0_trulyAgrees_20 : decode cX0_trulyAgrees 20 = .ok (.getfield 46, 3) := by decide +kernel
theorem dX0_trulyAgrees_23 : decode cX0_trulyAgrees 23 = .ok (.iload_n 1, 1) := by decide +kernel
theorem dX0_trulyAgrees_24 : decode cX0_trulyAgrees 24 = .ok (.iconst 1, 1) := by decide +kernel
theorem dX0_trulyAgrees_25 : decode cX0_trulyAgrees 25 = .ok (.iadd, 1) := by decide +kernel
theorem dX0_trulyAgrees_26 : decode cX0_trulyAgrees 26 = .ok (.aload_n 0, 1) := by decide +kernel
theorem dX0_trulyAgrees_27 : decode cX0_trulyAgrees 27 = .ok (.getfield 46, 3) := by decide +kernel
theorem dX0_trulyAgrees_30 : decode cX0_trulyAgrees 30 = .ok (.iload_n 1, 1) := by decide +kernel
theorem dX0_trulyAgrees_31 : decode cX0_trulyAgrees 31 = .ok (.iaload, 1) := by decide +kernel
theorem dX0_trulyAgrees_32 : decode cX0_trulyAgrees 32 = .ok (.aload_n 0, 1) := by decide +kernel
theorem dX0_trulyAgrees_33 : decode cX0_trulyAgrees 33 = .ok (.getfield 37, 3) := by decide +kernel
theorem dX0_trulyAgrees_36 : decode cX0_trulyAgrees 36 = .ok (.iload_n 1, 1) := by decide +kernel
theorem dX0_trulyAgrees_37 : decode cX0_trulyAgrees 37 = .ok (.iaload, 1) := by decide +kernel
theorem dX0_trulyAgrees_38 : decode cX0_trulyAgrees 38 = .ok (.iadd, 1) := by decide +kernel
theorem dX0_trulyAgrees_39 : decode cX0_trulyAgrees 39 = .ok (.iastore, 1) := by decide +kernel
theorem dX0_trulyAgrees_40 : decode cX0_trulyAgrees 40 = .ok (.iinc 1 1, 3) := by decide +kernel
theorem dX0_trulyAgrees_43 : decode cX0_trulyAgrees 43 = .ok (.goto (-30), 3) := by decide +kernel
theorem dX0_trulyAgrees_46 : decode cX0_trulyAgrees 46 = .ok (.aload_n 0, 1) := by decide +kernel
theorem dX0_trulyAgrees_47 : decode cX0_trulyAgrees 47 = .ok (.getfield 46, 3) := by decide +kernel
theorem dX0_trulyAgrees_50 : decode cX0_trulyAgrees 50 = .ok (.bipush 64, 2) := by decide +kernel
theorem dX0_trulyAgrees_52 : decode cX0_trulyAgrees 52 = .ok (.iaload, 1) := by decide +kernel
theorem dX0_trulyAgrees_53 : decode cX0_trulyAgrees 53 = .ok (.aload_n 0, 1) := by decide +kernel
theorem dX0_trulyAgrees_54 : decode cX0_trulyAgrees 54 = .ok (.getfield 9, 3) := by decide +kernel
theorem dX0_trulyAgrees_57 : decode cX0_trulyAgrees 57 = .ok (.if_icmp .eq 5, 3) := by decide +kernel
theorem dX0_trulyAgrees_60 : decode cX0_trulyAgrees 60 = .ok (.iconst 0, 1) := by decide +kernel
theorem dX0_trulyAgrees_61 : decode cX0_trulyAgrees 61 = .ok (.ireturn, 1) := by decide +kernel
theorem dX0_trulyAgrees_62 : decode cX0_trulyAgrees 62 = .ok (.iconst 0, 1) := by decide +kernel
theorem dX0_trulyAgrees_63 : decode cX0_trulyAgrees 63 = .ok (.istore_n 1, 1) := by decide +kernel
theorem dX0_trulyAgrees_64 : decode cX0_trulyAgrees 64 = .ok (.iload_n 1, 1) := by decide +kernel
theorem dX0_trulyAgrees_65 : decode cX0_trulyAgrees 65 = .ok (.aload_n 0, 1) := by decide +kernel
theorem dX0_trulyAgrees_66 : decode cX0_trulyAgrees 66 = .ok (.getfield 15, 3) := by decide +kernel
theorem dX0_trulyAgrees_69 : decode cX0_trulyAgrees 69 = .ok (.if_icmp .ge 64, 3) := by decide +kernel
theorem dX0_trulyAgrees_72 : decode cX0_trulyAgrees 72 = .ok (.aload_n 0, 1) := by decide +kernel
theorem dX0_trulyAgrees_73 : decode cX0_trulyAgrees 73 = .ok (.getfield 46, 3) := by decide +kernel
theorem dX0_trulyAgrees_76 : decode cX0_trulyAgrees 76 = .ok (.aload_n 0, 1) := by decide +kernel
theorem dX0_trulyAgrees_77 : decode cX0_trulyAgrees 77 = .ok (.getfield 25, 3) := by decide +kernel
theorem dX0_trulyAgrees_80 : decode cX0_trulyAgrees 80 = .ok (.iload_n 1, 1) := by decide +kernel
theorem dX0_trulyAgrees_81 : decode cX0_trulyAgrees 81 = .ok (.iaload, 1) := by decide +kernel
theorem dX0_trulyAgrees_82 : decode cX0_trulyAgrees 82 = .ok (.iaload, 1) := by decide +kernel
theorem dX0_trulyAgrees_83 : decode cX0_trulyAgrees 83 = .ok (.aload_n 0, 1) := by decide +kernel
theorem dX0_trulyAgrees_84 : decode cX0_trulyAgrees 84 = .ok (.getfield 46, 3) := by decide +kernel
theorem dX0_trulyAgrees_87 : decode cX0_trulyAgrees 87 = .ok (.aload_n 0, 1) := by decide +kernel
theorem dX0_trulyAgrees_88 : decode cX0_trulyAgrees 88 = .ok (.getfield 21, 3) := by decide +kernel
theorem dX0_trulyAgrees_91 : decode cX0_trulyAgrees 91 = .ok (.iload_n 1, 1) := by decide +kernel
theorem dX0_trulyAgrees_92 : decode cX0_trulyAgrees 92 = .ok (.iaload, 1) := by decide +kernel
theorem dX0_trulyAgrees_93 : decode cX0_trulyAgrees 93 = .ok (.iaload, 1) := by decide +kernel
theorem dX0_trulyAgrees_94 : decode cX0_trulyAgrees 94 = .ok (.isub, 1) := by decide +kernel
theorem dX0_trulyAgrees_95 : decode cX0_trulyAgrees 95 = .ok (.istore_n 2, 1) := by decide +kernel
theorem dX0_trulyAgrees_96 : decode cX0_trulyAgrees 96 = .ok (.aload_n 0, 1) := by decide +kernel
theorem dX0_trulyAgrees_97 : decode cX0_trulyAgrees 97 = .ok (.getfield 34, 3) := by decide +kernel
theorem dX0_trulyAgrees_100 : decode cX0_trulyAgrees 100 = .ok (.iload_n 1, 1) := by decide +kernel
theorem dX0_trulyAgrees_101 : decode cX0_trulyAgrees 101 = .ok (.iaload, 1) := by decide +kernel
theorem dX0_trulyAgrees_102 : decode cX0_trulyAgrees 102 = .ok (.ifCond .ne 25, 3) := by decide +kernel
theorem dX0_trulyAgrees_105 : decode cX0_trulyAgrees 105 = .ok (.iload_n 2, 1) := by decide +kernel
theorem dX0_trulyAgrees_106 : decode cX0_trulyAgrees 106 = .ok (.aload_n 0, 1) := by decide +kernel
theorem dX0_trulyAgrees_107 : decode cX0_trulyAgrees 107 = .ok (.getfield 28, 3) := by decide +kernel
theorem dX0_trulyAgrees_110 : decode cX0_trulyAgrees 110 = .ok (.iload_n 1, 1) := by decide +kernel
theorem dX0_trulyAgrees_111 : decode cX0_trulyAgrees 111 = .ok (.iaload, 1) := by decide +kernel
theorem dX0_trulyAgrees_112 : decode cX0_trulyAgrees 112 = .ok (.if_icmp .lt 13, 3) := by decide +kernel
theorem dX0_trulyAgrees_115 : decode cX0_trulyAgrees 115 = .ok (.iload_n 2, 1) := by decide +kernel
theorem dX0_trulyAgrees_116 : decode cX0_trulyAgrees 116 = .ok (.aload_n 0, 1) := by decide +kernel
theorem dX0_trulyAgrees_117 : decode cX0_trulyAgrees 117 = .ok (.getfield 31, 3) := by decide +kernel
theorem dX0_trulyAgrees_120 : decode cX0_trulyAgrees 120 = .ok (.iload_n 1, 1) := by decide +kernel
theorem dX0_trulyAgrees_121 : decode cX0_trulyAgrees 121 = .ok (.iaload, 1) := by decide +kernel
theorem dX0_trulyAgrees_122 : decode cX0_trulyAgrees 122 = .ok (.if_icmp .le 5, 3) := by decide +kernel
theorem dX0_trulyAgrees_125 : decode cX0_trulyAgrees 125 = .ok (.iconst 0, 1) := by decide +kernel
theorem dX0_trulyAgrees_126 : decode cX0_trulyAgrees 126 = .ok (.ireturn, 1) := by decide +kernel
theorem dX0_trulyAgrees_127 : decode cX0_trulyAgrees 127 = .ok (.iinc 1 1, 3) := by decide +kernel
theorem dX0_trulyAgrees_130 : decode cX0_trulyAgrees 130 = .ok (.goto (-66), 3) := by decide +kernel
theorem dX0_trulyAgrees_133 : decode cX0_trulyAgrees 133 = .ok (.iconst 1, 1) := by decide +kernel
theorem dX0_trulyAgrees_134 : decode cX0_trulyAgrees 134 = .ok (.ireturn, 1) := by decide +kernel
set_option maxRecDepth 20000 in
theorem ggX0_settle_J7_fill_53178 : GoodIn wsX0_settle wsJ7_fill_53178 := goodIn_r _ [14] (by decide +kernel) (by decide +kernel)
set_option maxRecDepth 20000 in
theorem gX0_settle_J7_fill_53178 : GoodIn wsX0_settle (va_wsS RX0 73 yJ7_fill_53178 wsJ7_fill_53178) := goodIn_app (goodIn_of _ (by decide +kernel)) ggX0_settle_J7_fill_53178
set_option maxRecDepth 20000 in
theorem ggX0_settle_X0_fits : GoodIn wsX0_settle wsX0_fits := goodIn_r _ [19, 20, 21, 3, 22, 23, 24, 25, 26, 27, 28, 29, 30, 18, 31, 32, 33, 34, 35, 4, 5, 2, 36, 37, 38, 39, 40, 41, 42, 43, 44, 45, 46, 47, 48, 49] (by decide +kernel) (by decide +kernel)
set_option maxRecDepth 20000 in
theorem gX0_settle_X0_fits : GoodIn wsX0_settle (wsV RX0 79 RX0 yX0_fits wsX0_fits) := goodIn_app (goodIn_of _ (by decide +kernel)) ggX0_settle_X0_fits
theorem dX0_settle_0 : decode cX0_settle 0 = .ok (.aload_n 0, 1) := by decide +kernel
theorem dX0_settle_1 : decode cX0_settle 1 = .ok (.getfield 49, 3) := by decide +kernel
theorem dX0_settle_4 : decode cX0_settle 4 = .ok (.ifCond .eq 4, 3) := by decide +kernel
theorem dX0_settle_7 : decode cX0_settle 7 = .ok (.return_, 1) := by decide +kernel
theorem dX0_settle_8 : decode cX0_settle 8 = .ok (.aload_n 0, 1) := by decide +kernel
theorem dX0_settle_9 : decode cX0_settle 9 = .ok (.getfield 34, 3) := by decide +kernel
theorem dX0_settle_12 : decode cX0_settle 12 = .ok (.iconst 2, 1) := by decide +kernel
theorem dX0_settle_13 : decode cX0_settle 13 = .ok (.invokestatic 73, 3) := by decide +kernel
theorem dX0_settle_16 : decode cX0_settle 16 = .ok (.aload_n 0, 1) := by decide +kernel
theorem dX0_settle_17 : decode cX0_settle 17 = .ok (.getfield 43, 3) := by decide +kernel
theorem dX0_settle_20 : decode cX0_settle 20 = .ok (.iconst 0, 1) := by decide +kernel
theorem dX0_settle_21 : decode cX0_settle 21 = .ok (.invokestatic 73, 3) := by decide +kernel
theorem dX0_settle_24 : decode cX0_settle 24 = .ok (.aload_n 0, 1) := by decide +kernel
theorem dX0_settle_25 : decode cX0_settle 25 = .ok (.getfield 43, 3) := by decide +kernel
theorem dX0_settle_28 : decode cX0_settle 28 = .ok (.bipush 64, 2) := by decide +kernel
theorem dX0_settle_30 : decode cX0_settle 30 = .ok (.aload_n 0, 1) := by decide +kernel
theorem dX0_settle_31 : decode cX0_settle 31 = .ok (.getfield 9, 3) := by decide +kernel
theorem dX0_settle_34 : decode cX0_settle 34 = .ok (.iastore, 1) := by decide +kernel
theorem dX0_settle_35 : decode cX0_settle 35 = .ok (.aload_n 0, 1) := by decide +kernel
theorem dX0_settle_36 : decode cX0_settle 36 = .ok (.getfield 15, 3) := by decide +kernel
theorem dX0_settle_39 : decode cX0_settle 39 = .ok (.aload_n 0, 1) := by decide +kernel
theorem dX0_settle_40 : decode cX0_settle 40 = .ok (.getfield 18, 3) := by decide +kernel
theorem dX0_settle_43 : decode cX0_settle 43 = .ok (.isub, 1) := by decide +kernel
theorem dX0_settle_44 : decode cX0_settle 44 = .ok (.iconst 0, 1) := by decide +kernel
theorem dX0_settle_45 : decode cX0_settle 45 = .ok (.invokestatic 67, 3) := by decide +kernel
theorem dX0_settle_48 : decode cX0_settle 48 = .ok (.istore_n 1, 1) := by decide +kernel
theorem dX0_settle_49 : decode cX0_settle 49 = .ok (.aload_n 0, 1) := by decide +kernel
theorem dX0_settle_50 : decode cX0_settle 50 = .ok (.getfield 15, 3) := by decide +kernel
theorem dX0_settle_53 : decode cX0_settle 53 = .ok (.iconst 1, 1) := by decide +kernel
theorem dX0_settle_54 : decode cX0_settle 54 = .ok (.isub, 1) := by decide +kernel
theorem dX0_settle_55 : decode cX0_settle 55 = .ok (.istore_n 2, 1) := by decide +kernel
theorem dX0_settle_56 : decode cX0_settle 56 = .ok (.iload_n 2, 1) := by decide +kernel
theorem dX0_settle_57 : decode cX0_settle 57 = .ok (.iload_n 1, 1) := by decide +kernel
theorem dX0_settle_58 : decode cX0_settle 58 = .ok (.if_icmp .lt 28, 3) := by decide +kernel
theorem dX0_settle_61 : decode cX0_settle 61 = .ok (.aload_n 0, 1) := by decide +kernel
theorem dX0_settle_62 : decode cX0_settle 62 = .ok (.getfield 34, 3) := by decide +kernel
theorem dX0_settle_65 : decode cX0_settle 65 = .ok (.iload_n 2, 1) := by decide +kernel
theorem dX0_settle_66 : decode cX0_settle 66 = .ok (.aload_n 0, 1) := by decide +kernel
theorem dX0_settle_67 : decode cX0_settle 67 = .ok (.iload_n 2, 1) := by decide +kernel
theorem dX0_settle_68 : decode cX0_settle 68 = .ok (.invokevirtual 79, 3) := by decide +kernel
theorem dX0_settle_71 : decode cX0_settle 71 = .ok (.ifCond .eq 7, 3) := by decide +kernel
theorem dX0_settle_74 : decode cX0_settle 74 = .ok (.iconst 0, 1) := by decide +kernel
theorem dX0_settle_75 : decode cX0_settle 75 = .ok (.goto 4, 3) := by decide +kernel
theorem dX0_settle_78 : decode cX0_settle 78 = .ok (.iconst 1, 1) := by decide +kernel
theorem dX0_settle_79 : decode cX0_settle 79 = .ok (.iastore, 1) := by decide +kernel
theorem dX0_settle_80 : decode cX0_settle 80 = .ok (.iinc 2 (-1), 3) := by decide +kernel
theorem dX0_settle_83 : decode cX0_settle 83 = .ok (.goto (-27), 3) := by decide +kernel
theorem dX0_settle_86 : decode cX0_settle 86 = .ok (.aload_n 0, 1) := by decide +kernel
theorem dX0_settle_87 : decode cX0_settle 87 = .ok (.iconst 1, 1) := by decide +kernel
theorem dX0_settle_88 : decode cX0_settle 88 = .ok (.putfield 49, 3) := by decide +kernel
theorem dX0_settle_91 : decode cX0_settle 91 = .ok (.return_, 1) := by decide +kernel
set_option maxRecDepth 20000 in
theorem ggX0_leastStep_X0_settle : GoodIn wsX0_leastStep wsX0_settle := goodIn_r _ [7, 8, 9, 10, 2, 11, 12, 13, 14, 15, 16, 17, 18, 19, 20, 21, 22, 23, 6, 24, 25, 26, 27, 28, 1, 29, 30, 31, 32, 33, 34, 35, 36, 37, 38, 39, 40, 41, 42, 43, 44, 45, 46, 47, 48, 49, 50, 51, 52, 53] (by decide +kernel) (by decide +kernel)
set_option maxRecDepth 20000 in
theorem gX0_leastStep_X0_settle : GoodIn wsX0_leastStep (wsV RX0 70 RX0 yX0_settle wsX0_settle) := goodIn_app (goodIn_of _ (by decide +kernel)) ggX0_leastStep_X0_settle
set_option maxRecDepth 20000 in
theorem ggX0_leastStep_X0_climb : GoodIn wsX0_leastStep wsX0_climb := goodIn_r _ [39, 2, 11, 9, 26, 25, 27, 28, 33, 34, 6, 35, 40, 41, 42, 43, 44, 45, 46, 47, 48, 49, 50, 51, 52, 53] (by decide +kernel) (by decide +kernel)
set_option maxRecDepth 20000 in
theorem gX0_leastStep_X0_climb : GoodIn wsX0_leastStep (wsV RX0 83 RX0 yX0_climb wsX0_climb) := goodIn_app (goodIn_of _ (by decide +kernel)) ggX0_leastStep_X0_climb
theorem dX0_leastStep_0 : decode cX0_leastStep 0 = .ok (.aload_n 0, 1) := by decide +kernel
theorem dX0_leastStep_1 : decode cX0_leastStep 1 = .ok (.invokevirtual 70, 3) := by decide +kernel
theorem dX0_leastStep_4 : decode cX0_leastStep 4 = .ok (.iconst 0, 1) := by decide +kernel
theorem dX0_leastStep_5 : decode cX0_leastStep 5 = .ok (.istore_n 3, 1) := by decide +kernel
theorem dX0_leastStep_6 : decode cX0_leastStep 6 = .ok (.iload_n 3, 1) := by decide +kernel
theorem dX0_leastStep_7 : decode cX0_leastStep 7 = .ok (.bipush 64, 2) := by decide +kernel
theorem dX0_leastStep_9 : decode cX0_leastStep 9 = .ok (.if_icmp .gt 29, 3) := by decide +kernel
theorem dX0_leastStep_12 : decode cX0_leastStep 12 = .ok (.aload_n 0, 1) := by decide +kernel
theorem dX0_leastStep_13 : decode cX0_leastStep 13 = .ok (.getfield 46, 3) := by decide +kernel
theorem dX0_leastStep_16 : decode cX0_leastStep 16 = .ok (.iload_n 3, 1) := by decide +kernel
theorem dX0_leastStep_17 : decode cX0_leastStep 17 = .ok (.iload_n 3, 1) := by decide +kernel
theorem dX0_leastStep_18 : decode cX0_leastStep 18 = .ok (.iload_n 1, 1) := by decide +kernel
theorem dX0_leastStep_19 : decode cX0_leastStep 19 = .ok (.if_icmp .ge 11, 3) := by decide +kernel
theorem dX0_leastStep_22 : decode cX0_leastStep 22 = .ok (.aload_n 0, 1) := by decide +kernel
theorem dX0_leastStep_23 : decode cX0_leastStep 23 = .ok (.getfield 9, 3) := by decide +kernel
theorem dX0_leastStep_26 : decode cX0_leastStep 26 = .ok (.ineg, 1) := by decide +kernel
theorem dX0_leastStep_27 : decode cX0_leastStep 27 = .ok (.goto 4, 3) := by decide +kernel
theorem dX0_leastStep_30 : decode cX0_leastStep 30 = .ok (.iconst 0, 1) := by decide +kernel
theorem dX0_leastStep_31 : decode cX0_leastStep 31 = .ok (.iastore, 1) := by decide +kernel
theorem dX0_leastStep_32 : decode cX0_leastStep 32 = .ok (.iinc 3 1, 3) := by decide +kernel
theorem dX0_leastStep_35 : decode cX0_leastStep 35 = .ok (.goto (-29), 3) := by decide +kernel
theorem dX0_leastStep_38 : decode cX0_leastStep 38 = .ok (.aload_n 0, 1) := by decide +kernel
theorem dX0_leastStep_39 : decode cX0_leastStep 39 = .ok (.aload_n 0, 1) := by decide +kernel
theorem dX0_leastStep_40 : decode cX0_leastStep 40 = .ok (.getfield 46, 3) := by decide +kernel
theorem dX0_leastStep_43 : decode cX0_leastStep 43 = .ok (.iload_n 1, 1) := by decide +kernel
theorem dX0_leastStep_44 : decode cX0_leastStep 44 = .ok (.iconst 0, 1) := by decide +kernel
theorem dX0_leastStep_45 : decode cX0_leastStep 45 = .ok (.invokevirtual 83, 3) := by decide +kernel
theorem dX0_leastStep_48 : decode cX0_leastStep 48 = .ok (.pop, 1) := by decide +kernel
theorem dX0_leastStep_49 : decode cX0_leastStep 49 = .ok (.aload_n 0, 1) := by decide +kernel
theorem dX0_leastStep_50 : decode cX0_leastStep 50 = .ok (.getfield 46, 3) := by decide +kernel
theorem dX0_leastStep_53 : decode cX0_leastStep 53 = .ok (.iload_n 2, 1) := by decide +kernel
theorem dX0_leastStep_54 : decode cX0_leastStep 54 = .ok (.iaload, 1) := by decide +kernel
theorem dX0_leastStep_55 : decode cX0_leastStep 55 = .ok (.ireturn, 1) := by decide +kernel
set_option maxRecDepth 20000 in
theorem ggX0_spread_X0_settle : GoodIn wsX0_spread wsX0_settle := goodIn_r _ [21, 22, 23, 2, 9, 24, 25, 10, 11, 12, 13, 26, 27, 28, 29, 30, 31, 32, 20, 33, 34, 35, 36, 37, 8, 4, 5, 6, 7, 38, 39, 40, 41, 42, 43, 44, 52, 53, 54, 55, 56, 57, 58, 59, 60, 61, 62, 63, 64, 65] (by decide +kernel) (by decide +kernel)
set_option maxRecDepth 20000 in
theorem gX0_spread_X0_settle : GoodIn wsX0_spread (wsV RX0 70 RX0 yX0_settle wsX0_settle) := goodIn_app (goodIn_of _ (by decide +kernel)) ggX0_spread_X0_settle
set_option maxRecDepth 20000 in
theorem ggX0_spread_J7_fill_53178 : GoodIn wsX0_spread wsJ7_fill_53178 := goodIn_r _ [29] (by decide +kernel) (by decide +kernel)
set_option maxRecDepth 20000 in
theorem gX0_spread_J7_fill_53178 : GoodIn wsX0_spread (va_wsS RX0 73 yJ7_fill_53178 wsJ7_fill_53178) := goodIn_app (goodIn_of _ (by decide +kernel)) ggX0_spread_J7_fill_53178
set_option maxRecDepth 20000 in
theorem ggX0_spread_X0_sink : GoodIn wsX0_spread wsX0_sink := goodIn_r _ [48, 24, 23, 34, 35, 36, 37, 49, 50, 20, 51, 52, 53, 54, 55, 56, 57, 58, 59, 60, 61, 62, 63, 64, 65] (by decide +kernel) (by decide +kernel)
set_option maxRecDepth 20000 in
theorem gX0_spread_X0_sink : GoodIn wsX0_spread (wsV RX0 93 RX0 yX0_sink wsX0_sink) := goodIn_app (goodIn_of _ (by decide +kernel)) ggX0_spread_X0_sink
set_option maxRecDepth 20000 in
theorem ggX0_spread_X0_raise : GoodIn wsX0_spread wsX0_raise := goodIn_r _ [40] (by decide +kernel) (by decide +kernel)
set_option maxRecDepth 20000 in
theorem gX0_spread_X0_raise : GoodIn wsX0_spread (va_wsS RX0 97 yX0_raise wsX0_raise) := goodIn_app (goodIn_of _ (by decide +kernel)) ggX0_spread_X0_raise
set_option maxRecDepth 20000 in
theorem ggX0_spread_X0_climb : GoodIn wsX0_spread wsX0_climb := goodIn_r _ [44, 9, 24, 23, 35, 34, 36, 37, 38, 39, 20, 40, 52, 53, 54, 55, 56, 57, 58, 59, 60, 61, 62, 63, 64, 65] (by decide +kernel) (by decide +kernel)
set_option maxRecDepth 20000 in
theorem gX0_spread_X0_climb : GoodIn wsX0_spread (wsV RX0 83 RX0 yX0_climb wsX0_climb) := goodIn_app (goodIn_of _ (by decide +kernel)) ggX0_spread_X0_climb
set_option maxRecDepth 20000 in
theorem ggX0_spread_X0_lower : GoodIn wsX0_spread wsX0_lower := goodIn_r _ [51] (by decide +kernel) (by decide +kernel)
set_option maxRecDepth 20000 in
theorem gX0_spread_X0_lower : GoodIn wsX0_spread (va_wsS RX0 100 yX0_lower wsX0_lower) := goodIn_app (goodIn_of _ (by decide +kernel)) ggX0_spread_X0_lower
theorem dX0_spread_0 : decode cX0_spread 0 = .ok (.aload_n 0, 1) := by decide +kernel
theorem dX0_spread_1 : decode cX0_spread 1 = .ok (.getfield 53, 3) := by decide +kernel
theorem dX0_spread_4 : decode cX0_spread 4 = .ok (.ifCond .eq 4, 3) := by decide +kernel
theorem dX0_spread_7 : decode cX0_spread 7 = .ok (.return_, 1) := by decide +kernel
theorem dX0_spread_8 : decode cX0_spread 8 = .ok (.aload_n 0, 1) := by decide +kernel
theorem dX0_spread_9 : decode cX0_spread 9 = .ok (.invokevirtual 70, 3) := by decide +kernel
theorem dX0_spread_12 : decode cX0_spread 12 = .ok (.aload_n 0, 1) := by decide +kernel
theorem dX0_spread_13 : decode cX0_spread 13 = .ok (.getfield 43, 3) := by decide +kernel
theorem dX0_spread_16 : decode cX0_spread 16 = .ok (.iconst 0, 1) := by decide +kernel
theorem dX0_spread_17 : decode cX0_spread 17 = .ok (.aload_n 0, 1) := by decide +kernel
theorem dX0_spread_18 : decode cX0_spread 18 = .ok (.getfield 40, 3) := by decide +kernel
theorem dX0_spread_21 : decode cX0_spread 21 = .ok (.iconst 0, 1) := by decide +kernel
theorem dX0_spread_22 : decode cX0_spread 22 = .ok (.bipush 65, 2) := by decide +kernel
theorem dX0_spread_24 : decode cX0_spread 24 = .ok (.invokestatic 87, 3) := by decide +kernel
theorem dX0_spread_27 : decode cX0_spread 27 = .ok (.aload_n 0, 1) := by decide +kernel
theorem dX0_spread_28 : decode cX0_spread 28 = .ok (.getfield 46, 3) := by decide +kernel
theorem dX0_spread_31 : decode cX0_spread 31 = .ok (.astore_n 1, 1) := by decide +kernel
theorem dX0_spread_32 : decode cX0_spread 32 = .ok (.aload_n 1, 1) := by decide +kernel
theorem dX0_spread_33 : decode cX0_spread 33 = .ok (.aload_n 0, 1) := by decide +kernel
theorem dX0_spread_34 : decode cX0_spread 34 = .ok (.getfield 9, 3) := by decide +kernel
theorem dX0_spread_37 : decode cX0_spread 37 = .ok (.invokestatic 73, 3) := by decide +kernel
theorem dX0_spread_40 : decode cX0_spread 40 = .ok (.aload_n 1, 1) := by decide +kernel
theorem dX0_spread_41 : decode cX0_spread 41 = .ok (.iconst 0, 1) := by decide +kernel
theorem dX0_spread_42 : decode cX0_spread 42 = .ok (.iconst 0, 1) := by decide +kernel
theorem dX0_spread_43 : decode cX0_spread 43 = .ok (.iastore, 1) := by decide +kernel
theorem dX0_spread_44 : decode cX0_spread 44 = .ok (.aload_n 0, 1) := by decide +kernel
theorem dX0_spread_45 : decode cX0_spread 45 = .ok (.aload_n 1, 1) := by decide +kernel
theorem dX0_spread_46 : decode cX0_spread 46 = .ok (.invokevirtual 93, 3) := by decide +kernel
theorem dX0_spread_49 : decode cX0_spread 49 = .ok (.bipush 64, 2) := by decide +kernel
theorem dX0_spread_51 : decode cX0_spread 51 = .ok (.istore_n 2, 1) := by decide +kernel
theorem dX0_spread_52 : decode cX0_spread 52 = .ok (.iload_n 2, 1) := by decide +kernel
theorem dX0_spread_53 : decode cX0_spread 53 = .ok (.ifCond .le 103, 3) := by decide +kernel
theorem dX0_spread_56 : decode cX0_spread 56 = .ok (.aload_n 0, 1) := by decide +kernel
theorem dX0_spread_57 : decode cX0_spread 57 = .ok (.getfield 40, 3) := by decide +kernel
theorem dX0_spread_60 : decode cX0_spread 60 = .ok (.bipush 64, 2) := by decide +kernel
theorem dX0_spread_62 : decode cX0_spread 62 = .ok (.iload_n 2, 1) := by decide +kernel
theorem dX0_spread_63 : decode cX0_spread 63 = .ok (.isub, 1) := by decide +kernel
theorem dX0_spread_64 : decode cX0_spread 64 = .ok (.iaload, 1) := by decide +kernel
theorem dX0_spread_65 : decode cX0_spread 65 = .ok (.istore_n 3, 1) := by decide +kernel
theorem dX0_spread_66 : decode cX0_spread 66 = .ok (.bipush 64, 2) := by decide +kernel
theorem dX0_spread_68 : decode cX0_spread 68 = .ok (.iload_n 2, 1) := by decide +kernel
theorem dX0_spread_69 : decode cX0_spread 69 = .ok (.isub, 1) := by decide +kernel
theorem dX0_spread_70 : decode cX0_spread 70 = .ok (.iconst 1, 1) := by decide +kernel
theorem dX0_spread_71 : decode cX0_spread 71 = .ok (.iadd, 1) := by decide +kernel
theorem dX0_spread_72 : decode cX0_spread 72 = .ok (.istore 4, 2) := by decide +kernel
theorem dX0_spread_74 : decode cX0_spread 74 = .ok (.iload_n 3, 1) := by decide +kernel
theorem dX0_spread_75 : decode cX0_spread 75 = .ok (.aload_n 0, 1) := by decide +kernel
theorem dX0_spread_76 : decode cX0_spread 76 = .ok (.getfield 9, 3) := by decide +kernel
theorem dX0_spread_79 : decode cX0_spread 79 = .ok (.iload_n 3, 1) := by decide +kernel
theorem dX0_spread_80 : decode cX0_spread 80 = .ok (.isub, 1) := by decide +kernel
theorem dX0_spread_81 : decode cX0_spread 81 = .ok (.iload_n 2, 1) := by decide +kernel
theorem dX0_spread_82 : decode cX0_spread 82 = .ok (.idiv, 1) := by decide +kernel
theorem dX0_spread_83 : decode cX0_spread 83 = .ok (.iadd, 1) := by decide +kernel
theorem dX0_spread_84 : decode cX0_spread 84 = .ok (.istore 5, 2) := by decide +kernel
theorem dX0_spread_86 : decode cX0_spread 86 = .ok (.iload 5, 2) := by decide +kernel
theorem dX0_spread_88 : decode cX0_spread 88 = .ok (.aload_n 0, 1) := by decide +kernel
theorem dX0_spread_89 : decode cX0_spread 89 = .ok (.getfield 40, 3) := by decide +kernel
theorem dX0_spread_92 : decode cX0_spread 92 = .ok (.iload 4, 2) := by decide +kernel
theorem dX0_spread_94 : decode cX0_spread 94 = .ok (.iaload, 1) := by decide +kernel
theorem dX0_spread_95 : decode cX0_spread 95 = .ok (.invokestatic 67, 3) := by decide +kernel
theorem dX0_spread_98 : decode cX0_spread 98 = .ok (.aload_n 1, 1) := by decide +kernel
theorem dX0_spread_99 : decode cX0_spread 99 = .ok (.iload 4, 2) := by decide +kernel
theorem dX0_spread_101 : decode cX0_spread 101 = .ok (.iaload, 1) := by decide +kernel
theorem dX0_spread_102 : decode cX0_spread 102 = .ok (.invokestatic 61, 3) := by decide +kernel
theorem dX0_spread_105 : decode cX0_spread 105 = .ok (.istore 6, 2) := by decide +kernel
theorem dX0_spread_107 : decode cX0_spread 107 = .ok (.aload_n 0, 1) := by decide +kernel
theorem dX0_spread_108 : decode cX0_spread 108 = .ok (.getfield 40, 3) := by decide +kernel
theorem dX0_spread_111 : decode cX0_spread 111 = .ok (.iload 4, 2) := by decide +kernel
theorem dX0_spread_113 : decode cX0_spread 113 = .ok (.iload 6, 2) := by decide +kernel
theorem dX0_spread_115 : decode cX0_spread 115 = .ok (.invokestatic 97, 3) := by decide +kernel
theorem dX0_spread_118 : decode cX0_spread 118 = .ok (.ifCond .eq 16, 3) := by decide +kernel
theorem dX0_spread_121 : decode cX0_spread 121 = .ok (.aload_n 0, 1) := by decide +kernel
theorem dX0_spread_122 : decode cX0_spread 122 = .ok (.aload_n 0, 1) := by decide +kernel
theorem dX0_spread_123 : decode cX0_spread 123 = .ok (.getfield 40, 3) := by decide +kernel
theorem dX0_spread_126 : decode cX0_spread 126 = .ok (.iload 4, 2) := by decide +kernel
theorem dX0_spread_128 : decode cX0_spread 128 = .ok (.iload 6, 2) := by decide +kernel
theorem dX0_spread_130 : decode cX0_spread 130 = .ok (.invokevirtual 83, 3) := by decide +kernel
theorem dX0_spread_133 : decode cX0_spread 133 = .ok (.pop, 1) := by decide +kernel
theorem dX0_spread_134 : decode cX0_spread 134 = .ok (.aload_n 1, 1) := by decide +kernel
theorem dX0_spread_135 : decode cX0_spread 135 = .ok (.iload 4, 2) := by decide +kernel
theorem dX0_spread_137 : decode cX0_spread 137 = .ok (.iload 6, 2) := by decide +kernel
theorem dX0_spread_139 : decode cX0_spread 139 = .ok (.invokestatic 100, 3) := by decide +kernel
theorem dX0_spread_142 : decode cX0_spread 142 = .ok (.ifCond .eq 8, 3) := by decide +kernel
theorem dX0_spread_145 : decode cX0_spread 145 = .ok (.aload_n 0, 1) := by decide +kernel
theorem dX0_spread_146 : decode cX0_spread 146 = .ok (.aload_n 1, 1) := by decide +kernel
theorem dX0_spread_147 : decode cX0_spread 147 = .ok (.invokevirtual 93, 3) := by decide +kernel
theorem dX0_spread_150 : decode cX0_spread 150 = .ok (.iinc 2 (-1), 3) := by decide +kernel
theorem dX0_spread_153 : decode cX0_spread 153 = .ok (.goto (-101), 3) := by decide +kernel
theorem dX0_spread_156 : decode cX0_spread 156 = .ok (.aload_n 0, 1) := by decide +kernel
theorem dX0_spread_157 : decode cX0_spread 157 = .ok (.iconst 1, 1) := by decide +kernel
theorem dX0_spread_158 : decode cX0_spread 158 = .ok (.putfield 53, 3) := by decide +kernel
theorem dX0_spread_161 : decode cX0_spread 161 = .ok (.return_, 1) := by decide +kernel
end
section
theorem dX0_forget_0 : decode cX0_forget 0 = .ok (.aload_n 0, 1) := by decide +kernel
theorem dX0_forget_1 : decode cX0_forget 1 = .ok (.iconst 0, 1) := by decide +kernel
theorem dX0_forget_2 : decode cX0_forget 2 = .ok (.putfield 49, 3) := by decide +kernel
theorem dX0_forget_5 : decode cX0_forget 5 = .ok (.aload_n 0, 1) := by decide +kernel
theorem dX0_forget_6 : decode cX0_forget 6 = .ok (.iconst 0, 1) := by decide +kernel
theorem dX0_forget_7 : decode cX0_forget 7 = .ok (.putfield 53, 3) := by decide +kernel
theorem dX0_forget_10 : decode cX0_forget 10 = .ok (.return_, 1) := by decide +kernel
set_option maxRecDepth 20000 in
theorem ggX0_fits_X0_raise : GoodIn wsX0_fits wsX0_raise := goodIn_r _ [14] (by decide +kernel) (by decide +kernel)
set_option maxRecDepth 20000 in
theorem gX0_fits_X0_raise : GoodIn wsX0_fits (va_wsS RX0 97 yX0_raise wsX0_raise) := goodIn_app (goodIn_of _ (by decide +kernel)) ggX0_fits_X0_raise
set_option maxRecDepth 20000 in
theorem ggX0_fits_X0_climb : GoodIn wsX0_fits wsX0_climb := goodIn_r _ [18, 19, 20, 21, 2, 1, 4, 5, 11, 12, 13, 14, 22, 23, 24, 25, 26, 27, 28, 29, 30, 31, 32, 33, 34, 35] (by decide +kernel) (by decide +kernel)
set_option maxRecDepth 20000 in
theorem gX0_fits_X0_climb : GoodIn wsX0_fits (wsV RX0 83 RX0 yX0_climb wsX0_climb) := goodIn_app (goodIn_of _ (by decide +kernel)) ggX0_fits_X0_climb
theorem dX0_fits_0 : decode cX0_fits 0 = .ok (.aload_n 0, 1) := by decide +kernel
theorem dX0_fits_1 : decode cX0_fits 1 = .ok (.getfield 21, 3) := by decide +kernel
theorem dX0_fits_4 : decode cX0_fits 4 = .ok (.iload_n 1, 1) := by decide +kernel
theorem dX0_fits_5 : decode cX0_fits 5 = .ok (.iaload, 1) := by decide +kernel
theorem dX0_fits_6 : decode cX0_fits 6 = .ok (.istore_n 2, 1) := by decide +kernel
theorem dX0_fits_7 : decode cX0_fits 7 = .ok (.aload_n 0, 1) := by decide +kernel
theorem dX0_fits_8 : decode cX0_fits 8 = .ok (.getfield 25, 3) := by decide +kernel
theorem dX0_fits_11 : decode cX0_fits 11 = .ok (.iload_n 1, 1) := by decide +kernel
theorem dX0_fits_12 : decode cX0_fits 12 = .ok (.iaload, 1) := by decide +kernel
theorem dX0_fits_13 : decode cX0_fits 13 = .ok (.istore_n 3, 1) := by decide +kernel
theorem dX0_fits_14 : decode cX0_fits 14 = .ok (.aload_n 0, 1) := by decide +kernel
theorem dX0_fits_15 : decode cX0_fits 15 = .ok (.getfield 43, 3) := by decide +kernel
theorem dX0_fits_18 : decode cX0_fits 18 = .ok (.iload_n 3, 1) := by decide +kernel
theorem dX0_fits_19 : decode cX0_fits 19 = .ok (.iaload, 1) := by decide +kernel
theorem dX0_fits_20 : decode cX0_fits 20 = .ok (.aload_n 0, 1) := by decide +kernel
theorem dX0_fits_21 : decode cX0_fits 21 = .ok (.getfield 43, 3) := by decide +kernel
theorem dX0_fits_24 : decode cX0_fits 24 = .ok (.iload_n 2, 1) := by decide +kernel
theorem dX0_fits_25 : decode cX0_fits 25 = .ok (.iaload, 1) := by decide +kernel
theorem dX0_fits_26 : decode cX0_fits 26 = .ok (.isub, 1) := by decide +kernel
theorem dX0_fits_27 : decode cX0_fits 27 = .ok (.istore 4, 2) := by decide +kernel
theorem dX0_fits_29 : decode cX0_fits 29 = .ok (.iload 4, 2) := by decide +kernel
theorem dX0_fits_31 : decode cX0_fits 31 = .ok (.aload_n 0, 1) := by decide +kernel
theorem dX0_fits_32 : decode cX0_fits 32 = .ok (.getfield 28, 3) := by decide +kernel
theorem dX0_fits_35 : decode cX0_fits 35 = .ok (.iload_n 1, 1) := by decide +kernel
theorem dX0_fits_36 : decode cX0_fits 36 = .ok (.iaload, 1) := by decide +kernel
theorem dX0_fits_37 : decode cX0_fits 37 = .ok (.if_icmp .lt 16, 3) := by decide +kernel
theorem dX0_fits_40 : decode cX0_fits 40 = .ok (.iload 4, 2) := by decide +kernel
theorem dX0_fits_42 : decode cX0_fits 42 = .ok (.aload_n 0, 1) := by decide +kernel
theorem dX0_fits_43 : decode cX0_fits 43 = .ok (.getfield 31, 3) := by decide +kernel
theorem dX0_fits_46 : decode cX0_fits 46 = .ok (.iload_n 1, 1) := by decide +kernel
theorem dX0_fits_47 : decode cX0_fits 47 = .ok (.iaload, 1) := by decide +kernel
theorem dX0_fits_48 : decode cX0_fits 48 = .ok (.if_icmp .gt 5, 3) := by decide +kernel
theorem dX0_fits_51 : decode cX0_fits 51 = .ok (.iconst 1, 1) := by decide +kernel
theorem dX0_fits_52 : decode cX0_fits 52 = .ok (.ireturn, 1) := by decide +kernel
theorem dX0_fits_53 : decode cX0_fits 53 = .ok (.iload 4, 2) := by decide +kernel
theorem dX0_fits_55 : decode cX0_fits 55 = .ok (.aload_n 0, 1) := by decide +kernel
theorem dX0_fits_56 : decode cX0_fits 56 = .ok (.getfield 28, 3) := by decide +kernel
theorem dX0_fits_59 : decode cX0_fits 59 = .ok (.iload_n 1, 1) := by decide +kernel
theorem dX0_fits_60 : decode cX0_fits 60 = .ok (.iaload, 1) := by decide +kernel
theorem dX0_fits_61 : decode cX0_fits 61 = .ok (.if_icmp .ge 7, 3) := by decide +kernel
theorem dX0_fits_64 : decode cX0_fits 64 = .ok (.iconst 1, 1) := by decide +kernel
theorem dX0_fits_65 : decode cX0_fits 65 = .ok (.goto 4, 3) := by decide +kernel
theorem dX0_fits_68 : decode cX0_fits 68 = .ok (.iconst 0, 1) := by decide +kernel
theorem dX0_fits_69 : decode cX0_fits 69 = .ok (.istore 5, 2) := by decide +kernel
theorem dX0_fits_71 : decode cX0_fits 71 = .ok (.iload 5, 2) := by decide +kernel
theorem dX0_fits_73 : decode cX0_fits 73 = .ok (.ifCond .eq 7, 3) := by decide +kernel
theorem dX0_fits_76 : decode cX0_fits 76 = .ok (.iload_n 3, 1) := by decide +kernel
theorem dX0_fits_77 : decode cX0_fits 77 = .ok (.goto 4, 3) := by decide +kernel
theorem dX0_fits_80 : decode cX0_fits 80 = .ok (.iload_n 2, 1) := by decide +kernel
theorem dX0_fits_81 : decode cX0_fits 81 = .ok (.istore 6, 2) := by decide +kernel
theorem dX0_fits_83 : decode cX0_fits 83 = .ok (.iload 5, 2) := by decide +kernel
theorem dX0_fits_85 : decode cX0_fits 85 = .ok (.ifCond .eq 7, 3) := by decide +kernel
theorem dX0_fits_88 : decode cX0_fits 88 = .ok (.iload_n 2, 1) := by decide +kernel
theorem dX0_fits_89 : decode cX0_fits 89 = .ok (.goto 4, 3) := by decide +kernel
theorem dX0_fits_92 : decode cX0_fits 92 = .ok (.iload_n 3, 1) := by decide +kernel
theorem dX0_fits_93 : decode cX0_fits 93 = .ok (.istore 7, 2) := by decide +kernel
theorem dX0_fits_95 : decode cX0_fits 95 = .ok (.iload 5, 2) := by decide +kernel
theorem dX0_fits_97 : decode cX0_fits 97 = .ok (.ifCond .eq 19, 3) := by decide +kernel
theorem dX0_fits_100 : decode cX0_fits 100 = .ok (.aload_n 0, 1) := by decide +kernel
theorem dX0_fits_101 : decode cX0_fits 101 = .ok (.getfield 43, 3) := by decide +kernel
theorem dX0_fits_104 : decode cX0_fits 104 = .ok (.iload_n 2, 1) := by decide +kernel
theorem dX0_fits_105 : decode cX0_fits 105 = .ok (.iaload, 1) := by decide +kernel
theorem dX0_fits_106 : decode cX0_fits 106 = .ok (.aload_n 0, 1) := by decide +kernel
theorem dX0_fits_107 : decode cX0_fits 107 = .ok (.getfield 28, 3) := by decide +kernel
theorem dX0_fits_110 : decode cX0_fits 110 = .ok (.iload_n 1, 1) := by decide +kernel
theorem dX0_fits_111 : decode cX0_fits 111 = .ok (.iaload, 1) := by decide +kernel
theorem dX0_fits_112 : decode cX0_fits 112 = .ok (.iadd, 1) := by decide +kernel
theorem dX0_fits_113 : decode cX0_fits 113 = .ok (.goto 16, 3) := by decide +kernel
theorem dX0_fits_116 : decode cX0_fits 116 = .ok (.aload_n 0, 1) := by decide +kernel
theorem dX0_fits_117 : decode cX0_fits 117 = .ok (.getfield 43, 3) := by decide +kernel
theorem dX0_fits_120 : decode cX0_fits 120 = .ok (.iload_n 3, 1) := by decide +kernel
theorem dX0_fits_121 : decode cX0_fits 121 = .ok (.iaload, 1) := by decide +kernel
theorem dX0_fits_122 : decode cX0_fits 122 = .ok (.aload_n 0, 1) := by decide +kernel
theorem dX0_fits_123 : decode cX0_fits 123 = .ok (.getfield 31, 3) := by decide +kernel
theorem dX0_fits_126 : decode cX0_fits 126 = .ok (.iload_n 1, 1) := by decide +kernel
theorem dX0_fits_127 : decode cX0_fits 127 = .ok (.iaload, 1) := by decide +kernel
theorem dX0_fits_128 : decode cX0_fits 128 = .ok (.isub, 1) := by decide +kernel
theorem dX0_fits_129 : decode cX0_fits 129 = .ok (.istore 8, 2) := by decide +kernel
theorem dX0_fits_131 : decode cX0_fits 131 = .ok (.aload_n 0, 1) := by decide +kernel
theorem dX0_fits_132 : decode cX0_fits 132 = .ok (.getfield 43, 3) := by decide +kernel
theorem dX0_fits_135 : decode cX0_fits 135 = .ok (.iconst 0, 1) := by decide +kernel
theorem dX0_fits_136 : decode cX0_fits 136 = .ok (.aload_n 0, 1) := by decide +kernel
theorem dX0_fits_137 : decode cX0_fits 137 = .ok (.getfield 46, 3) := by decide +kernel
theorem dX0_fits_140 : decode cX0_fits 140 = .ok (.iconst 0, 1) := by decide +kernel
theorem dX0_fits_141 : decode cX0_fits 141 = .ok (.bipush 65, 2) := by decide +kernel
theorem dX0_fits_143 : decode cX0_fits 143 = .ok (.invokestatic 87, 3) := by decide +kernel
theorem dX0_fits_146 : decode cX0_fits 146 = .ok (.aload_n 0, 1) := by decide +kernel
theorem dX0_fits_147 : decode cX0_fits 147 = .ok (.getfield 46, 3) := by decide +kernel
theorem dX0_fits_150 : decode cX0_fits 150 = .ok (.iload 6, 2) := by decide +kernel
theorem dX0_fits_152 : decode cX0_fits 152 = .ok (.iload 8, 2) := by decide +kernel
theorem dX0_fits_154 : decode cX0_fits 154 = .ok (.invokestatic 97, 3) := by decide +kernel
theorem dX0_fits_157 : decode cX0_fits 157 = .ok (.pop, 1) := by decide +kernel
theorem dX0_fits_158 : decode cX0_fits 158 = .ok (.aload_n 0, 1) := by decide +kernel
theorem dX0_fits_159 : decode cX0_fits 159 = .ok (.aload_n 0, 1) := by decide +kernel
theorem dX0_fits_160 : decode cX0_fits 160 = .ok (.getfield 46, 3) := by decide +kernel
theorem dX0_fits_163 : decode cX0_fits 163 = .ok (.iload 7, 2) := by decide +kernel
theorem dX0_fits_165 : decode cX0_fits 165 = .ok (.aload_n 0, 1) := by decide +kernel
theorem dX0_fits_166 : decode cX0_fits 166 = .ok (.getfield 43, 3) := by decide +kernel
theorem dX0_fits_169 : decode cX0_fits 169 = .ok (.iload 7, 2) := by decide +kernel
theorem dX0_fits_171 : decode cX0_fits 171 = .ok (.iaload, 1) := by decide +kernel
theorem dX0_fits_172 : decode cX0_fits 172 = .ok (.invokevirtual 83, 3) := by decide +kernel
theorem dX0_fits_175 : decode cX0_fits 175 = .ok (.ifCond .ne 5, 3) := by decide +kernel
theorem dX0_fits_178 : decode cX0_fits 178 = .ok (.iconst 0, 1) := by decide +kernel
theorem dX0_fits_179 : decode cX0_fits 179 = .ok (.ireturn, 1) := by decide +kernel
theorem dX0_fits_180 : decode cX0_fits 180 = .ok (.aload_n 0, 1) := by decide +kernel
theorem dX0_fits_181 : decode cX0_fits 181 = .ok (.getfield 46, 3) := by decide +kernel
theorem dX0_fits_184 : decode cX0_fits 184 = .ok (.iconst 0, 1) := by decide +kernel
theorem dX0_fits_185 : decode cX0_fits 185 = .ok (.aload_n 0, 1) := by decide +kernel
theorem dX0_fits_186 : decode cX0_fits 186 = .ok (.getfield 43, 3) := by decide +kernel
theorem dX0_fits_189 : decode cX0_fits 189 = .ok (.iconst 0, 1) := by decide +kernel
theorem dX0_fits_190 : decode cX0_fits 190 = .ok (.bipush 65, 2) := by decide +kernel
theorem dX0_fits_192 : decode cX0_fits 192 = .ok (.invokestatic 87, 3) := by decide +kernel
theorem dX0_fits_195 : decode cX0_fits 195 = .ok (.iconst 1, 1) := by decide +kernel
theorem dX0_fits_196 : decode cX0_fits 196 = .ok (.ireturn, 1) := by decide +kernel
set_option maxRecDepth 20000 in
theorem ggX0_climb_X0_raise : GoodIn wsX0_climb wsX0_raise := goodIn_r _ [11] (by decide +kernel) (by decide +kernel)
set_option maxRecDepth 20000 in
theorem gX0_climb_X0_raise : GoodIn wsX0_climb (va_wsS RX0 97 yX0_raise wsX0_raise) := goodIn_app (goodIn_of _ (by decide +kernel)) ggX0_climb_X0_raise
theorem dX0_climb_0 : decode cX0_climb 0 = .ok (.iconst 1, 1) := by decide +kernel
theorem dX0_climb_1 : decode cX0_climb 1 = .ok (.istore 4, 2) := by decide +kernel
theorem dX0_climb_3 : decode cX0_climb 3 = .ok (.iconst 0, 1) := by decide +kernel
theorem dX0_climb_4 : decode cX0_climb 4 = .ok (.istore 5, 2) := by decide +kernel
theorem dX0_climb_6 : decode cX0_climb 6 = .ok (.iload 5, 2) := by decide +kernel
theorem dX0_climb_8 : decode cX0_climb 8 = .ok (.bipush 66, 2) := by decide +kernel
theorem dX0_climb_10 : decode cX0_climb 10 = .ok (.if_icmp .ge 156, 3) := by decide +kernel
theorem dX0_climb_13 : decode cX0_climb 13 = .ok (.iload 4, 2) := by decide +kernel
theorem dX0_climb_15 : decode cX0_climb 15 = .ok (.ifCond .eq 151, 3) := by decide +kernel
theorem dX0_climb_18 : decode cX0_climb 18 = .ok (.aload_n 1, 1) := by decide +kernel
theorem dX0_climb_19 : decode cX0_climb 19 = .ok (.iload_n 2, 1) := by decide +kernel
theorem dX0_climb_20 : decode cX0_climb 20 = .ok (.iaload, 1) := by decide +kernel
theorem dX0_climb_21 : decode cX0_climb 21 = .ok (.iload_n 3, 1) := by decide +kernel
theorem dX0_climb_22 : decode cX0_climb 22 = .ok (.if_icmp .gt 144, 3) := by decide +kernel
theorem dX0_climb_25 : decode cX0_climb 25 = .ok (.aload_n 1, 1) := by decide +kernel
theorem dX0_climb_26 : decode cX0_climb 26 = .ok (.iconst 0, 1) := by decide +kernel
theorem dX0_climb_27 : decode cX0_climb 27 = .ok (.aload_n 1, 1) := by decide +kernel
theorem dX0_climb_28 : decode cX0_climb 28 = .ok (.bipush 64, 2) := by decide +kernel
theorem dX0_climb_30 : decode cX0_climb 30 = .ok (.iaload, 1) := by decide +kernel
theorem dX0_climb_31 : decode cX0_climb 31 = .ok (.aload_n 0, 1) := by decide +kernel
theorem dX0_climb_32 : decode cX0_climb 32 = .ok (.getfield 9, 3) := by decide +kernel
theorem dX0_climb_35 : decode cX0_climb 35 = .ok (.isub, 1) := by decide +kernel
theorem dX0_climb_36 : decode cX0_climb 36 = .ok (.invokestatic 97, 3) := by decide +kernel
theorem dX0_climb_39 : decode cX0_climb 39 = .ok (.istore 4, 2) := by decide +kernel
theorem dX0_climb_41 : decode cX0_climb 41 = .ok (.aload_n 1, 1) := by decide +kernel
theorem dX0_climb_42 : decode cX0_climb 42 = .ok (.bipush 64, 2) := by decide +kernel
theorem dX0_climb_44 : decode cX0_climb 44 = .ok (.aload_n 1, 1) := by decide +kernel
theorem dX0_climb_45 : decode cX0_climb 45 = .ok (.iconst 0, 1) := by decide +kernel
theorem dX0_climb_46 : decode cX0_climb 46 = .ok (.iaload, 1) := by decide +kernel
theorem dX0_climb_47 : decode cX0_climb 47 = .ok (.aload_n 0, 1) := by decide +kernel
theorem dX0_climb_48 : decode cX0_climb 48 = .ok (.getfield 9, 3) := by decide +kernel
theorem dX0_climb_51 : decode cX0_climb 51 = .ok (.iadd, 1) := by decide +kernel
theorem dX0_climb_52 : decode cX0_climb 52 = .ok (.invokestatic 97, 3) := by decide +kernel
theorem dX0_climb_55 : decode cX0_climb 55 = .ok (.ifCond .eq 6, 3) := by decide +kernel
theorem dX0_climb_58 : decode cX0_climb 58 = .ok (.iconst 1, 1) := by decide +kernel
theorem dX0_climb_59 : decode cX0_climb 59 = .ok (.istore 4, 2) := by decide +kernel
theorem dX0_climb_61 : decode cX0_climb 61 = .ok (.iconst 0, 1) := by decide +kernel
theorem dX0_climb_62 : decode cX0_climb 62 = .ok (.istore 6, 2) := by decide +kernel
theorem dX0_climb_64 : decode cX0_climb 64 = .ok (.iload 6, 2) := by decide +kernel
theorem dX0_climb_66 : decode cX0_climb 66 = .ok (.aload_n 0, 1) := by decide +kernel
theorem dX0_climb_67 : decode cX0_climb 67 = .ok (.getfield 15, 3) := by decide +kernel
theorem dX0_climb_70 : decode cX0_climb 70 = .ok (.if_icmp .ge 90, 3) := by decide +kernel
theorem dX0_climb_73 : decode cX0_climb 73 = .ok (.aload_n 0, 1) := by decide +kernel
theorem dX0_climb_74 : decode cX0_climb 74 = .ok (.getfield 34, 3) := by decide +kernel
theorem dX0_climb_77 : decode cX0_climb 77 = .ok (.iload 6, 2) := by decide +kernel
theorem dX0_climb_79 : decode cX0_climb 79 = .ok (.iaload, 1) := by decide +kernel
theorem dX0_climb_80 : decode cX0_climb 80 = .ok (.ifCond .eq 6, 3) := by decide +kernel
theorem dX0_climb_83 : decode cX0_climb 83 = .ok (.goto 71, 3) := by decide +kernel
theorem dX0_climb_86 : decode cX0_climb 86 = .ok (.aload_n 1, 1) := by decide +kernel
theorem dX0_climb_87 : decode cX0_climb 87 = .ok (.aload_n 0, 1) := by decide +kernel
theorem dX0_climb_88 : decode cX0_climb 88 = .ok (.getfield 25, 3) := by decide +kernel
theorem dX0_climb_91 : decode cX0_climb 91 = .ok (.iload 6, 2) := by decide +kernel
theorem dX0_climb_93 : decode cX0_climb 93 = .ok (.iaload, 1) := by decide +kernel
theorem dX0_climb_94 : decode cX0_climb 94 = .ok (.aload_n 1, 1) := by decide +kernel
theorem dX0_climb_95 : decode cX0_climb 95 = .ok (.aload_n 0, 1) := by decide +kernel
theorem dX0_climb_96 : decode cX0_climb 96 = .ok (.getfield 21, 3) := by decide +kernel
theorem dX0_climb_99 : decode cX0_climb 99 = .ok (.iload 6, 2) := by decide +kernel
theorem dX0_climb_101 : decode cX0_climb 101 = .ok (.iaload, 1) := by decide +kernel
theorem dX0_climb_102 : decode cX0_climb 102 = .ok (.iaload, 1) := by decide +kernel
theorem dX0_climb_103 : decode cX0_climb 103 = .ok (.aload_n 0, 1) := by decide +kernel
theorem dX0_climb_104 : decode cX0_climb 104 = .ok (.getfield 28, 3) := by decide +kernel
theorem dX0_climb_107 : decode cX0_climb 107 = .ok (.iload 6, 2) := by decide +kernel
theorem dX0_climb_109 : decode cX0_climb 109 = .ok (.iaload, 1) := by decide +kernel
theorem dX0_climb_110 : decode cX0_climb 110 = .ok (.iadd, 1) := by decide +kernel
theorem dX0_climb_111 : decode cX0_climb 111 = .ok (.invokestatic 97, 3) := by decide +kernel
theorem dX0_climb_114 : decode cX0_climb 114 = .ok (.ifCond .eq 6, 3) := by decide +kernel
theorem dX0_climb_117 : decode cX0_climb 117 = .ok (.iconst 1, 1) := by decide +kernel
theorem dX0_climb_118 : decode cX0_climb 118 = .ok (.istore 4, 2) := by decide +kernel
theorem dX0_climb_120 : decode cX0_climb 120 = .ok (.aload_n 1, 1) := by decide +kernel
theorem dX0_climb_121 : decode cX0_climb 121 = .ok (.aload_n 0, 1) := by decide +kernel
theorem dX0_climb_122 : decode cX0_climb 122 = .ok (.getfield 21, 3) := by decide +kernel
theorem dX0_climb_125 : decode cX0_climb 125 = .ok (.iload 6, 2) := by decide +kernel
theorem dX0_climb_127 : decode cX0_climb 127 = .ok (.iaload, 1) := by decide +kernel
theorem dX0_climb_128 : decode cX0_climb 128 = .ok (.aload_n 1, 1) := by decide +kernel
theorem dX0_climb_129 : decode cX0_climb 129 = .ok (.aload_n 0, 1) := by decide +kernel
theorem dX0_climb_130 : decode cX0_climb 130 = .ok (.getfield 25, 3) := by decide +kernel
theorem dX0_climb_133 : decode cX0_climb 133 = .ok (.iload 6, 2) := by decide +kernel
theorem dX0_climb_135 : decode cX0_climb 135 = .ok (.iaload, 1) := by decide +kernel
theorem dX0_climb_136 : decode cX0_climb 136 = .ok (.iaload, 1) := by decide +kernel
theorem dX0_climb_137 : decode cX0_climb 137 = .ok (.aload_n 0, 1) := by decide +kernel
theorem dX0_climb_138 : decode cX0_climb 138 = .ok (.getfield 31, 3) := by decide +kernel
theorem dX0_climb_141 : decode cX0_climb 141 = .ok (.iload 6, 2) := by decide +kernel
theorem dX0_climb_143 : decode cX0_climb 143 = .ok (.iaload, 1) := by decide +kernel
theorem dX0_climb_144 : decode cX0_climb 144 = .ok (.isub, 1) := by decide +kernel
theorem dX0_climb_145 : decode cX0_climb 145 = .ok (.invokestatic 97, 3) := by decide +kernel
theorem dX0_climb_148 : decode cX0_climb 148 = .ok (.ifCond .eq 6, 3) := by decide +kernel
theorem dX0_climb_151 : decode cX0_climb 151 = .ok (.iconst 1, 1) := by decide +kernel
theorem dX0_climb_152 : decode cX0_climb 152 = .ok (.istore 4, 2) := by decide +kernel
theorem dX0_climb_154 : decode cX0_climb 154 = .ok (.iinc 6 1, 3) := by decide +kernel
theorem dX0_climb_157 : decode cX0_climb 157 = .ok (.goto (-93), 3) := by decide +kernel
theorem dX0_climb_160 : decode cX0_climb 160 = .ok (.iinc 5 1, 3) := by decide +kernel
theorem dX0_climb_163 : decode cX0_climb 163 = .ok (.goto (-157), 3) := by decide +kernel
theorem dX0_climb_166 : decode cX0_climb 166 = .ok (.aload_n 1, 1) := by decide +kernel
theorem dX0_climb_167 : decode cX0_climb 167 = .ok (.iload_n 2, 1) := by decide +kernel
theorem dX0_climb_168 : decode cX0_climb 168 = .ok (.iaload, 1) := by decide +kernel
theorem dX0_climb_169 : decode cX0_climb 169 = .ok (.iload_n 3, 1) := by decide +kernel
theorem dX0_climb_170 : decode cX0_climb 170 = .ok (.if_icmp .gt 7, 3) := by decide +kernel
theorem dX0_climb_173 : decode cX0_climb 173 = .ok (.iconst 1, 1) := by decide +kernel
theorem dX0_climb_174 : decode cX0_climb 174 = .ok (.goto 4, 3) := by decide +kernel
theorem dX0_climb_177 : decode cX0_climb 177 = .ok (.iconst 0, 1) := by decide +kernel
theorem dX0_climb_178 : decode cX0_climb 178 = .ok (.ireturn, 1) := by decide +kernel
set_option maxRecDepth 20000 in
theorem ggX0_sink_X0_lower : GoodIn wsX0_sink wsX0_lower := goodIn_r _ [10] (by decide +kernel) (by decide +kernel)
set_option maxRecDepth 20000 in
theorem gX0_sink_X0_lower : GoodIn wsX0_sink (va_wsS RX0 100 yX0_lower wsX0_lower) := goodIn_app (goodIn_of _ (by decide +kernel)) ggX0_sink_X0_lower
theorem dX0_sink_0 : decode cX0_sink 0 = .ok (.iconst 1, 1) := by decide +kernel
theorem dX0_sink_1 : decode cX0_sink 1 = .ok (.istore_n 2, 1) := by decide +kernel
theorem dX0_sink_2 : decode cX0_sink 2 = .ok (.iconst 0, 1) := by decide +kernel
theorem dX0_sink_3 : decode cX0_sink 3 = .ok (.istore_n 3, 1) := by decide +kernel
theorem dX0_sink_4 : decode cX0_sink 4 = .ok (.iload_n 3, 1) := by decide +kernel
theorem dX0_sink_5 : decode cX0_sink 5 = .ok (.bipush 66, 2) := by decide +kernel
theorem dX0_sink_7 : decode cX0_sink 7 = .ok (.if_icmp .ge 112, 3) := by decide +kernel
theorem dX0_sink_10 : decode cX0_sink 10 = .ok (.iload_n 2, 1) := by decide +kernel
theorem dX0_sink_11 : decode cX0_sink 11 = .ok (.ifCond .eq 108, 3) := by decide +kernel
theorem dX0_sink_14 : decode cX0_sink 14 = .ok (.iconst 0, 1) := by decide +kernel
theorem dX0_sink_15 : decode cX0_sink 15 = .ok (.istore_n 2, 1) := by decide +kernel
theorem dX0_sink_16 : decode cX0_sink 16 = .ok (.iconst 0, 1) := by decide +kernel
theorem dX0_sink_17 : decode cX0_sink 17 = .ok (.istore 4, 2) := by decide +kernel
theorem dX0_sink_19 : decode cX0_sink 19 = .ok (.iload 4, 2) := by decide +kernel
theorem dX0_sink_21 : decode cX0_sink 21 = .ok (.aload_n 0, 1) := by decide +kernel
theorem dX0_sink_22 : decode cX0_sink 22 = .ok (.getfield 15, 3) := by decide +kernel
theorem dX0_sink_25 : decode cX0_sink 25 = .ok (.if_icmp .ge 88, 3) := by decide +kernel
theorem dX0_sink_28 : decode cX0_sink 28 = .ok (.aload_n 0, 1) := by decide +kernel
theorem dX0_sink_29 : decode cX0_sink 29 = .ok (.getfield 34, 3) := by decide +kernel
theorem dX0_sink_32 : decode cX0_sink 32 = .ok (.iload 4, 2) := by decide +kernel
theorem dX0_sink_34 : decode cX0_sink 34 = .ok (.iaload, 1) := by decide +kernel
theorem dX0_sink_35 : decode cX0_sink 35 = .ok (.ifCond .eq 6, 3) := by decide +kernel
theorem dX0_sink_38 : decode cX0_sink 38 = .ok (.goto 69, 3) := by decide +kernel
theorem dX0_sink_41 : decode cX0_sink 41 = .ok (.aload_n 1, 1) := by decide +kernel
theorem dX0_sink_42 : decode cX0_sink 42 = .ok (.aload_n 0, 1) := by decide +kernel
theorem dX0_sink_43 : decode cX0_sink 43 = .ok (.getfield 21, 3) := by decide +kernel
theorem dX0_sink_46 : decode cX0_sink 46 = .ok (.iload 4, 2) := by decide +kernel
theorem dX0_sink_48 : decode cX0_sink 48 = .ok (.iaload, 1) := by decide +kernel
theorem dX0_sink_49 : decode cX0_sink 49 = .ok (.aload_n 1, 1) := by decide +kernel
theorem dX0_sink_50 : decode cX0_sink 50 = .ok (.aload_n 0, 1) := by decide +kernel
theorem dX0_sink_51 : decode cX0_sink 51 = .ok (.getfield 25, 3) := by decide +kernel
theorem dX0_sink_54 : decode cX0_sink 54 = .ok (.iload 4, 2) := by decide +kernel
theorem dX0_sink_56 : decode cX0_sink 56 = .ok (.iaload, 1) := by decide +kernel
theorem dX0_sink_57 : decode cX0_sink 57 = .ok (.iaload, 1) := by decide +kernel
theorem dX0_sink_58 : decode cX0_sink 58 = .ok (.aload_n 0, 1) := by decide +kernel
theorem dX0_sink_59 : decode cX0_sink 59 = .ok (.getfield 28, 3) := by decide +kernel
theorem dX0_sink_62 : decode cX0_sink 62 = .ok (.iload 4, 2) := by decide +kernel
theorem dX0_sink_64 : decode cX0_sink 64 = .ok (.iaload, 1) := by decide +kernel
theorem dX0_sink_65 : decode cX0_sink 65 = .ok (.isub, 1) := by decide +kernel
theorem dX0_sink_66 : decode cX0_sink 66 = .ok (.invokestatic 100, 3) := by decide +kernel
theorem dX0_sink_69 : decode cX0_sink 69 = .ok (.ifCond .eq 5, 3) := by decide +kernel
theorem dX0_sink_72 : decode cX0_sink 72 = .ok (.iconst 1, 1) := by decide +kernel
theorem dX0_sink_73 : decode cX0_sink 73 = .ok (.istore_n 2, 1) := by decide +kernel
theorem dX0_sink_74 : decode cX0_sink 74 = .ok (.aload_n 1, 1) := by decide +kernel
theorem dX0_sink_75 : decode cX0_sink 75 = .ok (.aload_n 0, 1) := by decide +kernel
theorem dX0_sink_76 : decode cX0_sink 76 = .ok (.getfield 25, 3) := by decide +kernel
theorem dX0_sink_79 : decode cX0_sink 79 = .ok (.iload 4, 2) := by decide +kernel
theorem dX0_sink_81 : decode cX0_sink 81 = .ok (.iaload, 1) := by decide +kernel
theorem dX0_sink_82 : decode cX0_sink 82 = .ok (.aload_n 1, 1) := by decide +kernel
theorem dX0_sink_83 : decode cX0_sink 83 = .ok (.aload_n 0, 1) := by decide +kernel
theorem dX0_sink_84 : decode cX0_sink 84 = .ok (.getfield 21, 3) := by decide +kernel
theorem dX0_sink_87 : decode cX0_sink 87 = .ok (.iload 4, 2) := by decide +kernel
theorem dX0_sink_89 : decode cX0_sink 89 = .ok (.iaload, 1) := by decide +kernel
theorem dX0_sink_90 : decode cX0_sink 90 = .ok (.iaload, 1) := by decide +kernel
theorem dX0_sink_91 : decode cX0_sink 91 = .ok (.aload_n 0, 1) := by decide +kernel
theorem dX0_sink_92 : decode cX0_sink 92 = .ok (.getfield 31, 3) := by decide +kernel
theorem dX0_sink_95 : decode cX0_sink 95 = .ok (.iload 4, 2) := by decide +kernel
theorem dX0_sink_97 : decode cX0_sink 97 = .ok (.iaload, 1) := by decide +kernel
theorem dX0_sink_98 : decode cX0_sink 98 = .ok (.iadd, 1) := by decide +kernel
theorem dX0_sink_99 : decode cX0_sink 99 = .ok (.invokestatic 100, 3) := by decide +kernel
theorem dX0_sink_102 : decode cX0_sink 102 = .ok (.ifCond .eq 5, 3) := by decide +kernel
theorem dX0_sink_105 : decode cX0_sink 105 = .ok (.iconst 1, 1) := by decide +kernel
theorem dX0_sink_106 : decode cX0_sink 106 = .ok (.istore_n 2, 1) := by decide +kernel
theorem dX0_sink_107 : decode cX0_sink 107 = .ok (.iinc 4 1, 3) := by decide +kernel
theorem dX0_sink_110 : decode cX0_sink 110 = .ok (.goto (-91), 3) := by decide +kernel
theorem dX0_sink_113 : decode cX0_sink 113 = .ok (.iinc 3 1, 3) := by decide +kernel
theorem dX0_sink_116 : decode cX0_sink 116 = .ok (.goto (-112), 3) := by decide +kernel
theorem dX0_sink_119 : decode cX0_sink 119 = .ok (.return_, 1) := by decide +kernel
theorem dX0_raise_0 : decode cX0_raise 0 = .ok (.iconst 0, 1) := by decide +kernel
theorem dX0_raise_1 : decode cX0_raise 1 = .ok (.istore_n 3, 1) := by decide +kernel
theorem dX0_raise_2 : decode cX0_raise 2 = .ok (.iload_n 1, 1) := by decide +kernel
theorem dX0_raise_3 : decode cX0_raise 3 = .ok (.istore 4, 2) := by decide +kernel
theorem dX0_raise_5 : decode cX0_raise 5 = .ok (.iload 4, 2) := by decide +kernel
theorem dX0_raise_7 : decode cX0_raise 7 = .ok (.bipush 64, 2) := by decide +kernel
theorem dX0_raise_9 : decode cX0_raise 9 = .ok (.if_icmp .gt 24, 3) := by decide +kernel
theorem dX0_raise_12 : decode cX0_raise 12 = .ok (.aload_n 0, 1) := by decide +kernel
theorem dX0_raise_13 : decode cX0_raise 13 = .ok (.iload 4, 2) := by decide +kernel
theorem dX0_raise_15 : decode cX0_raise 15 = .ok (.iaload, 1) := by decide +kernel
theorem dX0_raise_16 : decode cX0_raise 16 = .ok (.iload_n 2, 1) := by decide +kernel
theorem dX0_raise_17 : decode cX0_raise 17 = .ok (.if_icmp .ge 16, 3) := by decide +kernel
theorem dX0_raise_20 : decode cX0_raise 20 = .ok (.aload_n 0, 1) := by decide +kernel
theorem dX0_raise_21 : decode cX0_raise 21 = .ok (.iload 4, 2) := by decide +kernel
theorem dX0_raise_23 : decode cX0_raise 23 = .ok (.iload_n 2, 1) := by decide +kernel
theorem dX0_raise_24 : decode cX0_raise 24 = .ok (.iastore, 1) := by decide +kernel
theorem dX0_raise_25 : decode cX0_raise 25 = .ok (.iconst 1, 1) := by decide +kernel
theorem dX0_raise_26 : decode cX0_raise 26 = .ok (.istore_n 3, 1) := by decide +kernel
theorem dX0_raise_27 : decode cX0_raise 27 = .ok (.iinc 4 1, 3) := by decide +kernel
theorem dX0_raise_30 : decode cX0_raise 30 = .ok (.goto (-25), 3) := by decide +kernel
theorem dX0_raise_33 : decode cX0_raise 33 = .ok (.iload_n 3, 1) := by decide +kernel
theorem dX0_raise_34 : decode cX0_raise 34 = .ok (.ireturn, 1) := by decide +kernel
theorem dX0_lower_0 : decode cX0_lower 0 = .ok (.iconst 0, 1) := by decide +kernel
theorem dX0_lower_1 : decode cX0_lower 1 = .ok (.istore_n 3, 1) := by decide +kernel
theorem dX0_lower_2 : decode cX0_lower 2 = .ok (.iload_n 1, 1) := by decide +kernel
theorem dX0_lower_3 : decode cX0_lower 3 = .ok (.istore 4, 2) := by decide +kernel
theorem dX0_lower_5 : decode cX0_lower 5 = .ok (.iload 4, 2) := by decide +kernel
theorem dX0_lower_7 : decode cX0_lower 7 = .ok (.ifCond .lt 24, 3) := by decide +kernel
theorem dX0_lower_10 : decode cX0_lower 10 = .ok (.aload_n 0, 1) := by decide +kernel
theorem dX0_lower_11 : decode cX0_lower 11 = .ok (.iload 4, 2) := by decide +kernel
theorem dX0_lower_13 : decode cX0_lower 13 = .ok (.iaload, 1) := by decide +kernel
theorem dX0_lower_14 : decode cX0_lower 14 = .ok (.iload_n 2, 1) := by decide +kernel
theorem dX0_lower_15 : decode cX0_lower 15 = .ok (.if_icmp .le 16, 3) := by decide +kernel
theorem dX0_lower_18 : decode cX0_lower 18 = .ok (.aload_n 0, 1) := by decide +kernel
theorem dX0_lower_19 : decode cX0_lower 19 = .ok (.iload 4, 2) := by decide +kernel
theorem dX0_lower_21 : decode cX0_lower 21 = .ok (.iload_n 2, 1) := by decide +kernel
theorem dX0_lower_22 : decode cX0_lower 22 = .ok (.iastore, 1) := by decide +kernel
theorem dX0_lower_23 : decode cX0_lower 23 = .ok (.iconst 1, 1) := by decide +kernel
theorem dX0_lower_24 : decode cX0_lower 24 = .ok (.istore_n 3, 1) := by decide +kernel
theorem dX0_lower_25 : decode cX0_lower 25 = .ok (.iinc 4 (-1), 3) := by decide +kernel
theorem dX0_lower_28 : decode cX0_lower 28 = .ok (.goto (-23), 3) := by decide +kernel
theorem dX0_lower_31 : decode cX0_lower 31 = .ok (.iload_n 3, 1) := by decide +kernel
theorem dX0_lower_32 : decode cX0_lower 32 = .ok (.ireturn, 1) := by decide +kernel
set_option maxRecDepth 20000 in
theorem ggX1_init_X0_init : GoodIn wsX1_init wsX0_init := goodIn_r _ [9, 10, 2, 3, 11, 12, 13, 14, 15, 16, 17, 18, 19, 20, 21, 22, 23, 24, 25, 27, 28, 29, 30, 31, 32, 33, 34, 35, 36, 37, 38, 39, 40] (by decide +kernel) (by decide +kernel)
set_option maxRecDepth 20000 in
theorem gX1_init_X0_init_n15 : GoodIn wsX1_init (wsX0_init) := ggX1_init_X0_init
theorem dX1_init_0 : decode cX1_init 0 = .ok (.aload_n 0, 1) := by decide +kernel
theorem dX1_init_1 : decode cX1_init 1 = .ok (.invokespecial 3, 3) := by decide +kernel
theorem dX1_init_4 : decode cX1_init 4 = .ok (.aload_n 0, 1) := by decide +kernel
theorem dX1_init_5 : decode cX1_init 5 = .ok (.iconst 3, 1) := by decide +kernel
theorem dX1_init_6 : decode cX1_init 6 = .ok (.anewarray 9, 3) := by decide +kernel
theorem dX1_init_9 : decode cX1_init 9 = .ok (.putfield 11, 3) := by decide +kernel
theorem dX1_init_12 : decode cX1_init 12 = .ok (.iconst 0, 1) := by decide +kernel
theorem dX1_init_13 : decode cX1_init 13 = .ok (.istore_n 1, 1) := by decide +kernel
theorem dX1_init_14 : decode cX1_init 14 = .ok (.iload_n 1, 1) := by decide +kernel
theorem dX1_init_15 : decode cX1_init 15 = .ok (.iconst 3, 1) := by decide +kernel
theorem dX1_init_16 : decode cX1_init 16 = .ok (.if_icmp .ge 22, 3) := by decide +kernel
theorem dX1_init_19 : decode cX1_init 19 = .ok (.aload_n 0, 1) := by decide +kernel
theorem dX1_init_20 : decode cX1_init 20 = .ok (.getfield 11, 3) := by decide +kernel
theorem dX1_init_23 : decode cX1_init 23 = .ok (.iload_n 1, 1) := by decide +kernel
theorem dX1_init_24 : decode cX1_init 24 = .ok (.new 9, 3) := by decide +kernel
theorem dX1_init_27 : decode cX1_init 27 = .ok (.dup, 1) := by decide +kernel
theorem dX1_init_28 : decode cX1_init 28 = .ok (.invokespecial 15, 3) := by decide +kernel
theorem dX1_init_31 : decode cX1_init 31 = .ok (.aastore, 1) := by decide +kernel
theorem dX1_init_32 : decode cX1_init 32 = .ok (.iinc 1 1, 3) := by decide +kernel
theorem dX1_init_35 : decode cX1_init 35 = .ok (.goto (-21), 3) := by decide +kernel
theorem dX1_init_38 : decode cX1_init 38 = .ok (.return_, 1) := by decide +kernel
set_option maxRecDepth 20000 in
theorem ggX1_rows_X1_tableAt : GoodIn wsX1_rows wsX1_tableAt := goodIn_r _ [6, 7, 21] (by decide +kernel) (by decide +kernel)
set_option maxRecDepth 20000 in
theorem gX1_rows_X1_tableAt : GoodIn wsX1_rows (wsV RX1 16 RX1 yX1_tableAt wsX1_tableAt) := goodIn_app (goodIn_of _ (by decide +kernel)) ggX1_rows_X1_tableAt
set_option maxRecDepth 20000 in
theorem ggX1_rows_X0_startAnew : GoodIn wsX1_rows wsX0_startAnew := goodIn_r _ [12, 13, 14, 15, 16, 17, 11, 18, 19, 20, 22, 23, 24, 25, 26, 27, 28, 29, 30, 31, 32, 33, 34, 35] (by decide +kernel) (by decide +kernel)
set_option maxRecDepth 20000 in
theorem gX1_rows_X0_startAnew : GoodIn wsX1_rows (wsV RX1 21 RX0 yX0_startAnew wsX0_startAnew) := goodIn_app (goodIn_of _ (by decide +kernel)) ggX1_rows_X0_startAnew
theorem dX1_rows_0 : decode cX1_rows 0 = .ok (.aload_n 0, 1) := by decide +kernel
theorem dX1_rows_1 : decode cX1_rows 1 = .ok (.iload_n 1, 1) := by decide +kernel
theorem dX1_rows_2 : decode cX1_rows 2 = .ok (.invokevirtual 16, 3) := by decide +kernel
theorem dX1_rows_5 : decode cX1_rows 5 = .ok (.astore_n 3, 1) := by decide +kernel
theorem dX1_rows_6 : decode cX1_rows 6 = .ok (.aload_n 3, 1) := by decide +kernel
theorem dX1_rows_7 : decode cX1_rows 7 = .ok (.ifnull 13, 3) := by decide +kernel
theorem dX1_rows_10 : decode cX1_rows 10 = .ok (.iload_n 2, 1) := by decide +kernel
theorem dX1_rows_11 : decode cX1_rows 11 = .ok (.ifCond .lt 9, 3) := by decide +kernel
theorem dX1_rows_14 : decode cX1_rows 14 = .ok (.iload_n 2, 1) := by decide +kernel
theorem dX1_rows_15 : decode cX1_rows 15 = .ok (.ldc 20, 2) := by decide +kernel
theorem dX1_rows_17 : decode cX1_rows 17 = .ok (.if_icmp .le 5, 3) := by decide +kernel
theorem dX1_rows_20 : decode cX1_rows 20 = .ok (.iconst 0, 1) := by decide +kernel
theorem dX1_rows_21 : decode cX1_rows 21 = .ok (.ireturn, 1) := by decide +kernel
theorem dX1_rows_22 : decode cX1_rows 22 = .ok (.aload_n 3, 1) := by decide +kernel
theorem dX1_rows_23 : decode cX1_rows 23 = .ok (.iload_n 2, 1) := by decide +kernel
theorem dX1_rows_24 : decode cX1_rows 24 = .ok (.invokevirtual 21, 3) := by decide +kernel
theorem dX1_rows_27 : decode cX1_rows 27 = .ok (.iconst 1, 1) := by decide +kernel
theorem dX1_rows_28 : decode cX1_rows 28 = .ok (.ireturn, 1) := by decide +kernel
set_option maxRecDepth 20000 in
theorem ggX1_put_X1_tableAt : GoodIn wsX1_put wsX1_tableAt := goodIn_r _ [7, 8, 43] (by decide +kernel) (by decide +kernel)
set_option maxRecDepth 20000 in
theorem gX1_put_X1_tableAt : GoodIn wsX1_put (wsV RX1 16 RX1 yX1_tableAt wsX1_tableAt) := goodIn_app (goodIn_of _ (by decide +kernel)) ggX1_put_X1_tableAt
set_option maxRecDepth 20000 in
theorem ggX1_put_X0_grow : GoodIn wsX1_put wsX0_grow := goodIn_r _ [13, 14, 15, 16, 17, 18, 19, 20, 21, 22, 23, 24, 25, 12, 26, 27, 28, 29, 30, 31, 32, 33, 34, 35, 36, 37, 38, 39, 40, 41, 42] (by decide +kernel) (by decide +kernel)
set_option maxRecDepth 20000 in
theorem gX1_put_X0_grow : GoodIn wsX1_put (wsV RX1 29 RX0 yX0_grow wsX0_grow) := goodIn_app (goodIn_of _ (by decide +kernel)) ggX1_put_X0_grow
theorem dX1_put_0 : decode cX1_put 0 = .ok (.aload_n 0, 1) := by decide +kernel
theorem dX1_put_1 : decode cX1_put 1 = .ok (.iload_n 1, 1) := by decide +kernel
theorem dX1_put_2 : decode cX1_put 2 = .ok (.invokevirtual 16, 3) := by decide +kernel
theorem dX1_put_5 : decode cX1_put 5 = .ok (.astore_n 3, 1) := by decide +kernel
theorem dX1_put_6 : decode cX1_put 6 = .ok (.aload_n 3, 1) := by decide +kernel
theorem dX1_put_7 : decode cX1_put 7 = .ok (.ifnull 19, 3) := by decide +kernel
theorem dX1_put_10 : decode cX1_put 10 = .ok (.iload_n 2, 1) := by decide +kernel
theorem dX1_put_11 : decode cX1_put 11 = .ok (.iconst 1, 1) := by decide +kernel
theorem dX1_put_12 : decode cX1_put 12 = .ok (.if_icmp .lt 14, 3) := by decide +kernel
theorem dX1_put_15 : decode cX1_put 15 = .ok (.iload_n 2, 1) := by decide +kernel
theorem dX1_put_16 : decode cX1_put 16 = .ok (.ldc 20, 2) := by decide +kernel
theorem dX1_put_18 : decode cX1_put 18 = .ok (.aload_n 3, 1) := by decide +kernel
theorem dX1_put_19 : decode cX1_put 19 = .ok (.getfield 25, 3) := by decide +kernel
theorem dX1_put_22 : decode cX1_put 22 = .ok (.isub, 1) := by decide +kernel
theorem dX1_put_23 : decode cX1_put 23 = .ok (.if_icmp .le 5, 3) := by decide +kernel
theorem dX1_put_26 : decode cX1_put 26 = .ok (.iconst (-1), 1) := by decide +kernel
theorem dX1_put_27 : decode cX1_put 27 = .ok (.ireturn, 1) := by decide +kernel
theorem dX1_put_28 : decode cX1_put 28 = .ok (.aload_n 3, 1) := by decide +kernel
theorem dX1_put_29 : decode cX1_put 29 = .ok (.iload_n 2, 1) := by decide +kernel
theorem dX1_put_30 : decode cX1_put 30 = .ok (.invokevirtual 29, 3) := by decide +kernel
theorem dX1_put_33 : decode cX1_put 33 = .ok (.aload_n 3, 1) := by decide +kernel
theorem dX1_put_34 : decode cX1_put 34 = .ok (.getfield 25, 3) := by decide +kernel
theorem dX1_put_37 : decode cX1_put 37 = .ok (.ireturn, 1) := by decide +kernel
set_option maxRecDepth 20000 in
theorem ggX1_strike_X1_tableAt : GoodIn wsX1_strike wsX1_tableAt := goodIn_r _ [6, 7, 40] (by decide +kernel) (by decide +kernel)
set_option maxRecDepth 20000 in
theorem gX1_strike_X1_tableAt : GoodIn wsX1_strike (wsV RX1 16 RX1 yX1_tableAt wsX1_tableAt) := goodIn_app (goodIn_of _ (by decide +kernel)) ggX1_strike_X1_tableAt
set_option maxRecDepth 20000 in
theorem ggX1_strike_X0_shrink : GoodIn wsX1_strike wsX0_shrink := goodIn_r _ [12, 13, 14, 15, 16, 17, 18, 19, 20, 21, 22, 11, 23, 24, 25, 26, 27, 28, 29, 30, 31, 32, 33, 34, 35, 36, 37, 38, 39] (by decide +kernel) (by decide +kernel)
set_option maxRecDepth 20000 in
theorem gX1_strike_X0_shrink : GoodIn wsX1_strike (wsV RX1 32 RX0 yX0_shrink wsX0_shrink) := goodIn_app (goodIn_of _ (by decide +kernel)) ggX1_strike_X0_shrink
theorem dX1_strike_0 : decode cX1_strike 0 = .ok (.aload_n 0, 1) := by decide +kernel
theorem dX1_strike_1 : decode cX1_strike 1 = .ok (.iload_n 1, 1) := by decide +kernel
theorem dX1_strike_2 : decode cX1_strike 2 = .ok (.invokevirtual 16, 3) := by decide +kernel
theorem dX1_strike_5 : decode cX1_strike 5 = .ok (.astore_n 3, 1) := by decide +kernel
theorem dX1_strike_6 : decode cX1_strike 6 = .ok (.aload_n 3, 1) := by decide +kernel
theorem dX1_strike_7 : decode cX1_strike 7 = .ok (.ifnull 16, 3) := by decide +kernel
theorem dX1_strike_10 : decode cX1_strike 10 = .ok (.iload_n 2, 1) := by decide +kernel
theorem dX1_strike_11 : decode cX1_strike 11 = .ok (.iconst 1, 1) := by decide +kernel
theorem dX1_strike_12 : decode cX1_strike 12 = .ok (.if_icmp .lt 11, 3) := by decide +kernel
theorem dX1_strike_15 : decode cX1_strike 15 = .ok (.iload_n 2, 1) := by decide +kernel
theorem dX1_strike_16 : decode cX1_strike 16 = .ok (.aload_n 3, 1) := by decide +kernel
theorem dX1_strike_17 : decode cX1_strike 17 = .ok (.getfield 25, 3) := by decide +kernel
theorem dX1_strike_20 : decode cX1_strike 20 = .ok (.if_icmp .le 5, 3) := by decide +kernel
theorem dX1_strike_23 : decode cX1_strike 23 = .ok (.iconst (-1), 1) := by decide +kernel
theorem dX1_strike_24 : decode cX1_strike 24 = .ok (.ireturn, 1) := by decide +kernel
theorem dX1_strike_25 : decode cX1_strike 25 = .ok (.aload_n 3, 1) := by decide +kernel
theorem dX1_strike_26 : decode cX1_strike 26 = .ok (.iload_n 2, 1) := by decide +kernel
theorem dX1_strike_27 : decode cX1_strike 27 = .ok (.invokevirtual 32, 3) := by decide +kernel
theorem dX1_strike_30 : decode cX1_strike 30 = .ok (.aload_n 3, 1) := by decide +kernel
theorem dX1_strike_31 : decode cX1_strike 31 = .ok (.getfield 25, 3) := by decide +kernel
theorem dX1_strike_34 : decode cX1_strike 34 = .ok (.ireturn, 1) := by decide +kernel
set_option maxRecDepth 20000 in
theorem ggX1_sight_X1_tableAt : GoodIn wsX1_sight wsX1_tableAt := goodIn_r _ [7, 8, 42] (by decide +kernel) (by decide +kernel)
set_option maxRecDepth 20000 in
theorem gX1_sight_X1_tableAt : GoodIn wsX1_sight (wsV RX1 16 RX1 yX1_tableAt wsX1_tableAt) := goodIn_app (goodIn_of _ (by decide +kernel)) ggX1_sight_X1_tableAt
set_option maxRecDepth 20000 in
theorem ggX1_sight_X1_isSpan : GoodIn wsX1_sight wsX1_isSpan := goodIn_r _ [11] (by decide +kernel) (by decide +kernel)
set_option maxRecDepth 20000 in
theorem gX1_sight_X1_isSpan : GoodIn wsX1_sight (va_wsS RX1 35 yX1_isSpan wsX1_isSpan) := goodIn_app (goodIn_of _ (by decide +kernel)) ggX1_sight_X1_isSpan
set_option maxRecDepth 20000 in
theorem ggX1_sight_X0_addSight : GoodIn wsX1_sight wsX0_addSight := goodIn_r _ [16, 17, 18, 19, 20, 21, 22, 23, 24, 15, 25, 26, 27, 28, 29, 30, 31, 32, 33, 34, 35, 36, 37, 38, 39, 40, 41] (by decide +kernel) (by decide +kernel)
set_option maxRecDepth 20000 in
theorem gX1_sight_X0_addSight : GoodIn wsX1_sight (wsV RX1 40 RX0 yX0_addSight wsX0_addSight) := goodIn_app (goodIn_of _ (by decide +kernel)) ggX1_sight_X0_addSight
theorem dX1_sight_0 : decode cX1_sight 0 = .ok (.aload_n 0, 1) := by decide +kernel
theorem dX1_sight_1 : decode cX1_sight 1 = .ok (.iload_n 1, 1) := by decide +kernel
theorem dX1_sight_2 : decode cX1_sight 2 = .ok (.invokevirtual 16, 3) := by decide +kernel
theorem dX1_sight_5 : decode cX1_sight 5 = .ok (.astore 6, 2) := by decide +kernel
theorem dX1_sight_7 : decode cX1_sight 7 = .ok (.aload 6, 2) := by decide +kernel
theorem dX1_sight_9 : decode cX1_sight 9 = .ok (.ifnull 26, 3) := by decide +kernel
theorem dX1_sight_12 : decode cX1_sight 12 = .ok (.iload_n 2, 1) := by decide +kernel
theorem dX1_sight_13 : decode cX1_sight 13 = .ok (.iload_n 3, 1) := by decide +kernel
theorem dX1_sight_14 : decode cX1_sight 14 = .ok (.invokestatic 35, 3) := by decide +kernel
theorem dX1_sight_17 : decode cX1_sight 17 = .ok (.ifCond .eq 18, 3) := by decide +kernel
theorem dX1_sight_20 : decode cX1_sight 20 = .ok (.iload 4, 2) := by decide +kernel
theorem dX1_sight_22 : decode cX1_sight 22 = .ok (.ifCond .lt 13, 3) := by decide +kernel
theorem dX1_sight_25 : decode cX1_sight 25 = .ok (.iload 4, 2) := by decide +kernel
theorem dX1_sight_27 : decode cX1_sight 27 = .ok (.aload 6, 2) := by decide +kernel
theorem dX1_sight_29 : decode cX1_sight 29 = .ok (.getfield 25, 3) := by decide +kernel
theorem dX1_sight_32 : decode cX1_sight 32 = .ok (.if_icmp .le 5, 3) := by decide +kernel
theorem dX1_sight_35 : decode cX1_sight 35 = .ok (.iconst (-1), 1) := by decide +kernel
theorem dX1_sight_36 : decode cX1_sight 36 = .ok (.ireturn, 1) := by decide +kernel
theorem dX1_sight_37 : decode cX1_sight 37 = .ok (.aload 6, 2) := by decide +kernel
theorem dX1_sight_39 : decode cX1_sight 39 = .ok (.iload_n 2, 1) := by decide +kernel
theorem dX1_sight_40 : decode cX1_sight 40 = .ok (.iload_n 3, 1) := by decide +kernel
theorem dX1_sight_41 : decode cX1_sight 41 = .ok (.iload 4, 2) := by decide +kernel
theorem dX1_sight_43 : decode cX1_sight 43 = .ok (.iload 5, 2) := by decide +kernel
theorem dX1_sight_45 : decode cX1_sight 45 = .ok (.ifCond .eq 8, 3) := by decide +kernel
theorem dX1_sight_48 : decode cX1_sight 48 = .ok (.ldc 39, 2) := by decide +kernel
theorem dX1_sight_50 : decode cX1_sight 50 = .ok (.goto 5, 3) := by decide +kernel
theorem dX1_sight_53 : decode cX1_sight 53 = .ok (.iload 4, 2) := by decide +kernel
theorem dX1_sight_55 : decode cX1_sight 55 = .ok (.invokevirtual 40, 3) := by decide +kernel
theorem dX1_sight_58 : decode cX1_sight 58 = .ok (.ireturn, 1) := by decide +kernel
set_option maxRecDepth 20000 in
theorem ggX1_begins_X1_textsOf : GoodIn wsX1_begins wsX1_textsOf := goodIn_r _ [4] (by decide +kernel) (by decide +kernel)
set_option maxRecDepth 20000 in
theorem gX1_begins_X1_textsOf : GoodIn wsX1_begins (va_wsS RX1 44 yX1_textsOf wsX1_textsOf) := goodIn_app (goodIn_of _ (by decide +kernel)) ggX1_begins_X1_textsOf
set_option maxRecDepth 20000 in
theorem ggX1_begins_X1_sight : GoodIn wsX1_begins wsX1_sight := goodIn_r _ [8, 9, 10, 11, 12, 13, 3, 14, 15, 16, 17, 18, 19, 20, 21, 22, 23, 24, 25, 26, 27, 28, 29, 30, 31, 32, 33, 34, 35, 36, 37, 38, 39, 40, 41, 42, 43, 44, 45, 46, 47, 48, 49] (by decide +kernel) (by decide +kernel)
set_option maxRecDepth 20000 in
theorem gX1_begins_X1_sight : GoodIn wsX1_begins (wsV RX1 48 RX1 yX1_sight wsX1_sight) := goodIn_app (goodIn_of _ (by decide +kernel)) ggX1_begins_X1_sight
theorem dX1_begins_0 : decode cX1_begins 0 = .ok (.iload_n 2, 1) := by decide +kernel
theorem dX1_begins_1 : decode cX1_begins 1 = .ok (.ifCond .lt 20, 3) := by decide +kernel
theorem dX1_begins_4 : decode cX1_begins 4 = .ok (.iload_n 2, 1) := by decide +kernel
theorem dX1_begins_5 : decode cX1_begins 5 = .ok (.iconst 3, 1) := by decide +kernel
theorem dX1_begins_6 : decode cX1_begins 6 = .ok (.if_icmp .gt 15, 3) := by decide +kernel
theorem dX1_begins_9 : decode cX1_begins 9 = .ok (.iload_n 3, 1) := by decide +kernel
theorem dX1_begins_10 : decode cX1_begins 10 = .ok (.ifCond .lt 11, 3) := by decide +kernel
theorem dX1_begins_13 : decode cX1_begins 13 = .ok (.iload_n 3, 1) := by decide +kernel
theorem dX1_begins_14 : decode cX1_begins 14 = .ok (.iload_n 2, 1) := by decide +kernel
theorem dX1_begins_15 : decode cX1_begins 15 = .ok (.invokestatic 44, 3) := by decide +kernel
theorem dX1_begins_18 : decode cX1_begins 18 = .ok (.if_icmp .lt 5, 3) := by decide +kernel
theorem dX1_begins_21 : decode cX1_begins 21 = .ok (.iconst (-1), 1) := by decide +kernel
theorem dX1_begins_22 : decode cX1_begins 22 = .ok (.ireturn, 1) := by decide +kernel
theorem dX1_begins_23 : decode cX1_begins 23 = .ok (.iconst 3, 1) := by decide +kernel
theorem dX1_begins_24 : decode cX1_begins 24 = .ok (.iload_n 2, 1) := by decide +kernel
theorem dX1_begins_25 : decode cX1_begins 25 = .ok (.isub, 1) := by decide +kernel
theorem dX1_begins_26 : decode cX1_begins 26 = .ok (.invokestatic 44, 3) := by decide +kernel
theorem dX1_begins_29 : decode cX1_begins 29 = .ok (.istore 5, 2) := by decide +kernel
theorem dX1_begins_31 : decode cX1_begins 31 = .ok (.iload_n 3, 1) := by decide +kernel
theorem dX1_begins_32 : decode cX1_begins 32 = .ok (.iload 5, 2) := by decide +kernel
theorem dX1_begins_34 : decode cX1_begins 34 = .ok (.imul, 1) := by decide +kernel
theorem dX1_begins_35 : decode cX1_begins 35 = .ok (.istore 6, 2) := by decide +kernel
theorem dX1_begins_37 : decode cX1_begins 37 = .ok (.aload_n 0, 1) := by decide +kernel
theorem dX1_begins_38 : decode cX1_begins 38 = .ok (.iload_n 1, 1) := by decide +kernel
theorem dX1_begins_39 : decode cX1_begins 39 = .ok (.iload 6, 2) := by decide +kernel
theorem dX1_begins_41 : decode cX1_begins 41 = .ok (.iload 6, 2) := by decide +kernel
theorem dX1_begins_43 : decode cX1_begins 43 = .ok (.iload 5, 2) := by decide +kernel
theorem dX1_begins_45 : decode cX1_begins 45 = .ok (.iadd, 1) := by decide +kernel
end
section
theorem dX1_begins_46 : decode cX1_begins 46 = .ok (.iload 4, 2) := by decide +kernel
theorem dX1_begins_48 : decode cX1_begins 48 = .ok (.iconst 0, 1) := by decide +kernel
theorem dX1_begins_49 : decode cX1_begins 49 = .ok (.invokevirtual 48, 3) := by decide +kernel
theorem dX1_begins_52 : decode cX1_begins 52 = .ok (.ireturn, 1) := by decide +kernel
set_option maxRecDepth 20000 in
theorem ggX1_room_X1_tableAt : GoodIn wsX1_room wsX1_tableAt := goodIn_r _ [5, 6, 19] (by decide +kernel) (by decide +kernel)
set_option maxRecDepth 20000 in
theorem gX1_room_X1_tableAt : GoodIn wsX1_room (wsV RX1 16 RX1 yX1_tableAt wsX1_tableAt) := goodIn_app (goodIn_of _ (by decide +kernel)) ggX1_room_X1_tableAt
set_option maxRecDepth 20000 in
theorem ggX1_room_X0_makeRoom : GoodIn wsX1_room wsX0_makeRoom := goodIn_r _ [11, 12, 13, 14, 15, 10, 16, 17, 18, 20, 21, 22, 23, 24, 25, 26, 27, 28, 29, 30, 31, 32, 33] (by decide +kernel) (by decide +kernel)
set_option maxRecDepth 20000 in
theorem gX1_room_X0_makeRoom : GoodIn wsX1_room (wsV RX1 52 RX0 yX0_makeRoom wsX0_makeRoom) := goodIn_app (goodIn_of _ (by decide +kernel)) ggX1_room_X0_makeRoom
theorem dX1_room_0 : decode cX1_room 0 = .ok (.aload_n 0, 1) := by decide +kernel
theorem dX1_room_1 : decode cX1_room 1 = .ok (.iload_n 1, 1) := by decide +kernel
theorem dX1_room_2 : decode cX1_room 2 = .ok (.invokevirtual 16, 3) := by decide +kernel
theorem dX1_room_5 : decode cX1_room 5 = .ok (.astore_n 3, 1) := by decide +kernel
theorem dX1_room_6 : decode cX1_room 6 = .ok (.aload_n 3, 1) := by decide +kernel
theorem dX1_room_7 : decode cX1_room 7 = .ok (.ifnull 14, 3) := by decide +kernel
theorem dX1_room_10 : decode cX1_room 10 = .ok (.iload_n 2, 1) := by decide +kernel
theorem dX1_room_11 : decode cX1_room 11 = .ok (.iconst 1, 1) := by decide +kernel
theorem dX1_room_12 : decode cX1_room 12 = .ok (.if_icmp .lt 9, 3) := by decide +kernel
theorem dX1_room_15 : decode cX1_room 15 = .ok (.iload_n 2, 1) := by decide +kernel
theorem dX1_room_16 : decode cX1_room 16 = .ok (.bipush 40, 2) := by decide +kernel
theorem dX1_room_18 : decode cX1_room 18 = .ok (.if_icmp .le 5, 3) := by decide +kernel
theorem dX1_room_21 : decode cX1_room 21 = .ok (.iconst 0, 1) := by decide +kernel
theorem dX1_room_22 : decode cX1_room 22 = .ok (.ireturn, 1) := by decide +kernel
theorem dX1_room_23 : decode cX1_room 23 = .ok (.aload_n 3, 1) := by decide +kernel
theorem dX1_room_24 : decode cX1_room 24 = .ok (.iload_n 2, 1) := by decide +kernel
theorem dX1_room_25 : decode cX1_room 25 = .ok (.invokevirtual 52, 3) := by decide +kernel
theorem dX1_room_28 : decode cX1_room 28 = .ok (.iconst 1, 1) := by decide +kernel
theorem dX1_room_29 : decode cX1_room 29 = .ok (.ireturn, 1) := by decide +kernel
set_option maxRecDepth 20000 in
theorem ggX1_sightOf_X1_tableAt : GoodIn wsX1_sightOf wsX1_tableAt := goodIn_r _ [11, 12, 66] (by decide +kernel) (by decide +kernel)
set_option maxRecDepth 20000 in
theorem gX1_sightOf_X1_tableAt : GoodIn wsX1_sightOf (wsV RX1 16 RX1 yX1_tableAt wsX1_tableAt) := goodIn_app (goodIn_of _ (by decide +kernel)) ggX1_sightOf_X1_tableAt
set_option maxRecDepth 20000 in
theorem ggX1_sightOf_X0_settle : GoodIn wsX1_sightOf wsX0_settle := goodIn_r _ [17, 18, 19, 20, 21, 22, 23, 24, 25, 26, 27, 28, 29, 30, 31, 32, 33, 34, 16, 35, 36, 37, 38, 39, 40, 41, 42, 43, 44, 45, 46, 47, 48, 49, 50, 51, 52, 53, 54, 55, 56, 57, 58, 59, 60, 61, 62, 63, 64, 65] (by decide +kernel) (by decide +kernel)
set_option maxRecDepth 20000 in
theorem gX1_sightOf_X0_settle : GoodIn wsX1_sightOf (wsV RX1 71 RX0 yX0_settle wsX0_settle) := goodIn_app (goodIn_of _ (by decide +kernel)) ggX1_sightOf_X0_settle
theorem dX1_sightOf_0 : decode cX1_sightOf 0 = .ok (.aload_n 0, 1) := by decide +kernel
theorem dX1_sightOf_1 : decode cX1_sightOf 1 = .ok (.iload_n 1, 1) := by decide +kernel
theorem dX1_sightOf_2 : decode cX1_sightOf 2 = .ok (.invokevirtual 16, 3) := by decide +kernel
theorem dX1_sightOf_5 : decode cX1_sightOf 5 = .ok (.astore 4, 2) := by decide +kernel
theorem dX1_sightOf_7 : decode cX1_sightOf 7 = .ok (.aload 4, 2) := by decide +kernel
theorem dX1_sightOf_9 : decode cX1_sightOf 9 = .ok (.ifnull 16, 3) := by decide +kernel
theorem dX1_sightOf_12 : decode cX1_sightOf 12 = .ok (.iload_n 2, 1) := by decide +kernel
theorem dX1_sightOf_13 : decode cX1_sightOf 13 = .ok (.ifCond .lt 12, 3) := by decide +kernel
theorem dX1_sightOf_16 : decode cX1_sightOf 16 = .ok (.iload_n 2, 1) := by decide +kernel
theorem dX1_sightOf_17 : decode cX1_sightOf 17 = .ok (.aload 4, 2) := by decide +kernel
theorem dX1_sightOf_19 : decode cX1_sightOf 19 = .ok (.getfield 55, 3) := by decide +kernel
theorem dX1_sightOf_22 : decode cX1_sightOf 22 = .ok (.if_icmp .lt 5, 3) := by decide +kernel
theorem dX1_sightOf_25 : decode cX1_sightOf 25 = .ok (.iconst (-1), 1) := by decide +kernel
theorem dX1_sightOf_26 : decode cX1_sightOf 26 = .ok (.ireturn, 1) := by decide +kernel
theorem dX1_sightOf_27 : decode cX1_sightOf 27 = .ok (.iload_n 3, 1) := by decide +kernel
theorem dX1_sightOf_28 : decode cX1_sightOf 28 = .ok (.tableswitch 81 0 4 #[36, 44, 52, 60, 68], 36) := by decide +kernel
theorem dX1_sightOf_64 : decode cX1_sightOf 64 = .ok (.aload 4, 2) := by decide +kernel
theorem dX1_sightOf_66 : decode cX1_sightOf 66 = .ok (.getfield 58, 3) := by decide +kernel
theorem dX1_sightOf_69 : decode cX1_sightOf 69 = .ok (.iload_n 2, 1) := by decide +kernel
theorem dX1_sightOf_70 : decode cX1_sightOf 70 = .ok (.iaload, 1) := by decide +kernel
theorem dX1_sightOf_71 : decode cX1_sightOf 71 = .ok (.ireturn, 1) := by decide +kernel
theorem dX1_sightOf_72 : decode cX1_sightOf 72 = .ok (.aload 4, 2) := by decide +kernel
theorem dX1_sightOf_74 : decode cX1_sightOf 74 = .ok (.getfield 62, 3) := by decide +kernel
theorem dX1_sightOf_77 : decode cX1_sightOf 77 = .ok (.iload_n 2, 1) := by decide +kernel
theorem dX1_sightOf_78 : decode cX1_sightOf 78 = .ok (.iaload, 1) := by decide +kernel
theorem dX1_sightOf_79 : decode cX1_sightOf 79 = .ok (.ireturn, 1) := by decide +kernel
theorem dX1_sightOf_80 : decode cX1_sightOf 80 = .ok (.aload 4, 2) := by decide +kernel
theorem dX1_sightOf_82 : decode cX1_sightOf 82 = .ok (.getfield 65, 3) := by decide +kernel
theorem dX1_sightOf_85 : decode cX1_sightOf 85 = .ok (.iload_n 2, 1) := by decide +kernel
theorem dX1_sightOf_86 : decode cX1_sightOf 86 = .ok (.iaload, 1) := by decide +kernel
theorem dX1_sightOf_87 : decode cX1_sightOf 87 = .ok (.ireturn, 1) := by decide +kernel
theorem dX1_sightOf_88 : decode cX1_sightOf 88 = .ok (.aload 4, 2) := by decide +kernel
theorem dX1_sightOf_90 : decode cX1_sightOf 90 = .ok (.getfield 68, 3) := by decide +kernel
theorem dX1_sightOf_93 : decode cX1_sightOf 93 = .ok (.iload_n 2, 1) := by decide +kernel
theorem dX1_sightOf_94 : decode cX1_sightOf 94 = .ok (.iaload, 1) := by decide +kernel
theorem dX1_sightOf_95 : decode cX1_sightOf 95 = .ok (.ireturn, 1) := by decide +kernel
theorem dX1_sightOf_96 : decode cX1_sightOf 96 = .ok (.aload 4, 2) := by decide +kernel
theorem dX1_sightOf_98 : decode cX1_sightOf 98 = .ok (.invokevirtual 71, 3) := by decide +kernel
theorem dX1_sightOf_101 : decode cX1_sightOf 101 = .ok (.aload 4, 2) := by decide +kernel
theorem dX1_sightOf_103 : decode cX1_sightOf 103 = .ok (.getfield 74, 3) := by decide +kernel
theorem dX1_sightOf_106 : decode cX1_sightOf 106 = .ok (.iload_n 2, 1) := by decide +kernel
theorem dX1_sightOf_107 : decode cX1_sightOf 107 = .ok (.iaload, 1) := by decide +kernel
theorem dX1_sightOf_108 : decode cX1_sightOf 108 = .ok (.ireturn, 1) := by decide +kernel
theorem dX1_sightOf_109 : decode cX1_sightOf 109 = .ok (.iconst (-1), 1) := by decide +kernel
theorem dX1_sightOf_110 : decode cX1_sightOf 110 = .ok (.ireturn, 1) := by decide +kernel
set_option maxRecDepth 20000 in
theorem ggX1_least_X1_tableAt : GoodIn wsX1_least wsX1_tableAt := goodIn_r _ [5, 6, 53] (by decide +kernel) (by decide +kernel)
set_option maxRecDepth 20000 in
theorem gX1_least_X1_tableAt : GoodIn wsX1_least (wsV RX1 16 RX1 yX1_tableAt wsX1_tableAt) := goodIn_app (goodIn_of _ (by decide +kernel)) ggX1_least_X1_tableAt
set_option maxRecDepth 20000 in
theorem ggX1_least_X1_isSpan : GoodIn wsX1_least wsX1_isSpan := goodIn_r _ [9] (by decide +kernel) (by decide +kernel)
set_option maxRecDepth 20000 in
theorem gX1_least_X1_isSpan : GoodIn wsX1_least (va_wsS RX1 35 yX1_isSpan wsX1_isSpan) := goodIn_app (goodIn_of _ (by decide +kernel)) ggX1_least_X1_isSpan
set_option maxRecDepth 20000 in
theorem ggX1_least_X0_leastStep : GoodIn wsX1_least wsX0_leastStep := goodIn_r _ [14, 15, 16, 17, 18, 19, 13, 20, 21, 22, 23, 24, 25, 26, 27, 28, 29, 30, 31, 32, 33, 34, 35, 36, 37, 38, 39, 40, 41, 42, 43, 44, 45, 46, 47, 48, 49, 50, 51, 52, 54, 55, 56, 57, 58, 59, 60, 61, 62, 63, 64, 65, 66, 67] (by decide +kernel) (by decide +kernel)
set_option maxRecDepth 20000 in
theorem gX1_least_X0_leastStep : GoodIn wsX1_least (wsV RX1 77 RX0 yX0_leastStep wsX0_leastStep) := goodIn_app (goodIn_of _ (by decide +kernel)) ggX1_least_X0_leastStep
theorem dX1_least_0 : decode cX1_least 0 = .ok (.aload_n 0, 1) := by decide +kernel
theorem dX1_least_1 : decode cX1_least 1 = .ok (.iload_n 1, 1) := by decide +kernel
theorem dX1_least_2 : decode cX1_least 2 = .ok (.invokevirtual 16, 3) := by decide +kernel
theorem dX1_least_5 : decode cX1_least 5 = .ok (.astore 4, 2) := by decide +kernel
theorem dX1_least_7 : decode cX1_least 7 = .ok (.aload 4, 2) := by decide +kernel
theorem dX1_least_9 : decode cX1_least 9 = .ok (.ifnull 11, 3) := by decide +kernel
theorem dX1_least_12 : decode cX1_least 12 = .ok (.iload_n 2, 1) := by decide +kernel
theorem dX1_least_13 : decode cX1_least 13 = .ok (.iload_n 3, 1) := by decide +kernel
theorem dX1_least_14 : decode cX1_least 14 = .ok (.invokestatic 35, 3) := by decide +kernel
theorem dX1_least_17 : decode cX1_least 17 = .ok (.ifCond .ne 5, 3) := by decide +kernel
theorem dX1_least_20 : decode cX1_least 20 = .ok (.iconst (-1), 1) := by decide +kernel
theorem dX1_least_21 : decode cX1_least 21 = .ok (.ireturn, 1) := by decide +kernel
theorem dX1_least_22 : decode cX1_least 22 = .ok (.aload 4, 2) := by decide +kernel
theorem dX1_least_24 : decode cX1_least 24 = .ok (.iload_n 2, 1) := by decide +kernel
theorem dX1_least_25 : decode cX1_least 25 = .ok (.iload_n 3, 1) := by decide +kernel
theorem dX1_least_26 : decode cX1_least 26 = .ok (.invokevirtual 77, 3) := by decide +kernel
theorem dX1_least_29 : decode cX1_least 29 = .ok (.ireturn, 1) := by decide +kernel
set_option maxRecDepth 20000 in
theorem ggX1_greatest_X1_tableAt : GoodIn wsX1_greatest wsX1_tableAt := goodIn_r _ [5, 6, 53] (by decide +kernel) (by decide +kernel)
set_option maxRecDepth 20000 in
theorem gX1_greatest_X1_tableAt : GoodIn wsX1_greatest (wsV RX1 16 RX1 yX1_tableAt wsX1_tableAt) := goodIn_app (goodIn_of _ (by decide +kernel)) ggX1_greatest_X1_tableAt
set_option maxRecDepth 20000 in
theorem ggX1_greatest_X1_isSpan : GoodIn wsX1_greatest wsX1_isSpan := goodIn_r _ [9] (by decide +kernel) (by decide +kernel)
set_option maxRecDepth 20000 in
theorem gX1_greatest_X1_isSpan : GoodIn wsX1_greatest (va_wsS RX1 35 yX1_isSpan wsX1_isSpan) := goodIn_app (goodIn_of _ (by decide +kernel)) ggX1_greatest_X1_isSpan
set_option maxRecDepth 20000 in
theorem ggX1_greatest_X0_leastStep : GoodIn wsX1_greatest wsX0_leastStep := goodIn_r _ [14, 15, 16, 17, 18, 19, 13, 20, 21, 22, 23, 24, 25, 26, 27, 28, 29, 30, 31, 32, 33, 34, 35, 36, 37, 38, 39, 40, 41, 42, 43, 44, 45, 46, 47, 48, 49, 50, 51, 52, 54, 55, 56, 57, 58, 59, 60, 61, 62, 63, 64, 65, 66, 67] (by decide +kernel) (by decide +kernel)
set_option maxRecDepth 20000 in
theorem gX1_greatest_X0_leastStep : GoodIn wsX1_greatest (wsV RX1 77 RX0 yX0_leastStep wsX0_leastStep) := goodIn_app (goodIn_of _ (by decide +kernel)) ggX1_greatest_X0_leastStep
theorem dX1_greatest_0 : decode cX1_greatest 0 = .ok (.aload_n 0, 1) := by decide +kernel
theorem dX1_greatest_1 : decode cX1_greatest 1 = .ok (.iload_n 1, 1) := by decide +kernel
theorem dX1_greatest_2 : decode cX1_greatest 2 = .ok (.invokevirtual 16, 3) := by decide +kernel
theorem dX1_greatest_5 : decode cX1_greatest 5 = .ok (.astore 4, 2) := by decide +kernel
theorem dX1_greatest_7 : decode cX1_greatest 7 = .ok (.aload 4, 2) := by decide +kernel
theorem dX1_greatest_9 : decode cX1_greatest 9 = .ok (.ifnull 11, 3) := by decide +kernel
theorem dX1_greatest_12 : decode cX1_greatest 12 = .ok (.iload_n 2, 1) := by decide +kernel
theorem dX1_greatest_13 : decode cX1_greatest 13 = .ok (.iload_n 3, 1) := by decide +kernel
theorem dX1_greatest_14 : decode cX1_greatest 14 = .ok (.invokestatic 35, 3) := by decide +kernel
theorem dX1_greatest_17 : decode cX1_greatest 17 = .ok (.ifCond .ne 5, 3) := by decide +kernel
theorem dX1_greatest_20 : decode cX1_greatest 20 = .ok (.iconst (-1), 1) := by decide +kernel
theorem dX1_greatest_21 : decode cX1_greatest 21 = .ok (.ireturn, 1) := by decide +kernel
theorem dX1_greatest_22 : decode cX1_greatest 22 = .ok (.aload 4, 2) := by decide +kernel
theorem dX1_greatest_24 : decode cX1_greatest 24 = .ok (.iload_n 3, 1) := by decide +kernel
theorem dX1_greatest_25 : decode cX1_greatest 25 = .ok (.iload_n 2, 1) := by decide +kernel
theorem dX1_greatest_26 : decode cX1_greatest 26 = .ok (.invokevirtual 77, 3) := by decide +kernel
theorem dX1_greatest_29 : decode cX1_greatest 29 = .ok (.ineg, 1) := by decide +kernel
theorem dX1_greatest_30 : decode cX1_greatest 30 = .ok (.ireturn, 1) := by decide +kernel
set_option maxRecDepth 20000 in
theorem ggX1_guess_X1_tableAt : GoodIn wsX1_guess wsX1_tableAt := goodIn_r _ [6, 7, 80] (by decide +kernel) (by decide +kernel)
set_option maxRecDepth 20000 in
theorem gX1_guess_X1_tableAt : GoodIn wsX1_guess (wsV RX1 16 RX1 yX1_tableAt wsX1_tableAt) := goodIn_app (goodIn_of _ (by decide +kernel)) ggX1_guess_X1_tableAt
set_option maxRecDepth 20000 in
theorem ggX1_guess_X1_isSpan : GoodIn wsX1_guess wsX1_isSpan := goodIn_r _ [10] (by decide +kernel) (by decide +kernel)
set_option maxRecDepth 20000 in
theorem gX1_guess_X1_isSpan : GoodIn wsX1_guess (va_wsS RX1 35 yX1_isSpan wsX1_isSpan) := goodIn_app (goodIn_of _ (by decide +kernel)) ggX1_guess_X1_isSpan
set_option maxRecDepth 20000 in
theorem ggX1_guess_X0_spread : GoodIn wsX1_guess wsX0_spread := goodIn_r _ [15, 16, 17, 18, 19, 20, 21, 22, 23, 24, 25, 26, 27, 28, 29, 30, 31, 32, 33, 34, 14, 35, 36, 37, 38, 39, 40, 41, 42, 43, 44, 45, 46, 47, 48, 49, 50, 51, 52, 53, 54, 55, 56, 57, 58, 59, 60, 61, 62, 63, 64, 65, 66, 67, 68, 69, 70, 71, 72, 73, 74, 75, 76, 77, 78, 79] (by decide +kernel) (by decide +kernel)
set_option maxRecDepth 20000 in
theorem gX1_guess_X0_spread : GoodIn wsX1_guess (wsV RX1 81 RX0 yX0_spread wsX0_spread) := goodIn_app (goodIn_of _ (by decide +kernel)) ggX1_guess_X0_spread
theorem dX1_guess_0 : decode cX1_guess 0 = .ok (.aload_n 0, 1) := by decide +kernel
theorem dX1_guess_1 : decode cX1_guess 1 = .ok (.iload_n 1, 1) := by decide +kernel
theorem dX1_guess_2 : decode cX1_guess 2 = .ok (.invokevirtual 16, 3) := by decide +kernel
theorem dX1_guess_5 : decode cX1_guess 5 = .ok (.astore 4, 2) := by decide +kernel
theorem dX1_guess_7 : decode cX1_guess 7 = .ok (.aload 4, 2) := by decide +kernel
theorem dX1_guess_9 : decode cX1_guess 9 = .ok (.ifnull 11, 3) := by decide +kernel
theorem dX1_guess_12 : decode cX1_guess 12 = .ok (.iload_n 2, 1) := by decide +kernel
theorem dX1_guess_13 : decode cX1_guess 13 = .ok (.iload_n 3, 1) := by decide +kernel
theorem dX1_guess_14 : decode cX1_guess 14 = .ok (.invokestatic 35, 3) := by decide +kernel
theorem dX1_guess_17 : decode cX1_guess 17 = .ok (.ifCond .ne 5, 3) := by decide +kernel
theorem dX1_guess_20 : decode cX1_guess 20 = .ok (.iconst (-1), 1) := by decide +kernel
theorem dX1_guess_21 : decode cX1_guess 21 = .ok (.ireturn, 1) := by decide +kernel
theorem dX1_guess_22 : decode cX1_guess 22 = .ok (.aload 4, 2) := by decide +kernel
theorem dX1_guess_24 : decode cX1_guess 24 = .ok (.invokevirtual 81, 3) := by decide +kernel
theorem dX1_guess_27 : decode cX1_guess 27 = .ok (.aload 4, 2) := by decide +kernel
theorem dX1_guess_29 : decode cX1_guess 29 = .ok (.getfield 84, 3) := by decide +kernel
theorem dX1_guess_32 : decode cX1_guess 32 = .ok (.iload_n 3, 1) := by decide +kernel
theorem dX1_guess_33 : decode cX1_guess 33 = .ok (.iaload, 1) := by decide +kernel
theorem dX1_guess_34 : decode cX1_guess 34 = .ok (.aload 4, 2) := by decide +kernel
theorem dX1_guess_36 : decode cX1_guess 36 = .ok (.getfield 84, 3) := by decide +kernel
theorem dX1_guess_39 : decode cX1_guess 39 = .ok (.iload_n 2, 1) := by decide +kernel
theorem dX1_guess_40 : decode cX1_guess 40 = .ok (.iaload, 1) := by decide +kernel
theorem dX1_guess_41 : decode cX1_guess 41 = .ok (.isub, 1) := by decide +kernel
theorem dX1_guess_42 : decode cX1_guess 42 = .ok (.ireturn, 1) := by decide +kernel
set_option maxRecDepth 20000 in
theorem ggX1_join_X1_tableAt : GoodIn wsX1_join wsX1_tableAt := goodIn_r _ [6, 7, 71] (by decide +kernel) (by decide +kernel)
set_option maxRecDepth 20000 in
theorem gX1_join_X1_tableAt : GoodIn wsX1_join (wsV RX1 16 RX1 yX1_tableAt wsX1_tableAt) := goodIn_app (goodIn_of _ (by decide +kernel)) ggX1_join_X1_tableAt
set_option maxRecDepth 20000 in
theorem ggX1_join_X1_isSpan : GoodIn wsX1_join wsX1_isSpan := goodIn_r _ [10] (by decide +kernel) (by decide +kernel)
set_option maxRecDepth 20000 in
theorem gX1_join_X1_isSpan : GoodIn wsX1_join (va_wsS RX1 35 yX1_isSpan wsX1_isSpan) := goodIn_app (goodIn_of _ (by decide +kernel)) ggX1_join_X1_isSpan
set_option maxRecDepth 20000 in
theorem ggX1_join_X0_spread : GoodIn wsX1_join wsX0_spread := goodIn_r _ [15, 16, 17, 18, 19, 20, 21, 22, 23, 24, 25, 26, 27, 28, 29, 30, 31, 32, 33, 34, 14, 35, 36, 37, 38, 39, 40, 41, 42, 43, 44, 45, 46, 47, 48, 49, 50, 51, 52, 53, 54, 55, 56, 57, 58, 59, 60, 61, 62, 63, 64, 65, 72, 73, 74, 75, 76, 77, 78, 79, 80, 81, 82, 83, 84, 85] (by decide +kernel) (by decide +kernel)
set_option maxRecDepth 20000 in
theorem gX1_join_X0_spread : GoodIn wsX1_join (wsV RX1 81 RX0 yX0_spread wsX0_spread) := goodIn_app (goodIn_of _ (by decide +kernel)) ggX1_join_X0_spread
set_option maxRecDepth 20000 in
theorem ggX1_join_X0_rowsOf : GoodIn wsX1_join wsX0_rowsOf := goodIn_r _ [69, 70, 18, 72, 73, 74, 75, 76, 77, 78, 79, 80, 81, 82, 83, 84, 85] (by decide +kernel) (by decide +kernel)
set_option maxRecDepth 20000 in
theorem gX1_join_X0_rowsOf : GoodIn wsX1_join (wsV RX1 89 RX0 yX0_rowsOf wsX0_rowsOf) := goodIn_app (goodIn_of _ (by decide +kernel)) ggX1_join_X0_rowsOf
theorem dX1_join_0 : decode cX1_join 0 = .ok (.aload_n 0, 1) := by decide +kernel
theorem dX1_join_1 : decode cX1_join 1 = .ok (.iload_n 1, 1) := by decide +kernel
theorem dX1_join_2 : decode cX1_join 2 = .ok (.invokevirtual 16, 3) := by decide +kernel
theorem dX1_join_5 : decode cX1_join 5 = .ok (.astore 5, 2) := by decide +kernel
theorem dX1_join_7 : decode cX1_join 7 = .ok (.aload_n 0, 1) := by decide +kernel
theorem dX1_join_8 : decode cX1_join 8 = .ok (.iload_n 2, 1) := by decide +kernel
theorem dX1_join_9 : decode cX1_join 9 = .ok (.invokevirtual 16, 3) := by decide +kernel
theorem dX1_join_12 : decode cX1_join 12 = .ok (.astore 6, 2) := by decide +kernel
theorem dX1_join_14 : decode cX1_join 14 = .ok (.aload 5, 2) := by decide +kernel
theorem dX1_join_16 : decode cX1_join 16 = .ok (.ifnull 17, 3) := by decide +kernel
theorem dX1_join_19 : decode cX1_join 19 = .ok (.aload 6, 2) := by decide +kernel
theorem dX1_join_21 : decode cX1_join 21 = .ok (.ifnull 12, 3) := by decide +kernel
theorem dX1_join_24 : decode cX1_join 24 = .ok (.iload_n 3, 1) := by decide +kernel
theorem dX1_join_25 : decode cX1_join 25 = .ok (.iload 4, 2) := by decide +kernel
theorem dX1_join_27 : decode cX1_join 27 = .ok (.invokestatic 35, 3) := by decide +kernel
theorem dX1_join_30 : decode cX1_join 30 = .ok (.ifCond .ne 7, 3) := by decide +kernel
theorem dX1_join_33 : decode cX1_join 33 = .ok (.ldc2_w 87, 3) := by decide +kernel
theorem dX1_join_36 : decode cX1_join 36 = .ok (.lreturn, 1) := by decide +kernel
theorem dX1_join_37 : decode cX1_join 37 = .ok (.aload 5, 2) := by decide +kernel
theorem dX1_join_39 : decode cX1_join 39 = .ok (.invokevirtual 81, 3) := by decide +kernel
theorem dX1_join_42 : decode cX1_join 42 = .ok (.aload 6, 2) := by decide +kernel
theorem dX1_join_44 : decode cX1_join 44 = .ok (.invokevirtual 81, 3) := by decide +kernel
theorem dX1_join_47 : decode cX1_join 47 = .ok (.lconst 0, 1) := by decide +kernel
theorem dX1_join_48 : decode cX1_join 48 = .ok (.lstore 7, 2) := by decide +kernel
theorem dX1_join_50 : decode cX1_join 50 = .ok (.iload_n 3, 1) := by decide +kernel
theorem dX1_join_51 : decode cX1_join 51 = .ok (.istore 9, 2) := by decide +kernel
theorem dX1_join_53 : decode cX1_join 53 = .ok (.iload 9, 2) := by decide +kernel
theorem dX1_join_55 : decode cX1_join 55 = .ok (.iload 4, 2) := by decide +kernel
theorem dX1_join_57 : decode cX1_join 57 = .ok (.if_icmp .ge 31, 3) := by decide +kernel
theorem dX1_join_60 : decode cX1_join 60 = .ok (.lload 7, 2) := by decide +kernel
theorem dX1_join_62 : decode cX1_join 62 = .ok (.aload 5, 2) := by decide +kernel
theorem dX1_join_64 : decode cX1_join 64 = .ok (.iload 9, 2) := by decide +kernel
theorem dX1_join_66 : decode cX1_join 66 = .ok (.iconst 0, 1) := by decide +kernel
theorem dX1_join_67 : decode cX1_join 67 = .ok (.invokevirtual 89, 3) := by decide +kernel
theorem dX1_join_70 : decode cX1_join 70 = .ok (.aload 6, 2) := by decide +kernel
theorem dX1_join_72 : decode cX1_join 72 = .ok (.iload 9, 2) := by decide +kernel
theorem dX1_join_74 : decode cX1_join 74 = .ok (.iconst 0, 1) := by decide +kernel
theorem dX1_join_75 : decode cX1_join 75 = .ok (.invokevirtual 89, 3) := by decide +kernel
theorem dX1_join_78 : decode cX1_join 78 = .ok (.lmul, 1) := by decide +kernel
theorem dX1_join_79 : decode cX1_join 79 = .ok (.ladd, 1) := by decide +kernel
theorem dX1_join_80 : decode cX1_join 80 = .ok (.lstore 7, 2) := by decide +kernel
theorem dX1_join_82 : decode cX1_join 82 = .ok (.iinc 9 1, 3) := by decide +kernel
theorem dX1_join_85 : decode cX1_join 85 = .ok (.goto (-32), 3) := by decide +kernel
theorem dX1_join_88 : decode cX1_join 88 = .ok (.lload 7, 2) := by decide +kernel
theorem dX1_join_90 : decode cX1_join 90 = .ok (.lreturn, 1) := by decide +kernel
set_option maxRecDepth 20000 in
theorem ggX1_truth_X1_tableAt : GoodIn wsX1_truth wsX1_tableAt := goodIn_r _ [7, 8, 23] (by decide +kernel) (by decide +kernel)
set_option maxRecDepth 20000 in
theorem gX1_truth_X1_tableAt : GoodIn wsX1_truth (wsV RX1 16 RX1 yX1_tableAt wsX1_tableAt) := goodIn_app (goodIn_of _ (by decide +kernel)) ggX1_truth_X1_tableAt
theorem dX1_truth_0 : decode cX1_truth 0 = .ok (.aload_n 0, 1) := by decide +kernel
theorem dX1_truth_1 : decode cX1_truth 1 = .ok (.iload_n 1, 1) := by decide +kernel
theorem dX1_truth_2 : decode cX1_truth 2 = .ok (.invokevirtual 16, 3) := by decide +kernel
theorem dX1_truth_5 : decode cX1_truth 5 = .ok (.astore 4, 2) := by decide +kernel
theorem dX1_truth_7 : decode cX1_truth 7 = .ok (.aload 4, 2) := by decide +kernel
theorem dX1_truth_9 : decode cX1_truth 9 = .ok (.ifnull 23, 3) := by decide +kernel
theorem dX1_truth_12 : decode cX1_truth 12 = .ok (.iload_n 2, 1) := by decide +kernel
theorem dX1_truth_13 : decode cX1_truth 13 = .ok (.ifCond .lt 19, 3) := by decide +kernel
theorem dX1_truth_16 : decode cX1_truth 16 = .ok (.iload_n 2, 1) := by decide +kernel
theorem dX1_truth_17 : decode cX1_truth 17 = .ok (.bipush 64, 2) := by decide +kernel
theorem dX1_truth_19 : decode cX1_truth 19 = .ok (.if_icmp .ge 13, 3) := by decide +kernel
theorem dX1_truth_22 : decode cX1_truth 22 = .ok (.iload_n 3, 1) := by decide +kernel
theorem dX1_truth_23 : decode cX1_truth 23 = .ok (.ifCond .lt 9, 3) := by decide +kernel
theorem dX1_truth_26 : decode cX1_truth 26 = .ok (.iload_n 3, 1) := by decide +kernel
theorem dX1_truth_27 : decode cX1_truth 27 = .ok (.ldc 93, 2) := by decide +kernel
theorem dX1_truth_29 : decode cX1_truth 29 = .ok (.if_icmp .le 5, 3) := by decide +kernel
theorem dX1_truth_32 : decode cX1_truth 32 = .ok (.iconst 0, 1) := by decide +kernel
theorem dX1_truth_33 : decode cX1_truth 33 = .ok (.ireturn, 1) := by decide +kernel
theorem dX1_truth_34 : decode cX1_truth 34 = .ok (.aload 4, 2) := by decide +kernel
theorem dX1_truth_36 : decode cX1_truth 36 = .ok (.getfield 94, 3) := by decide +kernel
theorem dX1_truth_39 : decode cX1_truth 39 = .ok (.iload_n 2, 1) := by decide +kernel
theorem dX1_truth_40 : decode cX1_truth 40 = .ok (.iload_n 3, 1) := by decide +kernel
theorem dX1_truth_41 : decode cX1_truth 41 = .ok (.iastore, 1) := by decide +kernel
theorem dX1_truth_42 : decode cX1_truth 42 = .ok (.iconst 1, 1) := by decide +kernel
theorem dX1_truth_43 : decode cX1_truth 43 = .ok (.ireturn, 1) := by decide +kernel
set_option maxRecDepth 20000 in
theorem ggX1_agrees_X1_tableAt : GoodIn wsX1_agrees wsX1_tableAt := goodIn_r _ [5, 6, 51] (by decide +kernel) (by decide +kernel)
set_option maxRecDepth 20000 in
theorem gX1_agrees_X1_tableAt : GoodIn wsX1_agrees (wsV RX1 16 RX1 yX1_tableAt wsX1_tableAt) := goodIn_app (goodIn_of _ (by decide +kernel)) ggX1_agrees_X1_tableAt
set_option maxRecDepth 20000 in
theorem ggX1_agrees_X0_trulyAgrees : GoodIn wsX1_agrees wsX0_trulyAgrees := goodIn_r _ [11, 12, 13, 14, 15, 16, 17, 18, 19, 20, 21, 22, 23, 10, 24, 25, 26, 27, 28, 29, 30, 31, 32, 33, 34, 35, 36, 37, 38, 39, 40, 41, 42, 43, 44, 45, 46, 47, 48, 49, 50, 52, 53, 54, 55, 56, 57, 58, 59, 60, 61, 62, 63, 64, 65] (by decide +kernel) (by decide +kernel)
set_option maxRecDepth 20000 in
theorem gX1_agrees_X0_trulyAgrees : GoodIn wsX1_agrees (wsV RX1 97 RX0 yX0_trulyAgrees wsX0_trulyAgrees) := goodIn_app (goodIn_of _ (by decide +kernel)) ggX1_agrees_X0_trulyAgrees
theorem dX1_agrees_0 : decode cX1_agrees 0 = .ok (.aload_n 0, 1) := by decide +kernel
theorem dX1_agrees_1 : decode cX1_agrees 1 = .ok (.iload_n 1, 1) := by decide +kernel
theorem dX1_agrees_2 : decode cX1_agrees 2 = .ok (.invokevirtual 16, 3) := by decide +kernel
theorem dX1_agrees_5 : decode cX1_agrees 5 = .ok (.astore_n 2, 1) := by decide +kernel
theorem dX1_agrees_6 : decode cX1_agrees 6 = .ok (.aload_n 2, 1) := by decide +kernel
theorem dX1_agrees_7 : decode cX1_agrees 7 = .ok (.ifnonnull 5, 3) := by decide +kernel
theorem dX1_agrees_10 : decode cX1_agrees 10 = .ok (.iconst (-1), 1) := by decide +kernel
theorem dX1_agrees_11 : decode cX1_agrees 11 = .ok (.ireturn, 1) := by decide +kernel
theorem dX1_agrees_12 : decode cX1_agrees 12 = .ok (.aload_n 2, 1) := by decide +kernel
theorem dX1_agrees_13 : decode cX1_agrees 13 = .ok (.invokevirtual 97, 3) := by decide +kernel
theorem dX1_agrees_16 : decode cX1_agrees 16 = .ok (.ifCond .eq 7, 3) := by decide +kernel
theorem dX1_agrees_19 : decode cX1_agrees 19 = .ok (.iconst 1, 1) := by decide +kernel
theorem dX1_agrees_20 : decode cX1_agrees 20 = .ok (.goto 4, 3) := by decide +kernel
theorem dX1_agrees_23 : decode cX1_agrees 23 = .ok (.iconst 0, 1) := by decide +kernel
theorem dX1_agrees_24 : decode cX1_agrees 24 = .ok (.ireturn, 1) := by decide +kernel
set_option maxRecDepth 20000 in
theorem ggX1_cost_X1_spreadAll : GoodIn wsX1_cost wsX1_spreadAll := goodIn_r _ [6, 7, 8, 9, 10, 11, 12, 13, 14, 15, 16, 17, 18, 19, 20, 21, 22, 23, 24, 25, 26, 27, 28, 29, 30, 31, 32, 33, 34, 35, 36, 37, 38, 39, 40, 41, 42, 43, 44, 45, 46, 47, 48, 49, 50, 51, 52, 53, 54, 55, 56, 57, 58, 59, 60, 61, 62, 73, 74, 75, 76, 77, 78, 79, 80, 81, 82, 83, 84, 85, 86, 87] (by decide +kernel) (by decide +kernel)
set_option maxRecDepth 20000 in
theorem gX1_cost_X1_spreadAll : GoodIn wsX1_cost (wsV RX1 101 RX1 yX1_spreadAll wsX1_spreadAll) := goodIn_app (goodIn_of _ (by decide +kernel)) ggX1_cost_X1_spreadAll
set_option maxRecDepth 20000 in
theorem ggX1_cost_X1_costOf : GoodIn wsX1_cost wsX1_costOf := goodIn_r _ [66, 7, 67, 68, 69, 70, 11, 71, 72, 15, 73, 74, 75, 76, 77, 78, 79, 80, 81, 82, 83, 84, 85, 86, 87] (by decide +kernel) (by decide +kernel)
set_option maxRecDepth 20000 in
theorem gX1_cost_X1_costOf : GoodIn wsX1_cost (wsV RX1 104 RX1 yX1_costOf wsX1_costOf) := goodIn_app (goodIn_of _ (by decide +kernel)) ggX1_cost_X1_costOf
theorem dX1_cost_0 : decode cX1_cost 0 = .ok (.iload_n 1, 1) := by decide +kernel
theorem dX1_cost_1 : decode cX1_cost 1 = .ok (.ifCond .lt 9, 3) := by decide +kernel
theorem dX1_cost_4 : decode cX1_cost 4 = .ok (.iload_n 1, 1) := by decide +kernel
theorem dX1_cost_5 : decode cX1_cost 5 = .ok (.bipush 6, 2) := by decide +kernel
theorem dX1_cost_7 : decode cX1_cost 7 = .ok (.if_icmp .lt 7, 3) := by decide +kernel
theorem dX1_cost_10 : decode cX1_cost 10 = .ok (.ldc2_w 87, 3) := by decide +kernel
theorem dX1_cost_13 : decode cX1_cost 13 = .ok (.lreturn, 1) := by decide +kernel
theorem dX1_cost_14 : decode cX1_cost 14 = .ok (.aload_n 0, 1) := by decide +kernel
theorem dX1_cost_15 : decode cX1_cost 15 = .ok (.invokevirtual 101, 3) := by decide +kernel
theorem dX1_cost_18 : decode cX1_cost 18 = .ok (.aload_n 0, 1) := by decide +kernel
theorem dX1_cost_19 : decode cX1_cost 19 = .ok (.iload_n 1, 1) := by decide +kernel
theorem dX1_cost_20 : decode cX1_cost 20 = .ok (.iload_n 2, 1) := by decide +kernel
theorem dX1_cost_21 : decode cX1_cost 21 = .ok (.invokevirtual 104, 3) := by decide +kernel
theorem dX1_cost_24 : decode cX1_cost 24 = .ok (.lreturn, 1) := by decide +kernel
set_option maxRecDepth 20000 in
theorem ggX1_plan_X1_spreadAll : GoodIn wsX1_plan wsX1_spreadAll := goodIn_r _ [5, 6, 7, 8, 9, 10, 11, 12, 13, 14, 15, 16, 17, 18, 19, 20, 21, 22, 23, 24, 25, 26, 27, 28, 29, 30, 31, 32, 33, 34, 35, 36, 37, 38, 39, 40, 41, 42, 43, 44, 45, 46, 47, 48, 49, 50, 51, 52, 53, 54, 55, 56, 57, 58, 59, 60, 61, 76, 77, 78, 79, 80, 81, 82, 83, 84, 85, 86, 87, 88, 89, 90] (by decide +kernel) (by decide +kernel)
set_option maxRecDepth 20000 in
theorem gX1_plan_X1_spreadAll : GoodIn wsX1_plan (wsV RX1 101 RX1 yX1_spreadAll wsX1_spreadAll) := goodIn_app (goodIn_of _ (by decide +kernel)) ggX1_plan_X1_spreadAll
set_option maxRecDepth 20000 in
theorem ggX1_plan_X1_cheapest : GoodIn wsX1_plan wsX1_cheapest := goodIn_r _ [65, 66, 67, 68, 4, 69, 6, 70, 71, 72, 73, 10, 74, 75, 14, 76, 77, 78, 79, 80, 81, 82, 83, 84, 85, 86, 87, 88, 89, 90] (by decide +kernel) (by decide +kernel)
set_option maxRecDepth 20000 in
theorem gX1_plan_X1_cheapest : GoodIn wsX1_plan (wsV RX1 107 RX1 yX1_cheapest wsX1_cheapest) := goodIn_app (goodIn_of _ (by decide +kernel)) ggX1_plan_X1_cheapest
theorem dX1_plan_0 : decode cX1_plan 0 = .ok (.aload_n 0, 1) := by decide +kernel
theorem dX1_plan_1 : decode cX1_plan 1 = .ok (.invokevirtual 101, 3) := by decide +kernel
theorem dX1_plan_4 : decode cX1_plan 4 = .ok (.aload_n 0, 1) := by decide +kernel
theorem dX1_plan_5 : decode cX1_plan 5 = .ok (.iload_n 1, 1) := by decide +kernel
theorem dX1_plan_6 : decode cX1_plan 6 = .ok (.invokevirtual 107, 3) := by decide +kernel
theorem dX1_plan_9 : decode cX1_plan 9 = .ok (.ireturn, 1) := by decide +kernel
set_option maxRecDepth 20000 in
theorem ggX1_lost_X1_spreadAll : GoodIn wsX1_lost wsX1_spreadAll := goodIn_r _ [5, 6, 7, 8, 9, 10, 11, 12, 13, 14, 15, 16, 17, 18, 19, 20, 21, 22, 23, 24, 25, 26, 27, 28, 29, 30, 31, 32, 33, 34, 35, 36, 37, 38, 39, 40, 41, 42, 43, 44, 45, 46, 47, 48, 49, 50, 51, 52, 53, 54, 55, 56, 57, 58, 59, 60, 61, 76, 77, 78, 79, 80, 81, 82, 83, 84, 85, 86, 87, 88, 89, 90] (by decide +kernel) (by decide +kernel)
set_option maxRecDepth 20000 in
theorem gX1_lost_X1_spreadAll : GoodIn wsX1_lost (wsV RX1 101 RX1 yX1_spreadAll wsX1_spreadAll) := goodIn_app (goodIn_of _ (by decide +kernel)) ggX1_lost_X1_spreadAll
set_option maxRecDepth 20000 in
theorem ggX1_lost_X1_cheapest : GoodIn wsX1_lost wsX1_cheapest := goodIn_r _ [65, 66, 67, 68, 4, 69, 6, 70, 71, 72, 73, 10, 74, 75, 14, 76, 77, 78, 79, 80, 81, 82, 83, 84, 85, 86, 87, 88, 89, 90] (by decide +kernel) (by decide +kernel)
set_option maxRecDepth 20000 in
theorem gX1_lost_X1_cheapest : GoodIn wsX1_lost (wsV RX1 107 RX1 yX1_cheapest wsX1_cheapest) := goodIn_app (goodIn_of _ (by decide +kernel)) ggX1_lost_X1_cheapest
set_option maxRecDepth 20000 in
theorem ggX1_lost_X1_costOf : GoodIn wsX1_lost wsX1_costOf := goodIn_r _ [69, 6, 70, 71, 72, 73, 10, 74, 75, 14, 76, 77, 78, 79, 80, 81, 82, 83, 84, 85, 86, 87, 88, 89, 90] (by decide +kernel) (by decide +kernel)
set_option maxRecDepth 20000 in
theorem gX1_lost_X1_costOf : GoodIn wsX1_lost (wsV RX1 104 RX1 yX1_costOf wsX1_costOf) := goodIn_app (goodIn_of _ (by decide +kernel)) ggX1_lost_X1_costOf
theorem dX1_lost_0 : decode cX1_lost 0 = .ok (.aload_n 0, 1) := by decide +kernel
theorem dX1_lost_1 : decode cX1_lost 1 = .ok (.invokevirtual 101, 3) := by decide +kernel
theorem dX1_lost_4 : decode cX1_lost 4 = .ok (.aload_n 0, 1) := by decide +kernel
theorem dX1_lost_5 : decode cX1_lost 5 = .ok (.aload_n 0, 1) := by decide +kernel
theorem dX1_lost_6 : decode cX1_lost 6 = .ok (.iconst 0, 1) := by decide +kernel
theorem dX1_lost_7 : decode cX1_lost 7 = .ok (.invokevirtual 107, 3) := by decide +kernel
theorem dX1_lost_10 : decode cX1_lost 10 = .ok (.iconst 1, 1) := by decide +kernel
theorem dX1_lost_11 : decode cX1_lost 11 = .ok (.invokevirtual 104, 3) := by decide +kernel
theorem dX1_lost_14 : decode cX1_lost 14 = .ok (.aload_n 0, 1) := by decide +kernel
theorem dX1_lost_15 : decode cX1_lost 15 = .ok (.aload_n 0, 1) := by decide +kernel
theorem dX1_lost_16 : decode cX1_lost 16 = .ok (.iconst 1, 1) := by decide +kernel
theorem dX1_lost_17 : decode cX1_lost 17 = .ok (.invokevirtual 107, 3) := by decide +kernel
theorem dX1_lost_20 : decode cX1_lost 20 = .ok (.iconst 1, 1) := by decide +kernel
theorem dX1_lost_21 : decode cX1_lost 21 = .ok (.invokevirtual 104, 3) := by decide +kernel
theorem dX1_lost_24 : decode cX1_lost 24 = .ok (.lsub, 1) := by decide +kernel
theorem dX1_lost_25 : decode cX1_lost 25 = .ok (.lreturn, 1) := by decide +kernel
set_option maxRecDepth 20000 in
theorem ggX1_table_X1_tableAt : GoodIn wsX1_table wsX1_tableAt := goodIn_r _ [8, 9, 67] (by decide +kernel) (by decide +kernel)
set_option maxRecDepth 20000 in
theorem gX1_table_X1_tableAt : GoodIn wsX1_table (wsV RX1 16 RX1 yX1_tableAt wsX1_tableAt) := goodIn_app (goodIn_of _ (by decide +kernel)) ggX1_table_X1_tableAt
set_option maxRecDepth 20000 in
theorem ggX1_table_X0_sightsThatAre : GoodIn wsX1_table wsX0_sightsThatAre := goodIn_r _ [14, 15, 16, 17, 18, 19, 13, 20, 21, 22, 23, 24, 25, 26, 27, 28, 29, 30, 31, 32, 33, 34, 35, 36, 37, 38, 39, 40, 41, 42, 43, 44, 45, 46, 47, 48, 49, 50, 51, 52, 53, 54, 55, 56, 57, 58, 59, 60, 61, 62, 63, 64, 65, 66] (by decide +kernel) (by decide +kernel)
set_option maxRecDepth 20000 in
theorem gX1_table_X0_sightsThatAre : GoodIn wsX1_table (wsV RX1 111 RX0 yX0_sightsThatAre wsX0_sightsThatAre) := goodIn_app (goodIn_of _ (by decide +kernel)) ggX1_table_X0_sightsThatAre
theorem dX1_table_0 : decode cX1_table 0 = .ok (.aload_n 0, 1) := by decide +kernel
theorem dX1_table_1 : decode cX1_table 1 = .ok (.iload_n 1, 1) := by decide +kernel
theorem dX1_table_2 : decode cX1_table 2 = .ok (.invokevirtual 16, 3) := by decide +kernel
theorem dX1_table_5 : decode cX1_table 5 = .ok (.astore_n 3, 1) := by decide +kernel
theorem dX1_table_6 : decode cX1_table 6 = .ok (.aload_n 3, 1) := by decide +kernel
theorem dX1_table_7 : decode cX1_table 7 = .ok (.ifnonnull 5, 3) := by decide +kernel
theorem dX1_table_10 : decode cX1_table 10 = .ok (.iconst (-1), 1) := by decide +kernel
theorem dX1_table_11 : decode cX1_table 11 = .ok (.ireturn, 1) := by decide +kernel
theorem dX1_table_12 : decode cX1_table 12 = .ok (.iload_n 2, 1) := by decide +kernel
theorem dX1_table_13 : decode cX1_table 13 = .ok (.tableswitch 72 0 5 #[39, 44, 49, 55, 61, 67], 39) := by decide +kernel
theorem dX1_table_52 : decode cX1_table 52 = .ok (.aload_n 3, 1) := by decide +kernel
theorem dX1_table_53 : decode cX1_table 53 = .ok (.getfield 25, 3) := by decide +kernel
theorem dX1_table_56 : decode cX1_table 56 = .ok (.ireturn, 1) := by decide +kernel
theorem dX1_table_57 : decode cX1_table 57 = .ok (.aload_n 3, 1) := by decide +kernel
theorem dX1_table_58 : decode cX1_table 58 = .ok (.getfield 55, 3) := by decide +kernel
theorem dX1_table_61 : decode cX1_table 61 = .ok (.ireturn, 1) := by decide +kernel
theorem dX1_table_62 : decode cX1_table 62 = .ok (.aload_n 3, 1) := by decide +kernel
theorem dX1_table_63 : decode cX1_table 63 = .ok (.iconst 0, 1) := by decide +kernel
theorem dX1_table_64 : decode cX1_table 64 = .ok (.invokevirtual 111, 3) := by decide +kernel
theorem dX1_table_67 : decode cX1_table 67 = .ok (.ireturn, 1) := by decide +kernel
theorem dX1_table_68 : decode cX1_table 68 = .ok (.aload_n 3, 1) := by decide +kernel
theorem dX1_table_69 : decode cX1_table 69 = .ok (.iconst 1, 1) := by decide +kernel
theorem dX1_table_70 : decode cX1_table 70 = .ok (.invokevirtual 111, 3) := by decide +kernel
theorem dX1_table_73 : decode cX1_table 73 = .ok (.ireturn, 1) := by decide +kernel
theorem dX1_table_74 : decode cX1_table 74 = .ok (.aload_n 3, 1) := by decide +kernel
theorem dX1_table_75 : decode cX1_table 75 = .ok (.iconst 2, 1) := by decide +kernel
theorem dX1_table_76 : decode cX1_table 76 = .ok (.invokevirtual 111, 3) := by decide +kernel
theorem dX1_table_79 : decode cX1_table 79 = .ok (.ireturn, 1) := by decide +kernel
theorem dX1_table_80 : decode cX1_table 80 = .ok (.aload_n 3, 1) := by decide +kernel
theorem dX1_table_81 : decode cX1_table 81 = .ok (.getfield 114, 3) := by decide +kernel
theorem dX1_table_84 : decode cX1_table 84 = .ok (.ireturn, 1) := by decide +kernel
theorem dX1_table_85 : decode cX1_table 85 = .ok (.iconst (-1), 1) := by decide +kernel
theorem dX1_table_86 : decode cX1_table 86 = .ok (.ireturn, 1) := by decide +kernel
theorem dX1_tableAt_0 : decode cX1_tableAt 0 = .ok (.iload_n 1, 1) := by decide +kernel
theorem dX1_tableAt_1 : decode cX1_tableAt 1 = .ok (.ifCond .lt 17, 3) := by decide +kernel
theorem dX1_tableAt_4 : decode cX1_tableAt 4 = .ok (.iload_n 1, 1) := by decide +kernel
theorem dX1_tableAt_5 : decode cX1_tableAt 5 = .ok (.iconst 3, 1) := by decide +kernel
theorem dX1_tableAt_6 : decode cX1_tableAt 6 = .ok (.if_icmp .ge 12, 3) := by decide +kernel
theorem dX1_tableAt_9 : decode cX1_tableAt 9 = .ok (.aload_n 0, 1) := by decide +kernel
theorem dX1_tableAt_10 : decode cX1_tableAt 10 = .ok (.getfield 11, 3) := by decide +kernel
theorem dX1_tableAt_13 : decode cX1_tableAt 13 = .ok (.iload_n 1, 1) := by decide +kernel
theorem dX1_tableAt_14 : decode cX1_tableAt 14 = .ok (.aaload, 1) := by decide +kernel
theorem dX1_tableAt_15 : decode cX1_tableAt 15 = .ok (.goto 4, 3) := by decide +kernel
theorem dX1_tableAt_18 : decode cX1_tableAt 18 = .ok (.aconst_null, 1) := by decide +kernel
theorem dX1_tableAt_19 : decode cX1_tableAt 19 = .ok (.areturn, 1) := by decide +kernel
theorem dX1_isSpan_0 : decode cX1_isSpan 0 = .ok (.iconst 0, 1) := by decide +kernel
theorem dX1_isSpan_1 : decode cX1_isSpan 1 = .ok (.iload_n 0, 1) := by decide +kernel
theorem dX1_isSpan_2 : decode cX1_isSpan 2 = .ok (.if_icmp .gt 18, 3) := by decide +kernel
theorem dX1_isSpan_5 : decode cX1_isSpan 5 = .ok (.iload_n 0, 1) := by decide +kernel
theorem dX1_isSpan_6 : decode cX1_isSpan 6 = .ok (.iload_n 1, 1) := by decide +kernel
theorem dX1_isSpan_7 : decode cX1_isSpan 7 = .ok (.if_icmp .gt 13, 3) := by decide +kernel
theorem dX1_isSpan_10 : decode cX1_isSpan 10 = .ok (.iload_n 1, 1) := by decide +kernel
theorem dX1_isSpan_11 : decode cX1_isSpan 11 = .ok (.bipush 64, 2) := by decide +kernel
theorem dX1_isSpan_13 : decode cX1_isSpan 13 = .ok (.if_icmp .gt 7, 3) := by decide +kernel
theorem dX1_isSpan_16 : decode cX1_isSpan 16 = .ok (.iconst 1, 1) := by decide +kernel
theorem dX1_isSpan_17 : decode cX1_isSpan 17 = .ok (.goto 4, 3) := by decide +kernel
theorem dX1_isSpan_20 : decode cX1_isSpan 20 = .ok (.iconst 0, 1) := by decide +kernel
theorem dX1_isSpan_21 : decode cX1_isSpan 21 = .ok (.ireturn, 1) := by decide +kernel
theorem dX1_textsOf_0 : decode cX1_textsOf 0 = .ok (.iconst 1, 1) := by decide +kernel
theorem dX1_textsOf_1 : decode cX1_textsOf 1 = .ok (.iconst 2, 1) := by decide +kernel
theorem dX1_textsOf_2 : decode cX1_textsOf 2 = .ok (.iload_n 0, 1) := by decide +kernel
theorem dX1_textsOf_3 : decode cX1_textsOf 3 = .ok (.imul, 1) := by decide +kernel
theorem dX1_textsOf_4 : decode cX1_textsOf 4 = .ok (.ishl, 1) := by decide +kernel
theorem dX1_textsOf_5 : decode cX1_textsOf 5 = .ok (.ireturn, 1) := by decide +kernel
set_option maxRecDepth 20000 in
theorem ggX1_spreadAll_X0_spread : GoodIn wsX1_spreadAll wsX0_spread := goodIn_r _ [6, 7, 8, 9, 10, 11, 12, 13, 14, 15, 16, 17, 18, 19, 20, 21, 22, 23, 24, 25, 5, 26, 27, 28, 29, 30, 31, 32, 33, 34, 35, 36, 37, 38, 39, 40, 41, 42, 43, 44, 45, 46, 47, 48, 49, 50, 51, 52, 53, 54, 55, 56, 58, 59, 60, 61, 62, 63, 64, 65, 66, 67, 68, 69, 70, 71] (by decide +kernel) (by decide +kernel)
set_option maxRecDepth 20000 in
theorem gX1_spreadAll_X0_spread : GoodIn wsX1_spreadAll (wsV RX1 81 RX0 yX0_spread wsX0_spread) := goodIn_app (goodIn_of _ (by decide +kernel)) ggX1_spreadAll_X0_spread
theorem dX1_spreadAll_0 : decode cX1_spreadAll 0 = .ok (.iconst 0, 1) := by decide +kernel
theorem dX1_spreadAll_1 : decode cX1_spreadAll 1 = .ok (.istore_n 1, 1) := by decide +kernel
theorem dX1_spreadAll_2 : decode cX1_spreadAll 2 = .ok (.iload_n 1, 1) := by decide +kernel
theorem dX1_spreadAll_3 : decode cX1_spreadAll 3 = .ok (.iconst 3, 1) := by decide +kernel
theorem dX1_spreadAll_4 : decode cX1_spreadAll 4 = .ok (.if_icmp .ge 18, 3) := by decide +kernel
theorem dX1_spreadAll_7 : decode cX1_spreadAll 7 = .ok (.aload_n 0, 1) := by decide +kernel
theorem dX1_spreadAll_8 : decode cX1_spreadAll 8 = .ok (.getfield 11, 3) := by decide +kernel
theorem dX1_spreadAll_11 : decode cX1_spreadAll 11 = .ok (.iload_n 1, 1) := by decide +kernel
theorem dX1_spreadAll_12 : decode cX1_spreadAll 12 = .ok (.aaload, 1) := by decide +kernel
theorem dX1_spreadAll_13 : decode cX1_spreadAll 13 = .ok (.invokevirtual 81, 3) := by decide +kernel
theorem dX1_spreadAll_16 : decode cX1_spreadAll 16 = .ok (.iinc 1 1, 3) := by decide +kernel
theorem dX1_spreadAll_19 : decode cX1_spreadAll 19 = .ok (.goto (-17), 3) := by decide +kernel
theorem dX1_spreadAll_22 : decode cX1_spreadAll 22 = .ok (.return_, 1) := by decide +kernel
set_option maxRecDepth 20000 in
theorem ggX1_cheapest_X1_costOf : GoodIn wsX1_cheapest wsX1_costOf := goodIn_r _ [5, 6, 7, 8, 9, 10, 11, 12, 13, 14, 15, 16, 17, 18, 19, 20, 21, 22, 23, 24, 25, 26, 27, 28, 29] (by decide +kernel) (by decide +kernel)
set_option maxRecDepth 20000 in
theorem gX1_cheapest_X1_costOf : GoodIn wsX1_cheapest (wsV RX1 104 RX1 yX1_costOf wsX1_costOf) := goodIn_app (goodIn_of _ (by decide +kernel)) ggX1_cheapest_X1_costOf
theorem dX1_cheapest_0 : decode cX1_cheapest 0 = .ok (.iconst 0, 1) := by decide +kernel
theorem dX1_cheapest_1 : decode cX1_cheapest 1 = .ok (.istore_n 2, 1) := by decide +kernel
theorem dX1_cheapest_2 : decode cX1_cheapest 2 = .ok (.aload_n 0, 1) := by decide +kernel
theorem dX1_cheapest_3 : decode cX1_cheapest 3 = .ok (.iconst 0, 1) := by decide +kernel
theorem dX1_cheapest_4 : decode cX1_cheapest 4 = .ok (.iload_n 1, 1) := by decide +kernel
theorem dX1_cheapest_5 : decode cX1_cheapest 5 = .ok (.invokevirtual 104, 3) := by decide +kernel
theorem dX1_cheapest_8 : decode cX1_cheapest 8 = .ok (.lstore_n 3, 1) := by decide +kernel
theorem dX1_cheapest_9 : decode cX1_cheapest 9 = .ok (.iconst 1, 1) := by decide +kernel
theorem dX1_cheapest_10 : decode cX1_cheapest 10 = .ok (.istore 5, 2) := by decide +kernel
theorem dX1_cheapest_12 : decode cX1_cheapest 12 = .ok (.iload 5, 2) := by decide +kernel
theorem dX1_cheapest_14 : decode cX1_cheapest 14 = .ok (.bipush 6, 2) := by decide +kernel
theorem dX1_cheapest_16 : decode cX1_cheapest 16 = .ok (.if_icmp .ge 31, 3) := by decide +kernel
theorem dX1_cheapest_19 : decode cX1_cheapest 19 = .ok (.aload_n 0, 1) := by decide +kernel
theorem dX1_cheapest_20 : decode cX1_cheapest 20 = .ok (.iload 5, 2) := by decide +kernel
theorem dX1_cheapest_22 : decode cX1_cheapest 22 = .ok (.iload_n 1, 1) := by decide +kernel
theorem dX1_cheapest_23 : decode cX1_cheapest 23 = .ok (.invokevirtual 104, 3) := by decide +kernel
theorem dX1_cheapest_26 : decode cX1_cheapest 26 = .ok (.lstore 6, 2) := by decide +kernel
theorem dX1_cheapest_28 : decode cX1_cheapest 28 = .ok (.lload 6, 2) := by decide +kernel
theorem dX1_cheapest_30 : decode cX1_cheapest 30 = .ok (.lload_n 3, 1) := by decide +kernel
theorem dX1_cheapest_31 : decode cX1_cheapest 31 = .ok (.lcmp, 1) := by decide +kernel
theorem dX1_cheapest_32 : decode cX1_cheapest 32 = .ok (.ifCond .ge 9, 3) := by decide +kernel
theorem dX1_cheapest_35 : decode cX1_cheapest 35 = .ok (.iload 5, 2) := by decide +kernel
theorem dX1_cheapest_37 : decode cX1_cheapest 37 = .ok (.istore_n 2, 1) := by decide +kernel
theorem dX1_cheapest_38 : decode cX1_cheapest 38 = .ok (.lload 6, 2) := by decide +kernel
theorem dX1_cheapest_40 : decode cX1_cheapest 40 = .ok (.lstore_n 3, 1) := by decide +kernel
theorem dX1_cheapest_41 : decode cX1_cheapest 41 = .ok (.iinc 5 1, 3) := by decide +kernel
theorem dX1_cheapest_44 : decode cX1_cheapest 44 = .ok (.goto (-32), 3) := by decide +kernel
theorem dX1_cheapest_47 : decode cX1_cheapest 47 = .ok (.iload_n 2, 1) := by decide +kernel
theorem dX1_cheapest_48 : decode cX1_cheapest 48 = .ok (.ireturn, 1) := by decide +kernel
set_option maxRecDepth 20000 in
theorem ggX1_costOf_X0_rowsOf : GoodIn wsX1_costOf wsX0_rowsOf := goodIn_r _ [7, 8, 9, 11, 12, 13, 14, 15, 16, 17, 18, 19, 20, 21, 22, 23, 24] (by decide +kernel) (by decide +kernel)
set_option maxRecDepth 20000 in
theorem gX1_costOf_X0_rowsOf : GoodIn wsX1_costOf (wsV RX1 89 RX0 yX0_rowsOf wsX0_rowsOf) := goodIn_app (goodIn_of _ (by decide +kernel)) ggX1_costOf_X0_rowsOf
theorem dX1_costOf_0 : decode cX1_costOf 0 = .ok (.aload_n 0, 1) := by decide +kernel
theorem dX1_costOf_1 : decode cX1_costOf 1 = .ok (.getfield 11, 3) := by decide +kernel
theorem dX1_costOf_4 : decode cX1_costOf 4 = .ok (.getstatic 117, 3) := by decide +kernel
theorem dX1_costOf_7 : decode cX1_costOf 7 = .ok (.iconst 3, 1) := by decide +kernel
theorem dX1_costOf_8 : decode cX1_costOf 8 = .ok (.iload_n 1, 1) := by decide +kernel
theorem dX1_costOf_9 : decode cX1_costOf 9 = .ok (.imul, 1) := by decide +kernel
theorem dX1_costOf_10 : decode cX1_costOf 10 = .ok (.iaload, 1) := by decide +kernel
theorem dX1_costOf_11 : decode cX1_costOf 11 = .ok (.aaload, 1) := by decide +kernel
theorem dX1_costOf_12 : decode cX1_costOf 12 = .ok (.astore_n 3, 1) := by decide +kernel
theorem dX1_costOf_13 : decode cX1_costOf 13 = .ok (.aload_n 0, 1) := by decide +kernel
theorem dX1_costOf_14 : decode cX1_costOf 14 = .ok (.getfield 11, 3) := by decide +kernel
theorem dX1_costOf_17 : decode cX1_costOf 17 = .ok (.getstatic 117, 3) := by decide +kernel
theorem dX1_costOf_20 : decode cX1_costOf 20 = .ok (.iconst 3, 1) := by decide +kernel
theorem dX1_costOf_21 : decode cX1_costOf 21 = .ok (.iload_n 1, 1) := by decide +kernel
theorem dX1_costOf_22 : decode cX1_costOf 22 = .ok (.imul, 1) := by decide +kernel
theorem dX1_costOf_23 : decode cX1_costOf 23 = .ok (.iconst 1, 1) := by decide +kernel
theorem dX1_costOf_24 : decode cX1_costOf 24 = .ok (.iadd, 1) := by decide +kernel
theorem dX1_costOf_25 : decode cX1_costOf 25 = .ok (.iaload, 1) := by decide +kernel
theorem dX1_costOf_26 : decode cX1_costOf 26 = .ok (.aaload, 1) := by decide +kernel
theorem dX1_costOf_27 : decode cX1_costOf 27 = .ok (.astore 4, 2) := by decide +kernel
theorem dX1_costOf_29 : decode cX1_costOf 29 = .ok (.aload_n 0, 1) := by decide +kernel
theorem dX1_costOf_30 : decode cX1_costOf 30 = .ok (.getfield 11, 3) := by decide +kernel
theorem dX1_costOf_33 : decode cX1_costOf 33 = .ok (.getstatic 117, 3) := by decide +kernel
theorem dX1_costOf_36 : decode cX1_costOf 36 = .ok (.iconst 3, 1) := by decide +kernel
theorem dX1_costOf_37 : decode cX1_costOf 37 = .ok (.iload_n 1, 1) := by decide +kernel
theorem dX1_costOf_38 : decode cX1_costOf 38 = .ok (.imul, 1) := by decide +kernel
theorem dX1_costOf_39 : decode cX1_costOf 39 = .ok (.iconst 2, 1) := by decide +kernel
theorem dX1_costOf_40 : decode cX1_costOf 40 = .ok (.iadd, 1) := by decide +kernel
theorem dX1_costOf_41 : decode cX1_costOf 41 = .ok (.iaload, 1) := by decide +kernel
theorem dX1_costOf_42 : decode cX1_costOf 42 = .ok (.aaload, 1) := by decide +kernel
theorem dX1_costOf_43 : decode cX1_costOf 43 = .ok (.astore 5, 2) := by decide +kernel
theorem dX1_costOf_45 : decode cX1_costOf 45 = .ok (.lconst 0, 1) := by decide +kernel
theorem dX1_costOf_46 : decode cX1_costOf 46 = .ok (.lstore 6, 2) := by decide +kernel
theorem dX1_costOf_48 : decode cX1_costOf 48 = .ok (.iconst 0, 1) := by decide +kernel
theorem dX1_costOf_49 : decode cX1_costOf 49 = .ok (.istore 8, 2) := by decide +kernel
theorem dX1_costOf_51 : decode cX1_costOf 51 = .ok (.iload 8, 2) := by decide +kernel
theorem dX1_costOf_53 : decode cX1_costOf 53 = .ok (.bipush 64, 2) := by decide +kernel
theorem dX1_costOf_55 : decode cX1_costOf 55 = .ok (.if_icmp .ge 46, 3) := by decide +kernel
theorem dX1_costOf_58 : decode cX1_costOf 58 = .ok (.aload_n 3, 1) := by decide +kernel
theorem dX1_costOf_59 : decode cX1_costOf 59 = .ok (.iload 8, 2) := by decide +kernel
theorem dX1_costOf_61 : decode cX1_costOf 61 = .ok (.iload_n 2, 1) := by decide +kernel
theorem dX1_costOf_62 : decode cX1_costOf 62 = .ok (.invokevirtual 89, 3) := by decide +kernel
theorem dX1_costOf_65 : decode cX1_costOf 65 = .ok (.aload 4, 2) := by decide +kernel
theorem dX1_costOf_67 : decode cX1_costOf 67 = .ok (.iload 8, 2) := by decide +kernel
theorem dX1_costOf_69 : decode cX1_costOf 69 = .ok (.iload_n 2, 1) := by decide +kernel
theorem dX1_costOf_70 : decode cX1_costOf 70 = .ok (.invokevirtual 89, 3) := by decide +kernel
theorem dX1_costOf_73 : decode cX1_costOf 73 = .ok (.lmul, 1) := by decide +kernel
theorem dX1_costOf_74 : decode cX1_costOf 74 = .ok (.lstore 9, 2) := by decide +kernel
theorem dX1_costOf_76 : decode cX1_costOf 76 = .ok (.lload 6, 2) := by decide +kernel
theorem dX1_costOf_78 : decode cX1_costOf 78 = .ok (.lload 9, 2) := by decide +kernel
theorem dX1_costOf_80 : decode cX1_costOf 80 = .ok (.lload 9, 2) := by decide +kernel
theorem dX1_costOf_82 : decode cX1_costOf 82 = .ok (.aload 5, 2) := by decide +kernel
theorem dX1_costOf_84 : decode cX1_costOf 84 = .ok (.iload 8, 2) := by decide +kernel
theorem dX1_costOf_86 : decode cX1_costOf 86 = .ok (.iload_n 2, 1) := by decide +kernel
theorem dX1_costOf_87 : decode cX1_costOf 87 = .ok (.invokevirtual 89, 3) := by decide +kernel
theorem dX1_costOf_90 : decode cX1_costOf 90 = .ok (.lmul, 1) := by decide +kernel
theorem dX1_costOf_91 : decode cX1_costOf 91 = .ok (.ladd, 1) := by decide +kernel
theorem dX1_costOf_92 : decode cX1_costOf 92 = .ok (.ladd, 1) := by decide +kernel
theorem dX1_costOf_93 : decode cX1_costOf 93 = .ok (.lstore 6, 2) := by decide +kernel
theorem dX1_costOf_95 : decode cX1_costOf 95 = .ok (.iinc 8 1, 3) := by decide +kernel
theorem dX1_costOf_98 : decode cX1_costOf 98 = .ok (.goto (-47), 3) := by decide +kernel
theorem dX1_costOf_101 : decode cX1_costOf 101 = .ok (.lload 6, 2) := by decide +kernel
theorem dX1_costOf_103 : decode cX1_costOf 103 = .ok (.lreturn, 1) := by decide +kernel
theorem dX2_init_0 : decode cX2_init 0 = .ok (.aload_n 0, 1) := by decide +kernel
theorem dX2_init_1 : decode cX2_init 1 = .ok (.invokespecial 1, 3) := by decide +kernel
theorem dX2_init_4 : decode cX2_init 4 = .ok (.aload_n 0, 1) := by decide +kernel
theorem dX2_init_5 : decode cX2_init 5 = .ok (.iconst 3, 1) := by decide +kernel
theorem dX2_init_6 : decode cX2_init 6 = .ok (.newarray .int, 2) := by decide +kernel
theorem dX2_init_8 : decode cX2_init 8 = .ok (.putfield 7, 3) := by decide +kernel
theorem dX2_init_11 : decode cX2_init 11 = .ok (.aload_n 0, 1) := by decide +kernel
theorem dX2_init_12 : decode cX2_init 12 = .ok (.iconst 3, 1) := by decide +kernel
theorem dX2_init_13 : decode cX2_init 13 = .ok (.newarray .int, 2) := by decide +kernel
theorem dX2_init_15 : decode cX2_init 15 = .ok (.putfield 13, 3) := by decide +kernel
theorem dX2_init_18 : decode cX2_init 18 = .ok (.aload_n 0, 1) := by decide +kernel
theorem dX2_init_19 : decode cX2_init 19 = .ok (.iconst 3, 1) := by decide +kernel
theorem dX2_init_20 : decode cX2_init 20 = .ok (.newarray .int, 2) := by decide +kernel
theorem dX2_init_22 : decode cX2_init 22 = .ok (.putfield 16, 3) := by decide +kernel
theorem dX2_init_25 : decode cX2_init 25 = .ok (.aload_n 0, 1) := by decide +kernel
theorem dX2_init_26 : decode cX2_init 26 = .ok (.bipush 120, 2) := by decide +kernel
theorem dX2_init_28 : decode cX2_init 28 = .ok (.newarray .int, 2) := by decide +kernel
theorem dX2_init_30 : decode cX2_init 30 = .ok (.putfield 19, 3) := by decide +kernel
theorem dX2_init_33 : decode cX2_init 33 = .ok (.aload_n 0, 1) := by decide +kernel
theorem dX2_init_34 : decode cX2_init 34 = .ok (.bipush 120, 2) := by decide +kernel
theorem dX2_init_36 : decode cX2_init 36 = .ok (.newarray .int, 2) := by decide +kernel
theorem dX2_init_38 : decode cX2_init 38 = .ok (.putfield 22, 3) := by decide +kernel
theorem dX2_init_41 : decode cX2_init 41 = .ok (.aload_n 0, 1) := by decide +kernel
theorem dX2_init_42 : decode cX2_init 42 = .ok (.bipush 120, 2) := by decide +kernel
end
section
theorem dX2_init_44 : decode cX2_init 44 = .ok (.newarray .int, 2) := by decide +kernel
theorem dX2_init_46 : decode cX2_init 46 = .ok (.putfield 25, 3) := by decide +kernel
theorem dX2_init_49 : decode cX2_init 49 = .ok (.aload_n 0, 1) := by decide +kernel
theorem dX2_init_50 : decode cX2_init 50 = .ok (.bipush 120, 2) := by decide +kernel
theorem dX2_init_52 : decode cX2_init 52 = .ok (.newarray .int, 2) := by decide +kernel
theorem dX2_init_54 : decode cX2_init 54 = .ok (.putfield 28, 3) := by decide +kernel
theorem dX2_init_57 : decode cX2_init 57 = .ok (.aload_n 0, 1) := by decide +kernel
theorem dX2_init_58 : decode cX2_init 58 = .ok (.bipush 120, 2) := by decide +kernel
theorem dX2_init_60 : decode cX2_init 60 = .ok (.newarray .int, 2) := by decide +kernel
theorem dX2_init_62 : decode cX2_init 62 = .ok (.putfield 31, 3) := by decide +kernel
theorem dX2_init_65 : decode cX2_init 65 = .ok (.aload_n 0, 1) := by decide +kernel
theorem dX2_init_66 : decode cX2_init 66 = .ok (.sipush 192, 3) := by decide +kernel
theorem dX2_init_69 : decode cX2_init 69 = .ok (.newarray .int, 2) := by decide +kernel
theorem dX2_init_71 : decode cX2_init 71 = .ok (.putfield 34, 3) := by decide +kernel
theorem dX2_init_74 : decode cX2_init 74 = .ok (.aload_n 0, 1) := by decide +kernel
theorem dX2_init_75 : decode cX2_init 75 = .ok (.sipush 4225, 3) := by decide +kernel
theorem dX2_init_78 : decode cX2_init 78 = .ok (.newarray .int, 2) := by decide +kernel
theorem dX2_init_80 : decode cX2_init 80 = .ok (.putfield 37, 3) := by decide +kernel
theorem dX2_init_83 : decode cX2_init 83 = .ok (.aload_n 0, 1) := by decide +kernel
theorem dX2_init_84 : decode cX2_init 84 = .ok (.iconst (-1), 1) := by decide +kernel
theorem dX2_init_85 : decode cX2_init 85 = .ok (.putfield 40, 3) := by decide +kernel
theorem dX2_init_88 : decode cX2_init 88 = .ok (.aload_n 0, 1) := by decide +kernel
theorem dX2_init_89 : decode cX2_init 89 = .ok (.sipush 195, 3) := by decide +kernel
theorem dX2_init_92 : decode cX2_init 92 = .ok (.newarray .int, 2) := by decide +kernel
theorem dX2_init_94 : decode cX2_init 94 = .ok (.putfield 44, 3) := by decide +kernel
theorem dX2_init_97 : decode cX2_init 97 = .ok (.iconst 0, 1) := by decide +kernel
theorem dX2_init_98 : decode cX2_init 98 = .ok (.istore_n 1, 1) := by decide +kernel
theorem dX2_init_99 : decode cX2_init 99 = .ok (.iload_n 1, 1) := by decide +kernel
theorem dX2_init_100 : decode cX2_init 100 = .ok (.iconst 3, 1) := by decide +kernel
theorem dX2_init_101 : decode cX2_init 101 = .ok (.if_icmp .ge 17, 3) := by decide +kernel
theorem dX2_init_104 : decode cX2_init 104 = .ok (.aload_n 0, 1) := by decide +kernel
theorem dX2_init_105 : decode cX2_init 105 = .ok (.getfield 16, 3) := by decide +kernel
theorem dX2_init_108 : decode cX2_init 108 = .ok (.iload_n 1, 1) := by decide +kernel
theorem dX2_init_109 : decode cX2_init 109 = .ok (.bipush 40, 2) := by decide +kernel
theorem dX2_init_111 : decode cX2_init 111 = .ok (.iastore, 1) := by decide +kernel
theorem dX2_init_112 : decode cX2_init 112 = .ok (.iinc 1 1, 3) := by decide +kernel
theorem dX2_init_115 : decode cX2_init 115 = .ok (.goto (-16), 3) := by decide +kernel
theorem dX2_init_118 : decode cX2_init 118 = .ok (.return_, 1) := by decide +kernel
theorem dX2_isIn_0 : decode cX2_isIn 0 = .ok (.iload_n 0, 1) := by decide +kernel
theorem dX2_isIn_1 : decode cX2_isIn 1 = .ok (.iload_n 1, 1) := by decide +kernel
theorem dX2_isIn_2 : decode cX2_isIn 2 = .ok (.if_icmp .lt 12, 3) := by decide +kernel
theorem dX2_isIn_5 : decode cX2_isIn 5 = .ok (.iload_n 0, 1) := by decide +kernel
theorem dX2_isIn_6 : decode cX2_isIn 6 = .ok (.iload_n 2, 1) := by decide +kernel
theorem dX2_isIn_7 : decode cX2_isIn 7 = .ok (.if_icmp .gt 7, 3) := by decide +kernel
theorem dX2_isIn_10 : decode cX2_isIn 10 = .ok (.iconst 1, 1) := by decide +kernel
theorem dX2_isIn_11 : decode cX2_isIn 11 = .ok (.goto 4, 3) := by decide +kernel
theorem dX2_isIn_14 : decode cX2_isIn 14 = .ok (.iconst 0, 1) := by decide +kernel
theorem dX2_isIn_15 : decode cX2_isIn 15 = .ok (.ireturn, 1) := by decide +kernel
set_option maxRecDepth 20000 in
theorem ggX2_isTable_X2_isIn : GoodIn wsX2_isTable wsX2_isIn := goodIn_r _ [4] (by decide +kernel) (by decide +kernel)
set_option maxRecDepth 20000 in
theorem gX2_isTable_X2_isIn : GoodIn wsX2_isTable (va_wsS RX2 47 yX2_isIn wsX2_isIn) := goodIn_app (goodIn_of _ (by decide +kernel)) ggX2_isTable_X2_isIn
theorem dX2_isTable_0 : decode cX2_isTable 0 = .ok (.iload_n 0, 1) := by decide +kernel
theorem dX2_isTable_1 : decode cX2_isTable 1 = .ok (.iconst 0, 1) := by decide +kernel
theorem dX2_isTable_2 : decode cX2_isTable 2 = .ok (.iconst 2, 1) := by decide +kernel
theorem dX2_isTable_3 : decode cX2_isTable 3 = .ok (.invokestatic 47, 3) := by decide +kernel
theorem dX2_isTable_6 : decode cX2_isTable 6 = .ok (.ireturn, 1) := by decide +kernel
theorem dX2_isSpan_0 : decode cX2_isSpan 0 = .ok (.iload_n 0, 1) := by decide +kernel
theorem dX2_isSpan_1 : decode cX2_isSpan 1 = .ok (.ifCond .lt 18, 3) := by decide +kernel
theorem dX2_isSpan_4 : decode cX2_isSpan 4 = .ok (.iload_n 0, 1) := by decide +kernel
theorem dX2_isSpan_5 : decode cX2_isSpan 5 = .ok (.iload_n 1, 1) := by decide +kernel
theorem dX2_isSpan_6 : decode cX2_isSpan 6 = .ok (.if_icmp .gt 13, 3) := by decide +kernel
theorem dX2_isSpan_9 : decode cX2_isSpan 9 = .ok (.iload_n 1, 1) := by decide +kernel
theorem dX2_isSpan_10 : decode cX2_isSpan 10 = .ok (.bipush 64, 2) := by decide +kernel
theorem dX2_isSpan_12 : decode cX2_isSpan 12 = .ok (.if_icmp .gt 7, 3) := by decide +kernel
theorem dX2_isSpan_15 : decode cX2_isSpan 15 = .ok (.iconst 1, 1) := by decide +kernel
theorem dX2_isSpan_16 : decode cX2_isSpan 16 = .ok (.goto 4, 3) := by decide +kernel
theorem dX2_isSpan_19 : decode cX2_isSpan 19 = .ok (.iconst 0, 1) := by decide +kernel
theorem dX2_isSpan_20 : decode cX2_isSpan 20 = .ok (.ireturn, 1) := by decide +kernel
set_option maxRecDepth 20000 in
theorem ggX2_rows_X2_isTable : GoodIn wsX2_rows wsX2_isTable := goodIn_r _ [8, 9, 10, 7, 11] (by decide +kernel) (by decide +kernel)
set_option maxRecDepth 20000 in
theorem gX2_rows_X2_isTable : GoodIn wsX2_rows (va_wsS RX2 51 yX2_isTable wsX2_isTable) := goodIn_app (goodIn_of _ (by decide +kernel)) ggX2_rows_X2_isTable
set_option maxRecDepth 20000 in
theorem ggX2_rows_X2_isIn : GoodIn wsX2_rows wsX2_isIn := goodIn_r _ [11] (by decide +kernel) (by decide +kernel)
set_option maxRecDepth 20000 in
theorem gX2_rows_X2_isIn : GoodIn wsX2_rows (va_wsS RX2 47 yX2_isIn wsX2_isIn) := goodIn_app (goodIn_of _ (by decide +kernel)) ggX2_rows_X2_isIn
theorem dX2_rows_0 : decode cX2_rows 0 = .ok (.iload_n 1, 1) := by decide +kernel
theorem dX2_rows_1 : decode cX2_rows 1 = .ok (.invokestatic 51, 3) := by decide +kernel
theorem dX2_rows_4 : decode cX2_rows 4 = .ok (.ifCond .eq 13, 3) := by decide +kernel
theorem dX2_rows_7 : decode cX2_rows 7 = .ok (.iload_n 2, 1) := by decide +kernel
theorem dX2_rows_8 : decode cX2_rows 8 = .ok (.iconst 0, 1) := by decide +kernel
theorem dX2_rows_9 : decode cX2_rows 9 = .ok (.ldc 55, 2) := by decide +kernel
theorem dX2_rows_11 : decode cX2_rows 11 = .ok (.invokestatic 47, 3) := by decide +kernel
theorem dX2_rows_14 : decode cX2_rows 14 = .ok (.ifCond .ne 5, 3) := by decide +kernel
theorem dX2_rows_17 : decode cX2_rows 17 = .ok (.iconst 0, 1) := by decide +kernel
theorem dX2_rows_18 : decode cX2_rows 18 = .ok (.ireturn, 1) := by decide +kernel
theorem dX2_rows_19 : decode cX2_rows 19 = .ok (.aload_n 0, 1) := by decide +kernel
theorem dX2_rows_20 : decode cX2_rows 20 = .ok (.iconst (-1), 1) := by decide +kernel
theorem dX2_rows_21 : decode cX2_rows 21 = .ok (.putfield 40, 3) := by decide +kernel
theorem dX2_rows_24 : decode cX2_rows 24 = .ok (.aload_n 0, 1) := by decide +kernel
theorem dX2_rows_25 : decode cX2_rows 25 = .ok (.getfield 7, 3) := by decide +kernel
theorem dX2_rows_28 : decode cX2_rows 28 = .ok (.iload_n 1, 1) := by decide +kernel
theorem dX2_rows_29 : decode cX2_rows 29 = .ok (.iload_n 2, 1) := by decide +kernel
theorem dX2_rows_30 : decode cX2_rows 30 = .ok (.iastore, 1) := by decide +kernel
theorem dX2_rows_31 : decode cX2_rows 31 = .ok (.aload_n 0, 1) := by decide +kernel
theorem dX2_rows_32 : decode cX2_rows 32 = .ok (.getfield 13, 3) := by decide +kernel
theorem dX2_rows_35 : decode cX2_rows 35 = .ok (.iload_n 1, 1) := by decide +kernel
theorem dX2_rows_36 : decode cX2_rows 36 = .ok (.iconst 0, 1) := by decide +kernel
theorem dX2_rows_37 : decode cX2_rows 37 = .ok (.iastore, 1) := by decide +kernel
theorem dX2_rows_38 : decode cX2_rows 38 = .ok (.iconst 1, 1) := by decide +kernel
theorem dX2_rows_39 : decode cX2_rows 39 = .ok (.ireturn, 1) := by decide +kernel
set_option maxRecDepth 20000 in
theorem ggX2_put_X2_isTable : GoodIn wsX2_put wsX2_isTable := goodIn_r _ [14, 15, 16, 13, 17] (by decide +kernel) (by decide +kernel)
set_option maxRecDepth 20000 in
theorem gX2_put_X2_isTable : GoodIn wsX2_put (va_wsS RX2 51 yX2_isTable wsX2_isTable) := goodIn_app (goodIn_of _ (by decide +kernel)) ggX2_put_X2_isTable
set_option maxRecDepth 20000 in
theorem ggX2_put_X2_isIn : GoodIn wsX2_put wsX2_isIn := goodIn_r _ [17] (by decide +kernel) (by decide +kernel)
set_option maxRecDepth 20000 in
theorem gX2_put_X2_isIn : GoodIn wsX2_put (va_wsS RX2 47 yX2_isIn wsX2_isIn) := goodIn_app (goodIn_of _ (by decide +kernel)) ggX2_put_X2_isIn
theorem dX2_put_0 : decode cX2_put 0 = .ok (.iload_n 1, 1) := by decide +kernel
theorem dX2_put_1 : decode cX2_put 1 = .ok (.invokestatic 51, 3) := by decide +kernel
theorem dX2_put_4 : decode cX2_put 4 = .ok (.ifCond .eq 20, 3) := by decide +kernel
theorem dX2_put_7 : decode cX2_put 7 = .ok (.iload_n 2, 1) := by decide +kernel
theorem dX2_put_8 : decode cX2_put 8 = .ok (.iconst 1, 1) := by decide +kernel
theorem dX2_put_9 : decode cX2_put 9 = .ok (.ldc 55, 2) := by decide +kernel
theorem dX2_put_11 : decode cX2_put 11 = .ok (.aload_n 0, 1) := by decide +kernel
theorem dX2_put_12 : decode cX2_put 12 = .ok (.getfield 7, 3) := by decide +kernel
theorem dX2_put_15 : decode cX2_put 15 = .ok (.iload_n 1, 1) := by decide +kernel
theorem dX2_put_16 : decode cX2_put 16 = .ok (.iaload, 1) := by decide +kernel
theorem dX2_put_17 : decode cX2_put 17 = .ok (.isub, 1) := by decide +kernel
theorem dX2_put_18 : decode cX2_put 18 = .ok (.invokestatic 47, 3) := by decide +kernel
theorem dX2_put_21 : decode cX2_put 21 = .ok (.ifCond .ne 5, 3) := by decide +kernel
theorem dX2_put_24 : decode cX2_put 24 = .ok (.iconst (-1), 1) := by decide +kernel
theorem dX2_put_25 : decode cX2_put 25 = .ok (.ireturn, 1) := by decide +kernel
theorem dX2_put_26 : decode cX2_put 26 = .ok (.aload_n 0, 1) := by decide +kernel
theorem dX2_put_27 : decode cX2_put 27 = .ok (.iconst (-1), 1) := by decide +kernel
theorem dX2_put_28 : decode cX2_put 28 = .ok (.putfield 40, 3) := by decide +kernel
theorem dX2_put_31 : decode cX2_put 31 = .ok (.aload_n 0, 1) := by decide +kernel
theorem dX2_put_32 : decode cX2_put 32 = .ok (.getfield 7, 3) := by decide +kernel
theorem dX2_put_35 : decode cX2_put 35 = .ok (.iload_n 1, 1) := by decide +kernel
theorem dX2_put_36 : decode cX2_put 36 = .ok (.dup2, 1) := by decide +kernel
theorem dX2_put_37 : decode cX2_put 37 = .ok (.iaload, 1) := by decide +kernel
theorem dX2_put_38 : decode cX2_put 38 = .ok (.iload_n 2, 1) := by decide +kernel
theorem dX2_put_39 : decode cX2_put 39 = .ok (.iadd, 1) := by decide +kernel
theorem dX2_put_40 : decode cX2_put 40 = .ok (.iastore, 1) := by decide +kernel
theorem dX2_put_41 : decode cX2_put 41 = .ok (.bipush 40, 2) := by decide +kernel
theorem dX2_put_43 : decode cX2_put 43 = .ok (.iload_n 1, 1) := by decide +kernel
theorem dX2_put_44 : decode cX2_put 44 = .ok (.imul, 1) := by decide +kernel
theorem dX2_put_45 : decode cX2_put 45 = .ok (.istore_n 3, 1) := by decide +kernel
theorem dX2_put_46 : decode cX2_put 46 = .ok (.iload_n 3, 1) := by decide +kernel
theorem dX2_put_47 : decode cX2_put 47 = .ok (.bipush 40, 2) := by decide +kernel
theorem dX2_put_49 : decode cX2_put 49 = .ok (.iload_n 1, 1) := by decide +kernel
theorem dX2_put_50 : decode cX2_put 50 = .ok (.imul, 1) := by decide +kernel
theorem dX2_put_51 : decode cX2_put 51 = .ok (.aload_n 0, 1) := by decide +kernel
theorem dX2_put_52 : decode cX2_put 52 = .ok (.getfield 13, 3) := by decide +kernel
theorem dX2_put_55 : decode cX2_put 55 = .ok (.iload_n 1, 1) := by decide +kernel
theorem dX2_put_56 : decode cX2_put 56 = .ok (.iaload, 1) := by decide +kernel
theorem dX2_put_57 : decode cX2_put 57 = .ok (.iadd, 1) := by decide +kernel
theorem dX2_put_58 : decode cX2_put 58 = .ok (.if_icmp .ge 39, 3) := by decide +kernel
theorem dX2_put_61 : decode cX2_put 61 = .ok (.aload_n 0, 1) := by decide +kernel
theorem dX2_put_62 : decode cX2_put 62 = .ok (.getfield 28, 3) := by decide +kernel
theorem dX2_put_65 : decode cX2_put 65 = .ok (.iload_n 3, 1) := by decide +kernel
theorem dX2_put_66 : decode cX2_put 66 = .ok (.iaload, 1) := by decide +kernel
theorem dX2_put_67 : decode cX2_put 67 = .ok (.ldc 56, 2) := by decide +kernel
theorem dX2_put_69 : decode cX2_put 69 = .ok (.if_icmp .eq 22, 3) := by decide +kernel
theorem dX2_put_72 : decode cX2_put 72 = .ok (.aload_n 0, 1) := by decide +kernel
theorem dX2_put_73 : decode cX2_put 73 = .ok (.getfield 28, 3) := by decide +kernel
theorem dX2_put_76 : decode cX2_put 76 = .ok (.iload_n 3, 1) := by decide +kernel
theorem dX2_put_77 : decode cX2_put 77 = .ok (.ldc 55, 2) := by decide +kernel
theorem dX2_put_79 : decode cX2_put 79 = .ok (.aload_n 0, 1) := by decide +kernel
theorem dX2_put_80 : decode cX2_put 80 = .ok (.getfield 28, 3) := by decide +kernel
theorem dX2_put_83 : decode cX2_put 83 = .ok (.iload_n 3, 1) := by decide +kernel
theorem dX2_put_84 : decode cX2_put 84 = .ok (.iaload, 1) := by decide +kernel
theorem dX2_put_85 : decode cX2_put 85 = .ok (.iload_n 2, 1) := by decide +kernel
theorem dX2_put_86 : decode cX2_put 86 = .ok (.iadd, 1) := by decide +kernel
theorem dX2_put_87 : decode cX2_put 87 = .ok (.invokestatic 57, 3) := by decide +kernel
theorem dX2_put_90 : decode cX2_put 90 = .ok (.iastore, 1) := by decide +kernel
theorem dX2_put_91 : decode cX2_put 91 = .ok (.iinc 3 1, 3) := by decide +kernel
theorem dX2_put_94 : decode cX2_put 94 = .ok (.goto (-48), 3) := by decide +kernel
theorem dX2_put_97 : decode cX2_put 97 = .ok (.aload_n 0, 1) := by decide +kernel
theorem dX2_put_98 : decode cX2_put 98 = .ok (.getfield 7, 3) := by decide +kernel
theorem dX2_put_101 : decode cX2_put 101 = .ok (.iload_n 1, 1) := by decide +kernel
theorem dX2_put_102 : decode cX2_put 102 = .ok (.iaload, 1) := by decide +kernel
theorem dX2_put_103 : decode cX2_put 103 = .ok (.ireturn, 1) := by decide +kernel
set_option maxRecDepth 20000 in
theorem ggX2_strike_X2_isTable : GoodIn wsX2_strike wsX2_isTable := goodIn_r _ [12, 13, 14, 11, 15] (by decide +kernel) (by decide +kernel)
set_option maxRecDepth 20000 in
theorem gX2_strike_X2_isTable : GoodIn wsX2_strike (va_wsS RX2 51 yX2_isTable wsX2_isTable) := goodIn_app (goodIn_of _ (by decide +kernel)) ggX2_strike_X2_isTable
set_option maxRecDepth 20000 in
theorem ggX2_strike_X2_isIn : GoodIn wsX2_strike wsX2_isIn := goodIn_r _ [15] (by decide +kernel) (by decide +kernel)
set_option maxRecDepth 20000 in
theorem gX2_strike_X2_isIn : GoodIn wsX2_strike (va_wsS RX2 47 yX2_isIn wsX2_isIn) := goodIn_app (goodIn_of _ (by decide +kernel)) ggX2_strike_X2_isIn
theorem dX2_strike_0 : decode cX2_strike 0 = .ok (.iload_n 1, 1) := by decide +kernel
theorem dX2_strike_1 : decode cX2_strike 1 = .ok (.invokestatic 51, 3) := by decide +kernel
theorem dX2_strike_4 : decode cX2_strike 4 = .ok (.ifCond .eq 17, 3) := by decide +kernel
theorem dX2_strike_7 : decode cX2_strike 7 = .ok (.iload_n 2, 1) := by decide +kernel
theorem dX2_strike_8 : decode cX2_strike 8 = .ok (.iconst 1, 1) := by decide +kernel
theorem dX2_strike_9 : decode cX2_strike 9 = .ok (.aload_n 0, 1) := by decide +kernel
theorem dX2_strike_10 : decode cX2_strike 10 = .ok (.getfield 7, 3) := by decide +kernel
theorem dX2_strike_13 : decode cX2_strike 13 = .ok (.iload_n 1, 1) := by decide +kernel
theorem dX2_strike_14 : decode cX2_strike 14 = .ok (.iaload, 1) := by decide +kernel
theorem dX2_strike_15 : decode cX2_strike 15 = .ok (.invokestatic 47, 3) := by decide +kernel
theorem dX2_strike_18 : decode cX2_strike 18 = .ok (.ifCond .ne 5, 3) := by decide +kernel
theorem dX2_strike_21 : decode cX2_strike 21 = .ok (.iconst (-1), 1) := by decide +kernel
theorem dX2_strike_22 : decode cX2_strike 22 = .ok (.ireturn, 1) := by decide +kernel
theorem dX2_strike_23 : decode cX2_strike 23 = .ok (.aload_n 0, 1) := by decide +kernel
theorem dX2_strike_24 : decode cX2_strike 24 = .ok (.iconst (-1), 1) := by decide +kernel
theorem dX2_strike_25 : decode cX2_strike 25 = .ok (.putfield 40, 3) := by decide +kernel
theorem dX2_strike_28 : decode cX2_strike 28 = .ok (.aload_n 0, 1) := by decide +kernel
theorem dX2_strike_29 : decode cX2_strike 29 = .ok (.getfield 7, 3) := by decide +kernel
theorem dX2_strike_32 : decode cX2_strike 32 = .ok (.iload_n 1, 1) := by decide +kernel
theorem dX2_strike_33 : decode cX2_strike 33 = .ok (.dup2, 1) := by decide +kernel
theorem dX2_strike_34 : decode cX2_strike 34 = .ok (.iaload, 1) := by decide +kernel
theorem dX2_strike_35 : decode cX2_strike 35 = .ok (.iload_n 2, 1) := by decide +kernel
theorem dX2_strike_36 : decode cX2_strike 36 = .ok (.isub, 1) := by decide +kernel
theorem dX2_strike_37 : decode cX2_strike 37 = .ok (.iastore, 1) := by decide +kernel
theorem dX2_strike_38 : decode cX2_strike 38 = .ok (.bipush 40, 2) := by decide +kernel
theorem dX2_strike_40 : decode cX2_strike 40 = .ok (.iload_n 1, 1) := by decide +kernel
theorem dX2_strike_41 : decode cX2_strike 41 = .ok (.imul, 1) := by decide +kernel
theorem dX2_strike_42 : decode cX2_strike 42 = .ok (.istore_n 3, 1) := by decide +kernel
theorem dX2_strike_43 : decode cX2_strike 43 = .ok (.iload_n 3, 1) := by decide +kernel
theorem dX2_strike_44 : decode cX2_strike 44 = .ok (.bipush 40, 2) := by decide +kernel
theorem dX2_strike_46 : decode cX2_strike 46 = .ok (.iload_n 1, 1) := by decide +kernel
theorem dX2_strike_47 : decode cX2_strike 47 = .ok (.imul, 1) := by decide +kernel
theorem dX2_strike_48 : decode cX2_strike 48 = .ok (.aload_n 0, 1) := by decide +kernel
theorem dX2_strike_49 : decode cX2_strike 49 = .ok (.getfield 13, 3) := by decide +kernel
theorem dX2_strike_52 : decode cX2_strike 52 = .ok (.iload_n 1, 1) := by decide +kernel
theorem dX2_strike_53 : decode cX2_strike 53 = .ok (.iaload, 1) := by decide +kernel
theorem dX2_strike_54 : decode cX2_strike 54 = .ok (.iadd, 1) := by decide +kernel
theorem dX2_strike_55 : decode cX2_strike 55 = .ok (.if_icmp .ge 27, 3) := by decide +kernel
theorem dX2_strike_58 : decode cX2_strike 58 = .ok (.aload_n 0, 1) := by decide +kernel
theorem dX2_strike_59 : decode cX2_strike 59 = .ok (.getfield 25, 3) := by decide +kernel
theorem dX2_strike_62 : decode cX2_strike 62 = .ok (.iload_n 3, 1) := by decide +kernel
theorem dX2_strike_63 : decode cX2_strike 63 = .ok (.iconst 0, 1) := by decide +kernel
theorem dX2_strike_64 : decode cX2_strike 64 = .ok (.aload_n 0, 1) := by decide +kernel
theorem dX2_strike_65 : decode cX2_strike 65 = .ok (.getfield 25, 3) := by decide +kernel
theorem dX2_strike_68 : decode cX2_strike 68 = .ok (.iload_n 3, 1) := by decide +kernel
theorem dX2_strike_69 : decode cX2_strike 69 = .ok (.iaload, 1) := by decide +kernel
theorem dX2_strike_70 : decode cX2_strike 70 = .ok (.iload_n 2, 1) := by decide +kernel
theorem dX2_strike_71 : decode cX2_strike 71 = .ok (.isub, 1) := by decide +kernel
theorem dX2_strike_72 : decode cX2_strike 72 = .ok (.invokestatic 63, 3) := by decide +kernel
theorem dX2_strike_75 : decode cX2_strike 75 = .ok (.iastore, 1) := by decide +kernel
theorem dX2_strike_76 : decode cX2_strike 76 = .ok (.iinc 3 1, 3) := by decide +kernel
theorem dX2_strike_79 : decode cX2_strike 79 = .ok (.goto (-36), 3) := by decide +kernel
theorem dX2_strike_82 : decode cX2_strike 82 = .ok (.aload_n 0, 1) := by decide +kernel
theorem dX2_strike_83 : decode cX2_strike 83 = .ok (.getfield 7, 3) := by decide +kernel
theorem dX2_strike_86 : decode cX2_strike 86 = .ok (.iload_n 1, 1) := by decide +kernel
theorem dX2_strike_87 : decode cX2_strike 87 = .ok (.iaload, 1) := by decide +kernel
theorem dX2_strike_88 : decode cX2_strike 88 = .ok (.ireturn, 1) := by decide +kernel
set_option maxRecDepth 20000 in
theorem ggX2_sight_X2_isTable : GoodIn wsX2_sight wsX2_isTable := goodIn_r _ [12, 13, 14, 11, 15] (by decide +kernel) (by decide +kernel)
set_option maxRecDepth 20000 in
theorem gX2_sight_X2_isTable : GoodIn wsX2_sight (va_wsS RX2 51 yX2_isTable wsX2_isTable) := goodIn_app (goodIn_of _ (by decide +kernel)) ggX2_sight_X2_isTable
set_option maxRecDepth 20000 in
theorem ggX2_sight_X2_isSpan : GoodIn wsX2_sight wsX2_isSpan := goodIn_r _ [18] (by decide +kernel) (by decide +kernel)
set_option maxRecDepth 20000 in
theorem gX2_sight_X2_isSpan : GoodIn wsX2_sight (va_wsS RX2 66 yX2_isSpan wsX2_isSpan) := goodIn_app (goodIn_of _ (by decide +kernel)) ggX2_sight_X2_isSpan
set_option maxRecDepth 20000 in
theorem ggX2_sight_X2_isIn : GoodIn wsX2_sight wsX2_isIn := goodIn_r _ [15] (by decide +kernel) (by decide +kernel)
set_option maxRecDepth 20000 in
theorem gX2_sight_X2_isIn : GoodIn wsX2_sight (va_wsS RX2 47 yX2_isIn wsX2_isIn) := goodIn_app (goodIn_of _ (by decide +kernel)) ggX2_sight_X2_isIn
theorem dX2_sight_0 : decode cX2_sight 0 = .ok (.iload_n 1, 1) := by decide +kernel
theorem dX2_sight_1 : decode cX2_sight 1 = .ok (.invokestatic 51, 3) := by decide +kernel
theorem dX2_sight_4 : decode cX2_sight 4 = .ok (.ifCond .eq 37, 3) := by decide +kernel
theorem dX2_sight_7 : decode cX2_sight 7 = .ok (.iload_n 2, 1) := by decide +kernel
theorem dX2_sight_8 : decode cX2_sight 8 = .ok (.iload_n 3, 1) := by decide +kernel
theorem dX2_sight_9 : decode cX2_sight 9 = .ok (.invokestatic 66, 3) := by decide +kernel
theorem dX2_sight_12 : decode cX2_sight 12 = .ok (.ifCond .eq 29, 3) := by decide +kernel
theorem dX2_sight_15 : decode cX2_sight 15 = .ok (.iload 4, 2) := by decide +kernel
theorem dX2_sight_17 : decode cX2_sight 17 = .ok (.iconst 0, 1) := by decide +kernel
theorem dX2_sight_18 : decode cX2_sight 18 = .ok (.aload_n 0, 1) := by decide +kernel
theorem dX2_sight_19 : decode cX2_sight 19 = .ok (.getfield 7, 3) := by decide +kernel
theorem dX2_sight_22 : decode cX2_sight 22 = .ok (.iload_n 1, 1) := by decide +kernel
theorem dX2_sight_23 : decode cX2_sight 23 = .ok (.iaload, 1) := by decide +kernel
theorem dX2_sight_24 : decode cX2_sight 24 = .ok (.invokestatic 47, 3) := by decide +kernel
theorem dX2_sight_27 : decode cX2_sight 27 = .ok (.ifCond .eq 14, 3) := by decide +kernel
theorem dX2_sight_30 : decode cX2_sight 30 = .ok (.aload_n 0, 1) := by decide +kernel
theorem dX2_sight_31 : decode cX2_sight 31 = .ok (.getfield 13, 3) := by decide +kernel
theorem dX2_sight_34 : decode cX2_sight 34 = .ok (.iload_n 1, 1) := by decide +kernel
theorem dX2_sight_35 : decode cX2_sight 35 = .ok (.iaload, 1) := by decide +kernel
theorem dX2_sight_36 : decode cX2_sight 36 = .ok (.bipush 40, 2) := by decide +kernel
theorem dX2_sight_38 : decode cX2_sight 38 = .ok (.if_icmp .ne 5, 3) := by decide +kernel
theorem dX2_sight_41 : decode cX2_sight 41 = .ok (.iconst (-1), 1) := by decide +kernel
theorem dX2_sight_42 : decode cX2_sight 42 = .ok (.ireturn, 1) := by decide +kernel
theorem dX2_sight_43 : decode cX2_sight 43 = .ok (.bipush 40, 2) := by decide +kernel
theorem dX2_sight_45 : decode cX2_sight 45 = .ok (.iload_n 1, 1) := by decide +kernel
theorem dX2_sight_46 : decode cX2_sight 46 = .ok (.imul, 1) := by decide +kernel
theorem dX2_sight_47 : decode cX2_sight 47 = .ok (.aload_n 0, 1) := by decide +kernel
theorem dX2_sight_48 : decode cX2_sight 48 = .ok (.getfield 13, 3) := by decide +kernel
theorem dX2_sight_51 : decode cX2_sight 51 = .ok (.iload_n 1, 1) := by decide +kernel
theorem dX2_sight_52 : decode cX2_sight 52 = .ok (.iaload, 1) := by decide +kernel
theorem dX2_sight_53 : decode cX2_sight 53 = .ok (.iadd, 1) := by decide +kernel
theorem dX2_sight_54 : decode cX2_sight 54 = .ok (.istore 6, 2) := by decide +kernel
theorem dX2_sight_56 : decode cX2_sight 56 = .ok (.aload_n 0, 1) := by decide +kernel
theorem dX2_sight_57 : decode cX2_sight 57 = .ok (.getfield 19, 3) := by decide +kernel
theorem dX2_sight_60 : decode cX2_sight 60 = .ok (.iload 6, 2) := by decide +kernel
theorem dX2_sight_62 : decode cX2_sight 62 = .ok (.iload_n 2, 1) := by decide +kernel
theorem dX2_sight_63 : decode cX2_sight 63 = .ok (.iastore, 1) := by decide +kernel
theorem dX2_sight_64 : decode cX2_sight 64 = .ok (.aload_n 0, 1) := by decide +kernel
theorem dX2_sight_65 : decode cX2_sight 65 = .ok (.getfield 22, 3) := by decide +kernel
theorem dX2_sight_68 : decode cX2_sight 68 = .ok (.iload 6, 2) := by decide +kernel
theorem dX2_sight_70 : decode cX2_sight 70 = .ok (.iload_n 3, 1) := by decide +kernel
theorem dX2_sight_71 : decode cX2_sight 71 = .ok (.iastore, 1) := by decide +kernel
theorem dX2_sight_72 : decode cX2_sight 72 = .ok (.aload_n 0, 1) := by decide +kernel
theorem dX2_sight_73 : decode cX2_sight 73 = .ok (.getfield 25, 3) := by decide +kernel
theorem dX2_sight_76 : decode cX2_sight 76 = .ok (.iload 6, 2) := by decide +kernel
theorem dX2_sight_78 : decode cX2_sight 78 = .ok (.iload 4, 2) := by decide +kernel
theorem dX2_sight_80 : decode cX2_sight 80 = .ok (.iastore, 1) := by decide +kernel
theorem dX2_sight_81 : decode cX2_sight 81 = .ok (.aload_n 0, 1) := by decide +kernel
theorem dX2_sight_82 : decode cX2_sight 82 = .ok (.getfield 28, 3) := by decide +kernel
theorem dX2_sight_85 : decode cX2_sight 85 = .ok (.iload 6, 2) := by decide +kernel
theorem dX2_sight_87 : decode cX2_sight 87 = .ok (.iload 5, 2) := by decide +kernel
theorem dX2_sight_89 : decode cX2_sight 89 = .ok (.ifCond .eq 8, 3) := by decide +kernel
theorem dX2_sight_92 : decode cX2_sight 92 = .ok (.ldc 56, 2) := by decide +kernel
theorem dX2_sight_94 : decode cX2_sight 94 = .ok (.goto 5, 3) := by decide +kernel
theorem dX2_sight_97 : decode cX2_sight 97 = .ok (.iload 4, 2) := by decide +kernel
theorem dX2_sight_99 : decode cX2_sight 99 = .ok (.iastore, 1) := by decide +kernel
theorem dX2_sight_100 : decode cX2_sight 100 = .ok (.aload_n 0, 1) := by decide +kernel
theorem dX2_sight_101 : decode cX2_sight 101 = .ok (.getfield 13, 3) := by decide +kernel
theorem dX2_sight_104 : decode cX2_sight 104 = .ok (.iload_n 1, 1) := by decide +kernel
theorem dX2_sight_105 : decode cX2_sight 105 = .ok (.dup2, 1) := by decide +kernel
theorem dX2_sight_106 : decode cX2_sight 106 = .ok (.iaload, 1) := by decide +kernel
theorem dX2_sight_107 : decode cX2_sight 107 = .ok (.iconst 1, 1) := by decide +kernel
theorem dX2_sight_108 : decode cX2_sight 108 = .ok (.iadd, 1) := by decide +kernel
theorem dX2_sight_109 : decode cX2_sight 109 = .ok (.iastore, 1) := by decide +kernel
theorem dX2_sight_110 : decode cX2_sight 110 = .ok (.aload_n 0, 1) := by decide +kernel
theorem dX2_sight_111 : decode cX2_sight 111 = .ok (.iconst (-1), 1) := by decide +kernel
theorem dX2_sight_112 : decode cX2_sight 112 = .ok (.putfield 40, 3) := by decide +kernel
theorem dX2_sight_115 : decode cX2_sight 115 = .ok (.aload_n 0, 1) := by decide +kernel
theorem dX2_sight_116 : decode cX2_sight 116 = .ok (.getfield 13, 3) := by decide +kernel
theorem dX2_sight_119 : decode cX2_sight 119 = .ok (.iload_n 1, 1) := by decide +kernel
theorem dX2_sight_120 : decode cX2_sight 120 = .ok (.iaload, 1) := by decide +kernel
theorem dX2_sight_121 : decode cX2_sight 121 = .ok (.iconst 1, 1) := by decide +kernel
theorem dX2_sight_122 : decode cX2_sight 122 = .ok (.isub, 1) := by decide +kernel
theorem dX2_sight_123 : decode cX2_sight 123 = .ok (.ireturn, 1) := by decide +kernel
set_option maxRecDepth 20000 in
theorem ggX2_begins_X2_isIn : GoodIn wsX2_begins wsX2_isIn := goodIn_r _ [4] (by decide +kernel) (by decide +kernel)
set_option maxRecDepth 20000 in
theorem gX2_begins_X2_isIn : GoodIn wsX2_begins (va_wsS RX2 47 yX2_isIn wsX2_isIn) := goodIn_app (goodIn_of _ (by decide +kernel)) ggX2_begins_X2_isIn
set_option maxRecDepth 20000 in
theorem ggX2_begins_X2_sight : GoodIn wsX2_begins wsX2_sight := goodIn_r _ [8, 9, 10, 11, 12, 13, 14, 15, 16, 17, 18, 3, 19, 1, 2, 4, 20, 21, 22, 23, 24, 25, 26, 27, 28, 29, 30, 31, 32, 33, 34] (by decide +kernel) (by decide +kernel)
set_option maxRecDepth 20000 in
theorem gX2_begins_X2_sight : GoodIn wsX2_begins (wsV RX2 70 RX2 yX2_sight wsX2_sight) := goodIn_app (goodIn_of _ (by decide +kernel)) ggX2_begins_X2_sight
theorem dX2_begins_0 : decode cX2_begins 0 = .ok (.iload_n 2, 1) := by decide +kernel
theorem dX2_begins_1 : decode cX2_begins 1 = .ok (.iconst 0, 1) := by decide +kernel
theorem dX2_begins_2 : decode cX2_begins 2 = .ok (.iconst 3, 1) := by decide +kernel
theorem dX2_begins_3 : decode cX2_begins 3 = .ok (.invokestatic 47, 3) := by decide +kernel
theorem dX2_begins_6 : decode cX2_begins 6 = .ok (.ifCond .ne 5, 3) := by decide +kernel
theorem dX2_begins_9 : decode cX2_begins 9 = .ok (.iconst (-1), 1) := by decide +kernel
theorem dX2_begins_10 : decode cX2_begins 10 = .ok (.ireturn, 1) := by decide +kernel
theorem dX2_begins_11 : decode cX2_begins 11 = .ok (.bipush 64, 2) := by decide +kernel
theorem dX2_begins_13 : decode cX2_begins 13 = .ok (.iconst 2, 1) := by decide +kernel
theorem dX2_begins_14 : decode cX2_begins 14 = .ok (.iload_n 2, 1) := by decide +kernel
theorem dX2_begins_15 : decode cX2_begins 15 = .ok (.imul, 1) := by decide +kernel
theorem dX2_begins_16 : decode cX2_begins 16 = .ok (.ishr, 1) := by decide +kernel
theorem dX2_begins_17 : decode cX2_begins 17 = .ok (.istore 5, 2) := by decide +kernel
theorem dX2_begins_19 : decode cX2_begins 19 = .ok (.iload_n 3, 1) := by decide +kernel
theorem dX2_begins_20 : decode cX2_begins 20 = .ok (.iconst 0, 1) := by decide +kernel
theorem dX2_begins_21 : decode cX2_begins 21 = .ok (.bipush 64, 2) := by decide +kernel
theorem dX2_begins_23 : decode cX2_begins 23 = .ok (.iload 5, 2) := by decide +kernel
theorem dX2_begins_25 : decode cX2_begins 25 = .ok (.idiv, 1) := by decide +kernel
theorem dX2_begins_26 : decode cX2_begins 26 = .ok (.iconst 1, 1) := by decide +kernel
theorem dX2_begins_27 : decode cX2_begins 27 = .ok (.isub, 1) := by decide +kernel
theorem dX2_begins_28 : decode cX2_begins 28 = .ok (.invokestatic 47, 3) := by decide +kernel
theorem dX2_begins_31 : decode cX2_begins 31 = .ok (.ifCond .eq 25, 3) := by decide +kernel
theorem dX2_begins_34 : decode cX2_begins 34 = .ok (.aload_n 0, 1) := by decide +kernel
theorem dX2_begins_35 : decode cX2_begins 35 = .ok (.iload_n 1, 1) := by decide +kernel
theorem dX2_begins_36 : decode cX2_begins 36 = .ok (.iload_n 3, 1) := by decide +kernel
theorem dX2_begins_37 : decode cX2_begins 37 = .ok (.iload 5, 2) := by decide +kernel
theorem dX2_begins_39 : decode cX2_begins 39 = .ok (.imul, 1) := by decide +kernel
theorem dX2_begins_40 : decode cX2_begins 40 = .ok (.iload_n 3, 1) := by decide +kernel
theorem dX2_begins_41 : decode cX2_begins 41 = .ok (.iload 5, 2) := by decide +kernel
theorem dX2_begins_43 : decode cX2_begins 43 = .ok (.imul, 1) := by decide +kernel
theorem dX2_begins_44 : decode cX2_begins 44 = .ok (.iload 5, 2) := by decide +kernel
theorem dX2_begins_46 : decode cX2_begins 46 = .ok (.iadd, 1) := by decide +kernel
theorem dX2_begins_47 : decode cX2_begins 47 = .ok (.iload 4, 2) := by decide +kernel
theorem dX2_begins_49 : decode cX2_begins 49 = .ok (.iconst 0, 1) := by decide +kernel
theorem dX2_begins_50 : decode cX2_begins 50 = .ok (.invokevirtual 70, 3) := by decide +kernel
theorem dX2_begins_53 : decode cX2_begins 53 = .ok (.goto 4, 3) := by decide +kernel
theorem dX2_begins_56 : decode cX2_begins 56 = .ok (.iconst (-1), 1) := by decide +kernel
theorem dX2_begins_57 : decode cX2_begins 57 = .ok (.ireturn, 1) := by decide +kernel
set_option maxRecDepth 20000 in
theorem ggX2_room_X2_isTable : GoodIn wsX2_room wsX2_isTable := goodIn_r _ [6, 7, 8, 5, 9] (by decide +kernel) (by decide +kernel)
set_option maxRecDepth 20000 in
theorem gX2_room_X2_isTable : GoodIn wsX2_room (va_wsS RX2 51 yX2_isTable wsX2_isTable) := goodIn_app (goodIn_of _ (by decide +kernel)) ggX2_room_X2_isTable
set_option maxRecDepth 20000 in
theorem ggX2_room_X2_isIn : GoodIn wsX2_room wsX2_isIn := goodIn_r _ [9] (by decide +kernel) (by decide +kernel)
set_option maxRecDepth 20000 in
theorem gX2_room_X2_isIn : GoodIn wsX2_room (va_wsS RX2 47 yX2_isIn wsX2_isIn) := goodIn_app (goodIn_of _ (by decide +kernel)) ggX2_room_X2_isIn
theorem dX2_room_0 : decode cX2_room 0 = .ok (.iload_n 1, 1) := by decide +kernel
theorem dX2_room_1 : decode cX2_room 1 = .ok (.invokestatic 51, 3) := by decide +kernel
theorem dX2_room_4 : decode cX2_room 4 = .ok (.ifCond .eq 13, 3) := by decide +kernel
theorem dX2_room_7 : decode cX2_room 7 = .ok (.iload_n 2, 1) := by decide +kernel
theorem dX2_room_8 : decode cX2_room 8 = .ok (.iconst 1, 1) := by decide +kernel
theorem dX2_room_9 : decode cX2_room 9 = .ok (.bipush 40, 2) := by decide +kernel
theorem dX2_room_11 : decode cX2_room 11 = .ok (.invokestatic 47, 3) := by decide +kernel
theorem dX2_room_14 : decode cX2_room 14 = .ok (.ifCond .ne 5, 3) := by decide +kernel
theorem dX2_room_17 : decode cX2_room 17 = .ok (.iconst 0, 1) := by decide +kernel
theorem dX2_room_18 : decode cX2_room 18 = .ok (.ireturn, 1) := by decide +kernel
theorem dX2_room_19 : decode cX2_room 19 = .ok (.aload_n 0, 1) := by decide +kernel
theorem dX2_room_20 : decode cX2_room 20 = .ok (.iconst (-1), 1) := by decide +kernel
theorem dX2_room_21 : decode cX2_room 21 = .ok (.putfield 40, 3) := by decide +kernel
theorem dX2_room_24 : decode cX2_room 24 = .ok (.aload_n 0, 1) := by decide +kernel
theorem dX2_room_25 : decode cX2_room 25 = .ok (.getfield 16, 3) := by decide +kernel
theorem dX2_room_28 : decode cX2_room 28 = .ok (.iload_n 1, 1) := by decide +kernel
theorem dX2_room_29 : decode cX2_room 29 = .ok (.iload_n 2, 1) := by decide +kernel
theorem dX2_room_30 : decode cX2_room 30 = .ok (.iastore, 1) := by decide +kernel
theorem dX2_room_31 : decode cX2_room 31 = .ok (.iconst 1, 1) := by decide +kernel
theorem dX2_room_32 : decode cX2_room 32 = .ok (.ireturn, 1) := by decide +kernel
theorem dX2_most_0 : decode cX2_most 0 = .ok (.aload_n 0, 1) := by decide +kernel
theorem dX2_most_1 : decode cX2_most 1 = .ok (.getfield 37, 3) := by decide +kernel
theorem dX2_most_4 : decode cX2_most 4 = .ok (.bipush 65, 2) := by decide +kernel
theorem dX2_most_6 : decode cX2_most 6 = .ok (.iload_n 1, 1) := by decide +kernel
theorem dX2_most_7 : decode cX2_most 7 = .ok (.imul, 1) := by decide +kernel
theorem dX2_most_8 : decode cX2_most 8 = .ok (.iload_n 2, 1) := by decide +kernel
theorem dX2_most_9 : decode cX2_most 9 = .ok (.iadd, 1) := by decide +kernel
theorem dX2_most_10 : decode cX2_most 10 = .ok (.iaload, 1) := by decide +kernel
theorem dX2_most_11 : decode cX2_most 11 = .ok (.ireturn, 1) := by decide +kernel
set_option maxRecDepth 20000 in
theorem ggX2_binds_X2_most : GoodIn wsX2_binds wsX2_most := goodIn_r _ [10, 1, 11, 12, 13, 14, 15, 16, 17, 18, 19, 20, 21, 22] (by decide +kernel) (by decide +kernel)
set_option maxRecDepth 20000 in
theorem gX2_binds_X2_most : GoodIn wsX2_binds (wsV RX2 74 RX2 yX2_most wsX2_most) := goodIn_app (goodIn_of _ (by decide +kernel)) ggX2_binds_X2_most
theorem dX2_binds_0 : decode cX2_binds 0 = .ok (.iload_n 3, 1) := by decide +kernel
theorem dX2_binds_1 : decode cX2_binds 1 = .ok (.aload_n 0, 1) := by decide +kernel
theorem dX2_binds_2 : decode cX2_binds 2 = .ok (.iload_n 1, 1) := by decide +kernel
theorem dX2_binds_3 : decode cX2_binds 3 = .ok (.iload_n 2, 1) := by decide +kernel
theorem dX2_binds_4 : decode cX2_binds 4 = .ok (.invokevirtual 74, 3) := by decide +kernel
theorem dX2_binds_7 : decode cX2_binds 7 = .ok (.if_icmp .lt 4, 3) := by decide +kernel
theorem dX2_binds_10 : decode cX2_binds 10 = .ok (.return_, 1) := by decide +kernel
theorem dX2_binds_11 : decode cX2_binds 11 = .ok (.iconst 0, 1) := by decide +kernel
theorem dX2_binds_12 : decode cX2_binds 12 = .ok (.istore 4, 2) := by decide +kernel
theorem dX2_binds_14 : decode cX2_binds 14 = .ok (.iload 4, 2) := by decide +kernel
theorem dX2_binds_16 : decode cX2_binds 16 = .ok (.bipush 65, 2) := by decide +kernel
theorem dX2_binds_18 : decode cX2_binds 18 = .ok (.if_icmp .ge 75, 3) := by decide +kernel
theorem dX2_binds_21 : decode cX2_binds 21 = .ok (.aload_n 0, 1) := by decide +kernel
theorem dX2_binds_22 : decode cX2_binds 22 = .ok (.iload 4, 2) := by decide +kernel
theorem dX2_binds_24 : decode cX2_binds 24 = .ok (.iload_n 1, 1) := by decide +kernel
theorem dX2_binds_25 : decode cX2_binds 25 = .ok (.invokevirtual 74, 3) := by decide +kernel
theorem dX2_binds_28 : decode cX2_binds 28 = .ok (.iload_n 3, 1) := by decide +kernel
theorem dX2_binds_29 : decode cX2_binds 29 = .ok (.iadd, 1) := by decide +kernel
theorem dX2_binds_30 : decode cX2_binds 30 = .ok (.istore 5, 2) := by decide +kernel
theorem dX2_binds_32 : decode cX2_binds 32 = .ok (.iconst 0, 1) := by decide +kernel
theorem dX2_binds_33 : decode cX2_binds 33 = .ok (.istore 6, 2) := by decide +kernel
theorem dX2_binds_35 : decode cX2_binds 35 = .ok (.iload 6, 2) := by decide +kernel
theorem dX2_binds_37 : decode cX2_binds 37 = .ok (.bipush 65, 2) := by decide +kernel
theorem dX2_binds_39 : decode cX2_binds 39 = .ok (.if_icmp .ge 48, 3) := by decide +kernel
theorem dX2_binds_42 : decode cX2_binds 42 = .ok (.aload_n 0, 1) := by decide +kernel
theorem dX2_binds_43 : decode cX2_binds 43 = .ok (.getfield 37, 3) := by decide +kernel
theorem dX2_binds_46 : decode cX2_binds 46 = .ok (.bipush 65, 2) := by decide +kernel
theorem dX2_binds_48 : decode cX2_binds 48 = .ok (.iload 4, 2) := by decide +kernel
theorem dX2_binds_50 : decode cX2_binds 50 = .ok (.imul, 1) := by decide +kernel
theorem dX2_binds_51 : decode cX2_binds 51 = .ok (.iload 6, 2) := by decide +kernel
theorem dX2_binds_53 : decode cX2_binds 53 = .ok (.iadd, 1) := by decide +kernel
theorem dX2_binds_54 : decode cX2_binds 54 = .ok (.aload_n 0, 1) := by decide +kernel
theorem dX2_binds_55 : decode cX2_binds 55 = .ok (.getfield 37, 3) := by decide +kernel
theorem dX2_binds_58 : decode cX2_binds 58 = .ok (.bipush 65, 2) := by decide +kernel
theorem dX2_binds_60 : decode cX2_binds 60 = .ok (.iload 4, 2) := by decide +kernel
theorem dX2_binds_62 : decode cX2_binds 62 = .ok (.imul, 1) := by decide +kernel
theorem dX2_binds_63 : decode cX2_binds 63 = .ok (.iload 6, 2) := by decide +kernel
theorem dX2_binds_65 : decode cX2_binds 65 = .ok (.iadd, 1) := by decide +kernel
theorem dX2_binds_66 : decode cX2_binds 66 = .ok (.iaload, 1) := by decide +kernel
theorem dX2_binds_67 : decode cX2_binds 67 = .ok (.iload 5, 2) := by decide +kernel
theorem dX2_binds_69 : decode cX2_binds 69 = .ok (.aload_n 0, 1) := by decide +kernel
theorem dX2_binds_70 : decode cX2_binds 70 = .ok (.iload_n 2, 1) := by decide +kernel
theorem dX2_binds_71 : decode cX2_binds 71 = .ok (.iload 6, 2) := by decide +kernel
theorem dX2_binds_73 : decode cX2_binds 73 = .ok (.invokevirtual 74, 3) := by decide +kernel
theorem dX2_binds_76 : decode cX2_binds 76 = .ok (.iadd, 1) := by decide +kernel
theorem dX2_binds_77 : decode cX2_binds 77 = .ok (.invokestatic 57, 3) := by decide +kernel
theorem dX2_binds_80 : decode cX2_binds 80 = .ok (.iastore, 1) := by decide +kernel
theorem dX2_binds_81 : decode cX2_binds 81 = .ok (.iinc 6 1, 3) := by decide +kernel
theorem dX2_binds_84 : decode cX2_binds 84 = .ok (.goto (-49), 3) := by decide +kernel
theorem dX2_binds_87 : decode cX2_binds 87 = .ok (.iinc 4 1, 3) := by decide +kernel
theorem dX2_binds_90 : decode cX2_binds 90 = .ok (.goto (-76), 3) := by decide +kernel
theorem dX2_binds_93 : decode cX2_binds 93 = .ok (.return_, 1) := by decide +kernel
set_option maxRecDepth 20000 in
theorem ggX2_closes_X2_most : GoodIn wsX2_closes wsX2_most := goodIn_r _ [22, 2, 27, 28, 29, 30, 31, 32, 33, 34, 35, 36, 37, 38] (by decide +kernel) (by decide +kernel)
set_option maxRecDepth 20000 in
theorem gX2_closes_X2_most : GoodIn wsX2_closes (wsV RX2 74 RX2 yX2_most wsX2_most) := goodIn_app (goodIn_of _ (by decide +kernel)) ggX2_closes_X2_most
set_option maxRecDepth 20000 in
theorem ggX2_closes_X2_binds : GoodIn wsX2_closes wsX2_binds := goodIn_r _ [26, 2, 15, 16, 12, 17, 18, 19, 20, 21, 22, 27, 28, 29, 30, 31, 32, 33, 34, 35, 36, 37, 38] (by decide +kernel) (by decide +kernel)
set_option maxRecDepth 20000 in
theorem gX2_closes_X2_binds : GoodIn wsX2_closes (wsV RX2 77 RX2 yX2_binds wsX2_binds) := goodIn_app (goodIn_of _ (by decide +kernel)) ggX2_closes_X2_binds
theorem dX2_closes_0 : decode cX2_closes 0 = .ok (.aload_n 0, 1) := by decide +kernel
theorem dX2_closes_1 : decode cX2_closes 1 = .ok (.getfield 40, 3) := by decide +kernel
theorem dX2_closes_4 : decode cX2_closes 4 = .ok (.iload_n 1, 1) := by decide +kernel
theorem dX2_closes_5 : decode cX2_closes 5 = .ok (.if_icmp .ne 4, 3) := by decide +kernel
theorem dX2_closes_8 : decode cX2_closes 8 = .ok (.return_, 1) := by decide +kernel
theorem dX2_closes_9 : decode cX2_closes 9 = .ok (.aload_n 0, 1) := by decide +kernel
theorem dX2_closes_10 : decode cX2_closes 10 = .ok (.iload_n 1, 1) := by decide +kernel
theorem dX2_closes_11 : decode cX2_closes 11 = .ok (.putfield 40, 3) := by decide +kernel
theorem dX2_closes_14 : decode cX2_closes 14 = .ok (.iconst 0, 1) := by decide +kernel
theorem dX2_closes_15 : decode cX2_closes 15 = .ok (.istore_n 2, 1) := by decide +kernel
theorem dX2_closes_16 : decode cX2_closes 16 = .ok (.iload_n 2, 1) := by decide +kernel
theorem dX2_closes_17 : decode cX2_closes 17 = .ok (.bipush 65, 2) := by decide +kernel
theorem dX2_closes_19 : decode cX2_closes 19 = .ok (.if_icmp .ge 49, 3) := by decide +kernel
theorem dX2_closes_22 : decode cX2_closes 22 = .ok (.iconst 0, 1) := by decide +kernel
theorem dX2_closes_23 : decode cX2_closes 23 = .ok (.istore_n 3, 1) := by decide +kernel
theorem dX2_closes_24 : decode cX2_closes 24 = .ok (.iload_n 3, 1) := by decide +kernel
theorem dX2_closes_25 : decode cX2_closes 25 = .ok (.bipush 65, 2) := by decide +kernel
theorem dX2_closes_27 : decode cX2_closes 27 = .ok (.if_icmp .ge 35, 3) := by decide +kernel
theorem dX2_closes_30 : decode cX2_closes 30 = .ok (.aload_n 0, 1) := by decide +kernel
theorem dX2_closes_31 : decode cX2_closes 31 = .ok (.getfield 37, 3) := by decide +kernel
theorem dX2_closes_34 : decode cX2_closes 34 = .ok (.bipush 65, 2) := by decide +kernel
theorem dX2_closes_36 : decode cX2_closes 36 = .ok (.iload_n 2, 1) := by decide +kernel
theorem dX2_closes_37 : decode cX2_closes 37 = .ok (.imul, 1) := by decide +kernel
theorem dX2_closes_38 : decode cX2_closes 38 = .ok (.iload_n 3, 1) := by decide +kernel
theorem dX2_closes_39 : decode cX2_closes 39 = .ok (.iadd, 1) := by decide +kernel
theorem dX2_closes_40 : decode cX2_closes 40 = .ok (.iload_n 2, 1) := by decide +kernel
theorem dX2_closes_41 : decode cX2_closes 41 = .ok (.iload_n 3, 1) := by decide +kernel
theorem dX2_closes_42 : decode cX2_closes 42 = .ok (.if_icmp .ge 12, 3) := by decide +kernel
theorem dX2_closes_45 : decode cX2_closes 45 = .ok (.aload_n 0, 1) := by decide +kernel
theorem dX2_closes_46 : decode cX2_closes 46 = .ok (.getfield 7, 3) := by decide +kernel
theorem dX2_closes_49 : decode cX2_closes 49 = .ok (.iload_n 1, 1) := by decide +kernel
theorem dX2_closes_50 : decode cX2_closes 50 = .ok (.iaload, 1) := by decide +kernel
theorem dX2_closes_51 : decode cX2_closes 51 = .ok (.goto 4, 3) := by decide +kernel
theorem dX2_closes_54 : decode cX2_closes 54 = .ok (.iconst 0, 1) := by decide +kernel
theorem dX2_closes_55 : decode cX2_closes 55 = .ok (.iastore, 1) := by decide +kernel
theorem dX2_closes_56 : decode cX2_closes 56 = .ok (.iinc 3 1, 3) := by decide +kernel
theorem dX2_closes_59 : decode cX2_closes 59 = .ok (.goto (-35), 3) := by decide +kernel
theorem dX2_closes_62 : decode cX2_closes 62 = .ok (.iinc 2 1, 3) := by decide +kernel
theorem dX2_closes_65 : decode cX2_closes 65 = .ok (.goto (-49), 3) := by decide +kernel
theorem dX2_closes_68 : decode cX2_closes 68 = .ok (.aload_n 0, 1) := by decide +kernel
theorem dX2_closes_69 : decode cX2_closes 69 = .ok (.getfield 37, 3) := by decide +kernel
theorem dX2_closes_72 : decode cX2_closes 72 = .ok (.sipush 4160, 3) := by decide +kernel
theorem dX2_closes_75 : decode cX2_closes 75 = .ok (.aload_n 0, 1) := by decide +kernel
theorem dX2_closes_76 : decode cX2_closes 76 = .ok (.getfield 7, 3) := by decide +kernel
theorem dX2_closes_79 : decode cX2_closes 79 = .ok (.iload_n 1, 1) := by decide +kernel
theorem dX2_closes_80 : decode cX2_closes 80 = .ok (.iaload, 1) := by decide +kernel
theorem dX2_closes_81 : decode cX2_closes 81 = .ok (.ineg, 1) := by decide +kernel
theorem dX2_closes_82 : decode cX2_closes 82 = .ok (.iastore, 1) := by decide +kernel
theorem dX2_closes_83 : decode cX2_closes 83 = .ok (.aload_n 0, 1) := by decide +kernel
theorem dX2_closes_84 : decode cX2_closes 84 = .ok (.getfield 13, 3) := by decide +kernel
theorem dX2_closes_87 : decode cX2_closes 87 = .ok (.iload_n 1, 1) := by decide +kernel
theorem dX2_closes_88 : decode cX2_closes 88 = .ok (.iaload, 1) := by decide +kernel
theorem dX2_closes_89 : decode cX2_closes 89 = .ok (.iconst 1, 1) := by decide +kernel
theorem dX2_closes_90 : decode cX2_closes 90 = .ok (.isub, 1) := by decide +kernel
theorem dX2_closes_91 : decode cX2_closes 91 = .ok (.istore_n 2, 1) := by decide +kernel
theorem dX2_closes_92 : decode cX2_closes 92 = .ok (.iload_n 2, 1) := by decide +kernel
theorem dX2_closes_93 : decode cX2_closes 93 = .ok (.ifCond .lt 163, 3) := by decide +kernel
theorem dX2_closes_96 : decode cX2_closes 96 = .ok (.bipush 40, 2) := by decide +kernel
theorem dX2_closes_98 : decode cX2_closes 98 = .ok (.iload_n 1, 1) := by decide +kernel
theorem dX2_closes_99 : decode cX2_closes 99 = .ok (.imul, 1) := by decide +kernel
theorem dX2_closes_100 : decode cX2_closes 100 = .ok (.iload_n 2, 1) := by decide +kernel
theorem dX2_closes_101 : decode cX2_closes 101 = .ok (.iadd, 1) := by decide +kernel
theorem dX2_closes_102 : decode cX2_closes 102 = .ok (.istore_n 3, 1) := by decide +kernel
theorem dX2_closes_103 : decode cX2_closes 103 = .ok (.aload_n 0, 1) := by decide +kernel
theorem dX2_closes_104 : decode cX2_closes 104 = .ok (.getfield 13, 3) := by decide +kernel
theorem dX2_closes_107 : decode cX2_closes 107 = .ok (.iload_n 1, 1) := by decide +kernel
end
section
theorem dX2_closes_108 : decode cX2_closes 108 = .ok (.iaload, 1) := by decide +kernel
theorem dX2_closes_109 : decode cX2_closes 109 = .ok (.iload_n 2, 1) := by decide +kernel
theorem dX2_closes_110 : decode cX2_closes 110 = .ok (.isub, 1) := by decide +kernel
theorem dX2_closes_111 : decode cX2_closes 111 = .ok (.aload_n 0, 1) := by decide +kernel
theorem dX2_closes_112 : decode cX2_closes 112 = .ok (.getfield 16, 3) := by decide +kernel
theorem dX2_closes_115 : decode cX2_closes 115 = .ok (.iload_n 1, 1) := by decide +kernel
theorem dX2_closes_116 : decode cX2_closes 116 = .ok (.iaload, 1) := by decide +kernel
theorem dX2_closes_117 : decode cX2_closes 117 = .ok (.if_icmp .le 13, 3) := by decide +kernel
theorem dX2_closes_120 : decode cX2_closes 120 = .ok (.aload_n 0, 1) := by decide +kernel
theorem dX2_closes_121 : decode cX2_closes 121 = .ok (.getfield 31, 3) := by decide +kernel
theorem dX2_closes_124 : decode cX2_closes 124 = .ok (.iload_n 3, 1) := by decide +kernel
theorem dX2_closes_125 : decode cX2_closes 125 = .ok (.iconst 2, 1) := by decide +kernel
theorem dX2_closes_126 : decode cX2_closes 126 = .ok (.iastore, 1) := by decide +kernel
theorem dX2_closes_127 : decode cX2_closes 127 = .ok (.goto 123, 3) := by decide +kernel
theorem dX2_closes_130 : decode cX2_closes 130 = .ok (.aload_n 0, 1) := by decide +kernel
theorem dX2_closes_131 : decode cX2_closes 131 = .ok (.getfield 25, 3) := by decide +kernel
theorem dX2_closes_134 : decode cX2_closes 134 = .ok (.iload_n 3, 1) := by decide +kernel
theorem dX2_closes_135 : decode cX2_closes 135 = .ok (.iaload, 1) := by decide +kernel
theorem dX2_closes_136 : decode cX2_closes 136 = .ok (.aload_n 0, 1) := by decide +kernel
theorem dX2_closes_137 : decode cX2_closes 137 = .ok (.aload_n 0, 1) := by decide +kernel
theorem dX2_closes_138 : decode cX2_closes 138 = .ok (.getfield 22, 3) := by decide +kernel
theorem dX2_closes_141 : decode cX2_closes 141 = .ok (.iload_n 3, 1) := by decide +kernel
theorem dX2_closes_142 : decode cX2_closes 142 = .ok (.iaload, 1) := by decide +kernel
theorem dX2_closes_143 : decode cX2_closes 143 = .ok (.aload_n 0, 1) := by decide +kernel
theorem dX2_closes_144 : decode cX2_closes 144 = .ok (.getfield 19, 3) := by decide +kernel
theorem dX2_closes_147 : decode cX2_closes 147 = .ok (.iload_n 3, 1) := by decide +kernel
theorem dX2_closes_148 : decode cX2_closes 148 = .ok (.iaload, 1) := by decide +kernel
theorem dX2_closes_149 : decode cX2_closes 149 = .ok (.invokevirtual 74, 3) := by decide +kernel
theorem dX2_closes_152 : decode cX2_closes 152 = .ok (.ineg, 1) := by decide +kernel
theorem dX2_closes_153 : decode cX2_closes 153 = .ok (.invokestatic 63, 3) := by decide +kernel
theorem dX2_closes_156 : decode cX2_closes 156 = .ok (.istore 4, 2) := by decide +kernel
theorem dX2_closes_158 : decode cX2_closes 158 = .ok (.aload_n 0, 1) := by decide +kernel
theorem dX2_closes_159 : decode cX2_closes 159 = .ok (.getfield 28, 3) := by decide +kernel
theorem dX2_closes_162 : decode cX2_closes 162 = .ok (.iload_n 3, 1) := by decide +kernel
theorem dX2_closes_163 : decode cX2_closes 163 = .ok (.iaload, 1) := by decide +kernel
theorem dX2_closes_164 : decode cX2_closes 164 = .ok (.aload_n 0, 1) := by decide +kernel
theorem dX2_closes_165 : decode cX2_closes 165 = .ok (.aload_n 0, 1) := by decide +kernel
theorem dX2_closes_166 : decode cX2_closes 166 = .ok (.getfield 19, 3) := by decide +kernel
theorem dX2_closes_169 : decode cX2_closes 169 = .ok (.iload_n 3, 1) := by decide +kernel
theorem dX2_closes_170 : decode cX2_closes 170 = .ok (.iaload, 1) := by decide +kernel
theorem dX2_closes_171 : decode cX2_closes 171 = .ok (.aload_n 0, 1) := by decide +kernel
theorem dX2_closes_172 : decode cX2_closes 172 = .ok (.getfield 22, 3) := by decide +kernel
theorem dX2_closes_175 : decode cX2_closes 175 = .ok (.iload_n 3, 1) := by decide +kernel
theorem dX2_closes_176 : decode cX2_closes 176 = .ok (.iaload, 1) := by decide +kernel
theorem dX2_closes_177 : decode cX2_closes 177 = .ok (.invokevirtual 74, 3) := by decide +kernel
theorem dX2_closes_180 : decode cX2_closes 180 = .ok (.invokestatic 57, 3) := by decide +kernel
theorem dX2_closes_183 : decode cX2_closes 183 = .ok (.istore 5, 2) := by decide +kernel
theorem dX2_closes_185 : decode cX2_closes 185 = .ok (.aload_n 0, 1) := by decide +kernel
theorem dX2_closes_186 : decode cX2_closes 186 = .ok (.getfield 31, 3) := by decide +kernel
theorem dX2_closes_189 : decode cX2_closes 189 = .ok (.iload_n 3, 1) := by decide +kernel
theorem dX2_closes_190 : decode cX2_closes 190 = .ok (.iload 4, 2) := by decide +kernel
theorem dX2_closes_192 : decode cX2_closes 192 = .ok (.iload 5, 2) := by decide +kernel
theorem dX2_closes_194 : decode cX2_closes 194 = .ok (.if_icmp .gt 7, 3) := by decide +kernel
theorem dX2_closes_197 : decode cX2_closes 197 = .ok (.iconst 0, 1) := by decide +kernel
theorem dX2_closes_198 : decode cX2_closes 198 = .ok (.goto 4, 3) := by decide +kernel
theorem dX2_closes_201 : decode cX2_closes 201 = .ok (.iconst 1, 1) := by decide +kernel
theorem dX2_closes_202 : decode cX2_closes 202 = .ok (.iastore, 1) := by decide +kernel
theorem dX2_closes_203 : decode cX2_closes 203 = .ok (.iload 4, 2) := by decide +kernel
theorem dX2_closes_205 : decode cX2_closes 205 = .ok (.iload 5, 2) := by decide +kernel
theorem dX2_closes_207 : decode cX2_closes 207 = .ok (.if_icmp .le 6, 3) := by decide +kernel
theorem dX2_closes_210 : decode cX2_closes 210 = .ok (.goto 40, 3) := by decide +kernel
theorem dX2_closes_213 : decode cX2_closes 213 = .ok (.aload_n 0, 1) := by decide +kernel
theorem dX2_closes_214 : decode cX2_closes 214 = .ok (.aload_n 0, 1) := by decide +kernel
theorem dX2_closes_215 : decode cX2_closes 215 = .ok (.getfield 19, 3) := by decide +kernel
theorem dX2_closes_218 : decode cX2_closes 218 = .ok (.iload_n 3, 1) := by decide +kernel
theorem dX2_closes_219 : decode cX2_closes 219 = .ok (.iaload, 1) := by decide +kernel
theorem dX2_closes_220 : decode cX2_closes 220 = .ok (.aload_n 0, 1) := by decide +kernel
theorem dX2_closes_221 : decode cX2_closes 221 = .ok (.getfield 22, 3) := by decide +kernel
theorem dX2_closes_224 : decode cX2_closes 224 = .ok (.iload_n 3, 1) := by decide +kernel
theorem dX2_closes_225 : decode cX2_closes 225 = .ok (.iaload, 1) := by decide +kernel
theorem dX2_closes_226 : decode cX2_closes 226 = .ok (.iload 5, 2) := by decide +kernel
theorem dX2_closes_228 : decode cX2_closes 228 = .ok (.invokevirtual 77, 3) := by decide +kernel
theorem dX2_closes_231 : decode cX2_closes 231 = .ok (.aload_n 0, 1) := by decide +kernel
theorem dX2_closes_232 : decode cX2_closes 232 = .ok (.aload_n 0, 1) := by decide +kernel
theorem dX2_closes_233 : decode cX2_closes 233 = .ok (.getfield 22, 3) := by decide +kernel
theorem dX2_closes_236 : decode cX2_closes 236 = .ok (.iload_n 3, 1) := by decide +kernel
theorem dX2_closes_237 : decode cX2_closes 237 = .ok (.iaload, 1) := by decide +kernel
theorem dX2_closes_238 : decode cX2_closes 238 = .ok (.aload_n 0, 1) := by decide +kernel
theorem dX2_closes_239 : decode cX2_closes 239 = .ok (.getfield 19, 3) := by decide +kernel
theorem dX2_closes_242 : decode cX2_closes 242 = .ok (.iload_n 3, 1) := by decide +kernel
theorem dX2_closes_243 : decode cX2_closes 243 = .ok (.iaload, 1) := by decide +kernel
theorem dX2_closes_244 : decode cX2_closes 244 = .ok (.iload 4, 2) := by decide +kernel
theorem dX2_closes_246 : decode cX2_closes 246 = .ok (.ineg, 1) := by decide +kernel
theorem dX2_closes_247 : decode cX2_closes 247 = .ok (.invokevirtual 77, 3) := by decide +kernel
theorem dX2_closes_250 : decode cX2_closes 250 = .ok (.iinc 2 (-1), 3) := by decide +kernel
theorem dX2_closes_253 : decode cX2_closes 253 = .ok (.goto (-161), 3) := by decide +kernel
theorem dX2_closes_256 : decode cX2_closes 256 = .ok (.return_, 1) := by decide +kernel
set_option maxRecDepth 20000 in
theorem ggX2_sightOf_X2_isTable : GoodIn wsX2_sightOf wsX2_isTable := goodIn_r _ [10, 11, 12, 9, 13] (by decide +kernel) (by decide +kernel)
set_option maxRecDepth 20000 in
theorem gX2_sightOf_X2_isTable : GoodIn wsX2_sightOf (va_wsS RX2 51 yX2_isTable wsX2_isTable) := goodIn_app (goodIn_of _ (by decide +kernel)) ggX2_sightOf_X2_isTable
set_option maxRecDepth 20000 in
theorem ggX2_sightOf_X2_isIn : GoodIn wsX2_sightOf wsX2_isIn := goodIn_r _ [13] (by decide +kernel) (by decide +kernel)
set_option maxRecDepth 20000 in
theorem gX2_sightOf_X2_isIn : GoodIn wsX2_sightOf (va_wsS RX2 47 yX2_isIn wsX2_isIn) := goodIn_app (goodIn_of _ (by decide +kernel)) ggX2_sightOf_X2_isIn
set_option maxRecDepth 20000 in
theorem ggX2_sightOf_X2_closes : GoodIn wsX2_sightOf wsX2_closes := goodIn_r _ [17, 18, 19, 20, 1, 21, 6, 4, 3, 2, 22, 23, 24, 25, 5, 26, 27, 28, 29, 30, 31, 9, 32, 33, 34, 35, 36, 37, 38, 39, 40, 41, 42, 43, 44, 45, 46, 47, 48] (by decide +kernel) (by decide +kernel)
set_option maxRecDepth 20000 in
theorem gX2_sightOf_X2_closes : GoodIn wsX2_sightOf (wsV RX2 81 RX2 yX2_closes wsX2_closes) := goodIn_app (goodIn_of _ (by decide +kernel)) ggX2_sightOf_X2_closes
theorem dX2_sightOf_0 : decode cX2_sightOf 0 = .ok (.iload_n 1, 1) := by decide +kernel
theorem dX2_sightOf_1 : decode cX2_sightOf 1 = .ok (.invokestatic 51, 3) := by decide +kernel
theorem dX2_sightOf_4 : decode cX2_sightOf 4 = .ok (.ifCond .eq 19, 3) := by decide +kernel
theorem dX2_sightOf_7 : decode cX2_sightOf 7 = .ok (.iload_n 2, 1) := by decide +kernel
theorem dX2_sightOf_8 : decode cX2_sightOf 8 = .ok (.iconst 0, 1) := by decide +kernel
theorem dX2_sightOf_9 : decode cX2_sightOf 9 = .ok (.aload_n 0, 1) := by decide +kernel
theorem dX2_sightOf_10 : decode cX2_sightOf 10 = .ok (.getfield 13, 3) := by decide +kernel
theorem dX2_sightOf_13 : decode cX2_sightOf 13 = .ok (.iload_n 1, 1) := by decide +kernel
theorem dX2_sightOf_14 : decode cX2_sightOf 14 = .ok (.iaload, 1) := by decide +kernel
theorem dX2_sightOf_15 : decode cX2_sightOf 15 = .ok (.iconst 1, 1) := by decide +kernel
theorem dX2_sightOf_16 : decode cX2_sightOf 16 = .ok (.isub, 1) := by decide +kernel
theorem dX2_sightOf_17 : decode cX2_sightOf 17 = .ok (.invokestatic 47, 3) := by decide +kernel
theorem dX2_sightOf_20 : decode cX2_sightOf 20 = .ok (.ifCond .ne 5, 3) := by decide +kernel
theorem dX2_sightOf_23 : decode cX2_sightOf 23 = .ok (.iconst (-1), 1) := by decide +kernel
theorem dX2_sightOf_24 : decode cX2_sightOf 24 = .ok (.ireturn, 1) := by decide +kernel
theorem dX2_sightOf_25 : decode cX2_sightOf 25 = .ok (.aload_n 0, 1) := by decide +kernel
theorem dX2_sightOf_26 : decode cX2_sightOf 26 = .ok (.iload_n 1, 1) := by decide +kernel
theorem dX2_sightOf_27 : decode cX2_sightOf 27 = .ok (.invokevirtual 81, 3) := by decide +kernel
theorem dX2_sightOf_30 : decode cX2_sightOf 30 = .ok (.bipush 40, 2) := by decide +kernel
theorem dX2_sightOf_32 : decode cX2_sightOf 32 = .ok (.iload_n 1, 1) := by decide +kernel
theorem dX2_sightOf_33 : decode cX2_sightOf 33 = .ok (.imul, 1) := by decide +kernel
theorem dX2_sightOf_34 : decode cX2_sightOf 34 = .ok (.iload_n 2, 1) := by decide +kernel
theorem dX2_sightOf_35 : decode cX2_sightOf 35 = .ok (.iadd, 1) := by decide +kernel
theorem dX2_sightOf_36 : decode cX2_sightOf 36 = .ok (.istore 4, 2) := by decide +kernel
theorem dX2_sightOf_38 : decode cX2_sightOf 38 = .ok (.iload_n 3, 1) := by decide +kernel
theorem dX2_sightOf_39 : decode cX2_sightOf 39 = .ok (.ifCond .ne 13, 3) := by decide +kernel
theorem dX2_sightOf_42 : decode cX2_sightOf 42 = .ok (.aload_n 0, 1) := by decide +kernel
theorem dX2_sightOf_43 : decode cX2_sightOf 43 = .ok (.getfield 19, 3) := by decide +kernel
theorem dX2_sightOf_46 : decode cX2_sightOf 46 = .ok (.iload 4, 2) := by decide +kernel
theorem dX2_sightOf_48 : decode cX2_sightOf 48 = .ok (.iaload, 1) := by decide +kernel
theorem dX2_sightOf_49 : decode cX2_sightOf 49 = .ok (.goto 64, 3) := by decide +kernel
theorem dX2_sightOf_52 : decode cX2_sightOf 52 = .ok (.iload_n 3, 1) := by decide +kernel
theorem dX2_sightOf_53 : decode cX2_sightOf 53 = .ok (.iconst 1, 1) := by decide +kernel
theorem dX2_sightOf_54 : decode cX2_sightOf 54 = .ok (.if_icmp .ne 13, 3) := by decide +kernel
theorem dX2_sightOf_57 : decode cX2_sightOf 57 = .ok (.aload_n 0, 1) := by decide +kernel
theorem dX2_sightOf_58 : decode cX2_sightOf 58 = .ok (.getfield 22, 3) := by decide +kernel
theorem dX2_sightOf_61 : decode cX2_sightOf 61 = .ok (.iload 4, 2) := by decide +kernel
theorem dX2_sightOf_63 : decode cX2_sightOf 63 = .ok (.iaload, 1) := by decide +kernel
theorem dX2_sightOf_64 : decode cX2_sightOf 64 = .ok (.goto 49, 3) := by decide +kernel
theorem dX2_sightOf_67 : decode cX2_sightOf 67 = .ok (.iload_n 3, 1) := by decide +kernel
theorem dX2_sightOf_68 : decode cX2_sightOf 68 = .ok (.iconst 2, 1) := by decide +kernel
theorem dX2_sightOf_69 : decode cX2_sightOf 69 = .ok (.if_icmp .ne 13, 3) := by decide +kernel
theorem dX2_sightOf_72 : decode cX2_sightOf 72 = .ok (.aload_n 0, 1) := by decide +kernel
theorem dX2_sightOf_73 : decode cX2_sightOf 73 = .ok (.getfield 25, 3) := by decide +kernel
theorem dX2_sightOf_76 : decode cX2_sightOf 76 = .ok (.iload 4, 2) := by decide +kernel
theorem dX2_sightOf_78 : decode cX2_sightOf 78 = .ok (.iaload, 1) := by decide +kernel
theorem dX2_sightOf_79 : decode cX2_sightOf 79 = .ok (.goto 34, 3) := by decide +kernel
theorem dX2_sightOf_82 : decode cX2_sightOf 82 = .ok (.iload_n 3, 1) := by decide +kernel
theorem dX2_sightOf_83 : decode cX2_sightOf 83 = .ok (.iconst 3, 1) := by decide +kernel
theorem dX2_sightOf_84 : decode cX2_sightOf 84 = .ok (.if_icmp .ne 13, 3) := by decide +kernel
theorem dX2_sightOf_87 : decode cX2_sightOf 87 = .ok (.aload_n 0, 1) := by decide +kernel
theorem dX2_sightOf_88 : decode cX2_sightOf 88 = .ok (.getfield 28, 3) := by decide +kernel
theorem dX2_sightOf_91 : decode cX2_sightOf 91 = .ok (.iload 4, 2) := by decide +kernel
theorem dX2_sightOf_93 : decode cX2_sightOf 93 = .ok (.iaload, 1) := by decide +kernel
theorem dX2_sightOf_94 : decode cX2_sightOf 94 = .ok (.goto 19, 3) := by decide +kernel
theorem dX2_sightOf_97 : decode cX2_sightOf 97 = .ok (.iload_n 3, 1) := by decide +kernel
theorem dX2_sightOf_98 : decode cX2_sightOf 98 = .ok (.iconst 4, 1) := by decide +kernel
theorem dX2_sightOf_99 : decode cX2_sightOf 99 = .ok (.if_icmp .ne 13, 3) := by decide +kernel
theorem dX2_sightOf_102 : decode cX2_sightOf 102 = .ok (.aload_n 0, 1) := by decide +kernel
theorem dX2_sightOf_103 : decode cX2_sightOf 103 = .ok (.getfield 31, 3) := by decide +kernel
theorem dX2_sightOf_106 : decode cX2_sightOf 106 = .ok (.iload 4, 2) := by decide +kernel
theorem dX2_sightOf_108 : decode cX2_sightOf 108 = .ok (.iaload, 1) := by decide +kernel
theorem dX2_sightOf_109 : decode cX2_sightOf 109 = .ok (.goto 4, 3) := by decide +kernel
theorem dX2_sightOf_112 : decode cX2_sightOf 112 = .ok (.iconst (-1), 1) := by decide +kernel
theorem dX2_sightOf_113 : decode cX2_sightOf 113 = .ok (.ireturn, 1) := by decide +kernel
set_option maxRecDepth 20000 in
theorem ggX2_least_X2_isTable : GoodIn wsX2_least wsX2_isTable := goodIn_r _ [4, 5, 6, 3, 7] (by decide +kernel) (by decide +kernel)
set_option maxRecDepth 20000 in
theorem gX2_least_X2_isTable : GoodIn wsX2_least (va_wsS RX2 51 yX2_isTable wsX2_isTable) := goodIn_app (goodIn_of _ (by decide +kernel)) ggX2_least_X2_isTable
set_option maxRecDepth 20000 in
theorem ggX2_least_X2_isSpan : GoodIn wsX2_least wsX2_isSpan := goodIn_r _ [10] (by decide +kernel) (by decide +kernel)
set_option maxRecDepth 20000 in
theorem gX2_least_X2_isSpan : GoodIn wsX2_least (va_wsS RX2 66 yX2_isSpan wsX2_isSpan) := goodIn_app (goodIn_of _ (by decide +kernel)) ggX2_least_X2_isSpan
set_option maxRecDepth 20000 in
theorem ggX2_least_X2_closes : GoodIn wsX2_least wsX2_closes := goodIn_r _ [14, 15, 16, 17, 18, 19, 20, 21, 22, 23, 24, 25, 26, 27, 28, 29, 30, 31, 32, 33, 34, 3, 35, 36, 37, 38, 39, 40, 41, 42, 43, 44, 45, 46, 47, 48, 49, 50, 51] (by decide +kernel) (by decide +kernel)
set_option maxRecDepth 20000 in
theorem gX2_least_X2_closes : GoodIn wsX2_least (wsV RX2 81 RX2 yX2_closes wsX2_closes) := goodIn_app (goodIn_of _ (by decide +kernel)) ggX2_least_X2_closes
set_option maxRecDepth 20000 in
theorem ggX2_least_X2_most : GoodIn wsX2_least wsX2_most := goodIn_r _ [35, 16, 40, 41, 42, 43, 44, 45, 46, 47, 48, 49, 50, 51] (by decide +kernel) (by decide +kernel)
set_option maxRecDepth 20000 in
theorem gX2_least_X2_most : GoodIn wsX2_least (wsV RX2 74 RX2 yX2_most wsX2_most) := goodIn_app (goodIn_of _ (by decide +kernel)) ggX2_least_X2_most
theorem dX2_least_0 : decode cX2_least 0 = .ok (.iload_n 1, 1) := by decide +kernel
theorem dX2_least_1 : decode cX2_least 1 = .ok (.invokestatic 51, 3) := by decide +kernel
theorem dX2_least_4 : decode cX2_least 4 = .ok (.ifCond .eq 11, 3) := by decide +kernel
theorem dX2_least_7 : decode cX2_least 7 = .ok (.iload_n 2, 1) := by decide +kernel
theorem dX2_least_8 : decode cX2_least 8 = .ok (.iload_n 3, 1) := by decide +kernel
theorem dX2_least_9 : decode cX2_least 9 = .ok (.invokestatic 66, 3) := by decide +kernel
theorem dX2_least_12 : decode cX2_least 12 = .ok (.ifCond .ne 5, 3) := by decide +kernel
theorem dX2_least_15 : decode cX2_least 15 = .ok (.iconst (-1), 1) := by decide +kernel
theorem dX2_least_16 : decode cX2_least 16 = .ok (.ireturn, 1) := by decide +kernel
theorem dX2_least_17 : decode cX2_least 17 = .ok (.aload_n 0, 1) := by decide +kernel
theorem dX2_least_18 : decode cX2_least 18 = .ok (.iload_n 1, 1) := by decide +kernel
theorem dX2_least_19 : decode cX2_least 19 = .ok (.invokevirtual 81, 3) := by decide +kernel
theorem dX2_least_22 : decode cX2_least 22 = .ok (.aload_n 0, 1) := by decide +kernel
theorem dX2_least_23 : decode cX2_least 23 = .ok (.iload_n 3, 1) := by decide +kernel
theorem dX2_least_24 : decode cX2_least 24 = .ok (.iload_n 2, 1) := by decide +kernel
theorem dX2_least_25 : decode cX2_least 25 = .ok (.invokevirtual 74, 3) := by decide +kernel
theorem dX2_least_28 : decode cX2_least 28 = .ok (.ineg, 1) := by decide +kernel
theorem dX2_least_29 : decode cX2_least 29 = .ok (.ireturn, 1) := by decide +kernel
set_option maxRecDepth 20000 in
theorem ggX2_greatest_X2_isTable : GoodIn wsX2_greatest wsX2_isTable := goodIn_r _ [4, 5, 6, 3, 7] (by decide +kernel) (by decide +kernel)
set_option maxRecDepth 20000 in
theorem gX2_greatest_X2_isTable : GoodIn wsX2_greatest (va_wsS RX2 51 yX2_isTable wsX2_isTable) := goodIn_app (goodIn_of _ (by decide +kernel)) ggX2_greatest_X2_isTable
set_option maxRecDepth 20000 in
theorem ggX2_greatest_X2_isSpan : GoodIn wsX2_greatest wsX2_isSpan := goodIn_r _ [10] (by decide +kernel) (by decide +kernel)
set_option maxRecDepth 20000 in
theorem gX2_greatest_X2_isSpan : GoodIn wsX2_greatest (va_wsS RX2 66 yX2_isSpan wsX2_isSpan) := goodIn_app (goodIn_of _ (by decide +kernel)) ggX2_greatest_X2_isSpan
set_option maxRecDepth 20000 in
theorem ggX2_greatest_X2_closes : GoodIn wsX2_greatest wsX2_closes := goodIn_r _ [14, 15, 16, 17, 18, 19, 20, 21, 22, 23, 24, 25, 26, 27, 28, 29, 30, 31, 32, 33, 34, 3, 35, 36, 37, 38, 39, 40, 41, 42, 43, 44, 45, 46, 47, 48, 49, 50, 51] (by decide +kernel) (by decide +kernel)
set_option maxRecDepth 20000 in
theorem gX2_greatest_X2_closes : GoodIn wsX2_greatest (wsV RX2 81 RX2 yX2_closes wsX2_closes) := goodIn_app (goodIn_of _ (by decide +kernel)) ggX2_greatest_X2_closes
set_option maxRecDepth 20000 in
theorem ggX2_greatest_X2_most : GoodIn wsX2_greatest wsX2_most := goodIn_r _ [35, 16, 40, 41, 42, 43, 44, 45, 46, 47, 48, 49, 50, 51] (by decide +kernel) (by decide +kernel)
set_option maxRecDepth 20000 in
theorem gX2_greatest_X2_most : GoodIn wsX2_greatest (wsV RX2 74 RX2 yX2_most wsX2_most) := goodIn_app (goodIn_of _ (by decide +kernel)) ggX2_greatest_X2_most
theorem dX2_greatest_0 : decode cX2_greatest 0 = .ok (.iload_n 1, 1) := by decide +kernel
theorem dX2_greatest_1 : decode cX2_greatest 1 = .ok (.invokestatic 51, 3) := by decide +kernel
theorem dX2_greatest_4 : decode cX2_greatest 4 = .ok (.ifCond .eq 11, 3) := by decide +kernel
theorem dX2_greatest_7 : decode cX2_greatest 7 = .ok (.iload_n 2, 1) := by decide +kernel
theorem dX2_greatest_8 : decode cX2_greatest 8 = .ok (.iload_n 3, 1) := by decide +kernel
theorem dX2_greatest_9 : decode cX2_greatest 9 = .ok (.invokestatic 66, 3) := by decide +kernel
theorem dX2_greatest_12 : decode cX2_greatest 12 = .ok (.ifCond .ne 5, 3) := by decide +kernel
theorem dX2_greatest_15 : decode cX2_greatest 15 = .ok (.iconst (-1), 1) := by decide +kernel
theorem dX2_greatest_16 : decode cX2_greatest 16 = .ok (.ireturn, 1) := by decide +kernel
theorem dX2_greatest_17 : decode cX2_greatest 17 = .ok (.aload_n 0, 1) := by decide +kernel
theorem dX2_greatest_18 : decode cX2_greatest 18 = .ok (.iload_n 1, 1) := by decide +kernel
theorem dX2_greatest_19 : decode cX2_greatest 19 = .ok (.invokevirtual 81, 3) := by decide +kernel
theorem dX2_greatest_22 : decode cX2_greatest 22 = .ok (.aload_n 0, 1) := by decide +kernel
theorem dX2_greatest_23 : decode cX2_greatest 23 = .ok (.iload_n 2, 1) := by decide +kernel
theorem dX2_greatest_24 : decode cX2_greatest 24 = .ok (.iload_n 3, 1) := by decide +kernel
theorem dX2_greatest_25 : decode cX2_greatest 25 = .ok (.invokevirtual 74, 3) := by decide +kernel
theorem dX2_greatest_28 : decode cX2_greatest 28 = .ok (.ireturn, 1) := by decide +kernel
set_option maxRecDepth 20000 in
theorem ggX2_guesses_X2_closes : GoodIn wsX2_guesses wsX2_closes := goodIn_r _ [14, 15, 16, 2, 17, 18, 19, 20, 21, 22, 3, 4, 5, 6, 23, 7, 8, 9, 24, 25, 26, 13, 27, 28, 29, 30, 31, 32, 33, 34, 35, 36, 37, 38, 39, 40, 41, 42, 43] (by decide +kernel) (by decide +kernel)
set_option maxRecDepth 20000 in
theorem gX2_guesses_X2_closes : GoodIn wsX2_guesses (wsV RX2 81 RX2 yX2_closes wsX2_closes) := goodIn_app (goodIn_of _ (by decide +kernel)) ggX2_guesses_X2_closes
set_option maxRecDepth 20000 in
theorem ggX2_guesses_X2_most : GoodIn wsX2_guesses wsX2_most := goodIn_r _ [27, 16, 32, 33, 34, 35, 36, 37, 38, 39, 40, 41, 42, 43] (by decide +kernel) (by decide +kernel)
set_option maxRecDepth 20000 in
theorem gX2_guesses_X2_most : GoodIn wsX2_guesses (wsV RX2 74 RX2 yX2_most wsX2_most) := goodIn_app (goodIn_of _ (by decide +kernel)) ggX2_guesses_X2_most
theorem dX2_guesses_0 : decode cX2_guesses 0 = .ok (.aload_n 0, 1) := by decide +kernel
theorem dX2_guesses_1 : decode cX2_guesses 1 = .ok (.iload_n 1, 1) := by decide +kernel
theorem dX2_guesses_2 : decode cX2_guesses 2 = .ok (.invokevirtual 81, 3) := by decide +kernel
theorem dX2_guesses_5 : decode cX2_guesses 5 = .ok (.bipush 65, 2) := by decide +kernel
theorem dX2_guesses_7 : decode cX2_guesses 7 = .ok (.iload_n 1, 1) := by decide +kernel
theorem dX2_guesses_8 : decode cX2_guesses 8 = .ok (.imul, 1) := by decide +kernel
theorem dX2_guesses_9 : decode cX2_guesses 9 = .ok (.istore_n 2, 1) := by decide +kernel
theorem dX2_guesses_10 : decode cX2_guesses 10 = .ok (.aload_n 0, 1) := by decide +kernel
theorem dX2_guesses_11 : decode cX2_guesses 11 = .ok (.getfield 44, 3) := by decide +kernel
theorem dX2_guesses_14 : decode cX2_guesses 14 = .ok (.iload_n 2, 1) := by decide +kernel
theorem dX2_guesses_15 : decode cX2_guesses 15 = .ok (.iconst 0, 1) := by decide +kernel
theorem dX2_guesses_16 : decode cX2_guesses 16 = .ok (.iastore, 1) := by decide +kernel
theorem dX2_guesses_17 : decode cX2_guesses 17 = .ok (.iconst 0, 1) := by decide +kernel
theorem dX2_guesses_18 : decode cX2_guesses 18 = .ok (.istore_n 3, 1) := by decide +kernel
theorem dX2_guesses_19 : decode cX2_guesses 19 = .ok (.iload_n 3, 1) := by decide +kernel
theorem dX2_guesses_20 : decode cX2_guesses 20 = .ok (.bipush 64, 2) := by decide +kernel
theorem dX2_guesses_22 : decode cX2_guesses 22 = .ok (.if_icmp .ge 140, 3) := by decide +kernel
theorem dX2_guesses_25 : decode cX2_guesses 25 = .ok (.iconst 0, 1) := by decide +kernel
theorem dX2_guesses_26 : decode cX2_guesses 26 = .ok (.istore 4, 2) := by decide +kernel
theorem dX2_guesses_28 : decode cX2_guesses 28 = .ok (.aload_n 0, 1) := by decide +kernel
theorem dX2_guesses_29 : decode cX2_guesses 29 = .ok (.getfield 7, 3) := by decide +kernel
theorem dX2_guesses_32 : decode cX2_guesses 32 = .ok (.iload_n 1, 1) := by decide +kernel
theorem dX2_guesses_33 : decode cX2_guesses 33 = .ok (.iaload, 1) := by decide +kernel
theorem dX2_guesses_34 : decode cX2_guesses 34 = .ok (.istore 5, 2) := by decide +kernel
theorem dX2_guesses_36 : decode cX2_guesses 36 = .ok (.iconst 0, 1) := by decide +kernel
theorem dX2_guesses_37 : decode cX2_guesses 37 = .ok (.istore 6, 2) := by decide +kernel
theorem dX2_guesses_39 : decode cX2_guesses 39 = .ok (.iload 6, 2) := by decide +kernel
theorem dX2_guesses_41 : decode cX2_guesses 41 = .ok (.iload_n 3, 1) := by decide +kernel
theorem dX2_guesses_42 : decode cX2_guesses 42 = .ok (.if_icmp .gt 61, 3) := by decide +kernel
theorem dX2_guesses_45 : decode cX2_guesses 45 = .ok (.iload 4, 2) := by decide +kernel
theorem dX2_guesses_47 : decode cX2_guesses 47 = .ok (.aload_n 0, 1) := by decide +kernel
theorem dX2_guesses_48 : decode cX2_guesses 48 = .ok (.getfield 44, 3) := by decide +kernel
theorem dX2_guesses_51 : decode cX2_guesses 51 = .ok (.iload_n 2, 1) := by decide +kernel
theorem dX2_guesses_52 : decode cX2_guesses 52 = .ok (.iload 6, 2) := by decide +kernel
theorem dX2_guesses_54 : decode cX2_guesses 54 = .ok (.iadd, 1) := by decide +kernel
theorem dX2_guesses_55 : decode cX2_guesses 55 = .ok (.iaload, 1) := by decide +kernel
theorem dX2_guesses_56 : decode cX2_guesses 56 = .ok (.aload_n 0, 1) := by decide +kernel
theorem dX2_guesses_57 : decode cX2_guesses 57 = .ok (.iload_n 3, 1) := by decide +kernel
theorem dX2_guesses_58 : decode cX2_guesses 58 = .ok (.iconst 1, 1) := by decide +kernel
theorem dX2_guesses_59 : decode cX2_guesses 59 = .ok (.iadd, 1) := by decide +kernel
theorem dX2_guesses_60 : decode cX2_guesses 60 = .ok (.iload 6, 2) := by decide +kernel
theorem dX2_guesses_62 : decode cX2_guesses 62 = .ok (.invokevirtual 74, 3) := by decide +kernel
theorem dX2_guesses_65 : decode cX2_guesses 65 = .ok (.isub, 1) := by decide +kernel
theorem dX2_guesses_66 : decode cX2_guesses 66 = .ok (.invokestatic 63, 3) := by decide +kernel
theorem dX2_guesses_69 : decode cX2_guesses 69 = .ok (.istore 4, 2) := by decide +kernel
theorem dX2_guesses_71 : decode cX2_guesses 71 = .ok (.iload 5, 2) := by decide +kernel
theorem dX2_guesses_73 : decode cX2_guesses 73 = .ok (.aload_n 0, 1) := by decide +kernel
theorem dX2_guesses_74 : decode cX2_guesses 74 = .ok (.getfield 44, 3) := by decide +kernel
theorem dX2_guesses_77 : decode cX2_guesses 77 = .ok (.iload_n 2, 1) := by decide +kernel
theorem dX2_guesses_78 : decode cX2_guesses 78 = .ok (.iload 6, 2) := by decide +kernel
theorem dX2_guesses_80 : decode cX2_guesses 80 = .ok (.iadd, 1) := by decide +kernel
theorem dX2_guesses_81 : decode cX2_guesses 81 = .ok (.iaload, 1) := by decide +kernel
theorem dX2_guesses_82 : decode cX2_guesses 82 = .ok (.aload_n 0, 1) := by decide +kernel
theorem dX2_guesses_83 : decode cX2_guesses 83 = .ok (.iload 6, 2) := by decide +kernel
theorem dX2_guesses_85 : decode cX2_guesses 85 = .ok (.iload_n 3, 1) := by decide +kernel
theorem dX2_guesses_86 : decode cX2_guesses 86 = .ok (.iconst 1, 1) := by decide +kernel
theorem dX2_guesses_87 : decode cX2_guesses 87 = .ok (.iadd, 1) := by decide +kernel
theorem dX2_guesses_88 : decode cX2_guesses 88 = .ok (.invokevirtual 74, 3) := by decide +kernel
theorem dX2_guesses_91 : decode cX2_guesses 91 = .ok (.iadd, 1) := by decide +kernel
theorem dX2_guesses_92 : decode cX2_guesses 92 = .ok (.invokestatic 57, 3) := by decide +kernel
theorem dX2_guesses_95 : decode cX2_guesses 95 = .ok (.istore 5, 2) := by decide +kernel
theorem dX2_guesses_97 : decode cX2_guesses 97 = .ok (.iinc 6 1, 3) := by decide +kernel
theorem dX2_guesses_100 : decode cX2_guesses 100 = .ok (.goto (-61), 3) := by decide +kernel
theorem dX2_guesses_103 : decode cX2_guesses 103 = .ok (.aload_n 0, 1) := by decide +kernel
theorem dX2_guesses_104 : decode cX2_guesses 104 = .ok (.getfield 44, 3) := by decide +kernel
theorem dX2_guesses_107 : decode cX2_guesses 107 = .ok (.iload_n 2, 1) := by decide +kernel
theorem dX2_guesses_108 : decode cX2_guesses 108 = .ok (.iload_n 3, 1) := by decide +kernel
theorem dX2_guesses_109 : decode cX2_guesses 109 = .ok (.iadd, 1) := by decide +kernel
theorem dX2_guesses_110 : decode cX2_guesses 110 = .ok (.iaload, 1) := by decide +kernel
theorem dX2_guesses_111 : decode cX2_guesses 111 = .ok (.aload_n 0, 1) := by decide +kernel
theorem dX2_guesses_112 : decode cX2_guesses 112 = .ok (.getfield 7, 3) := by decide +kernel
theorem dX2_guesses_115 : decode cX2_guesses 115 = .ok (.iload_n 1, 1) := by decide +kernel
theorem dX2_guesses_116 : decode cX2_guesses 116 = .ok (.iaload, 1) := by decide +kernel
theorem dX2_guesses_117 : decode cX2_guesses 117 = .ok (.aload_n 0, 1) := by decide +kernel
theorem dX2_guesses_118 : decode cX2_guesses 118 = .ok (.getfield 44, 3) := by decide +kernel
theorem dX2_guesses_121 : decode cX2_guesses 121 = .ok (.iload_n 2, 1) := by decide +kernel
theorem dX2_guesses_122 : decode cX2_guesses 122 = .ok (.iload_n 3, 1) := by decide +kernel
theorem dX2_guesses_123 : decode cX2_guesses 123 = .ok (.iadd, 1) := by decide +kernel
theorem dX2_guesses_124 : decode cX2_guesses 124 = .ok (.iaload, 1) := by decide +kernel
theorem dX2_guesses_125 : decode cX2_guesses 125 = .ok (.isub, 1) := by decide +kernel
theorem dX2_guesses_126 : decode cX2_guesses 126 = .ok (.bipush 64, 2) := by decide +kernel
theorem dX2_guesses_128 : decode cX2_guesses 128 = .ok (.iload_n 3, 1) := by decide +kernel
theorem dX2_guesses_129 : decode cX2_guesses 129 = .ok (.isub, 1) := by decide +kernel
theorem dX2_guesses_130 : decode cX2_guesses 130 = .ok (.idiv, 1) := by decide +kernel
theorem dX2_guesses_131 : decode cX2_guesses 131 = .ok (.iadd, 1) := by decide +kernel
theorem dX2_guesses_132 : decode cX2_guesses 132 = .ok (.istore 6, 2) := by decide +kernel
theorem dX2_guesses_134 : decode cX2_guesses 134 = .ok (.aload_n 0, 1) := by decide +kernel
theorem dX2_guesses_135 : decode cX2_guesses 135 = .ok (.getfield 44, 3) := by decide +kernel
theorem dX2_guesses_138 : decode cX2_guesses 138 = .ok (.iload_n 2, 1) := by decide +kernel
theorem dX2_guesses_139 : decode cX2_guesses 139 = .ok (.iload_n 3, 1) := by decide +kernel
theorem dX2_guesses_140 : decode cX2_guesses 140 = .ok (.iadd, 1) := by decide +kernel
theorem dX2_guesses_141 : decode cX2_guesses 141 = .ok (.iconst 1, 1) := by decide +kernel
theorem dX2_guesses_142 : decode cX2_guesses 142 = .ok (.iadd, 1) := by decide +kernel
theorem dX2_guesses_143 : decode cX2_guesses 143 = .ok (.iload 4, 2) := by decide +kernel
theorem dX2_guesses_145 : decode cX2_guesses 145 = .ok (.iload 5, 2) := by decide +kernel
theorem dX2_guesses_147 : decode cX2_guesses 147 = .ok (.iload 6, 2) := by decide +kernel
theorem dX2_guesses_149 : decode cX2_guesses 149 = .ok (.invokestatic 57, 3) := by decide +kernel
theorem dX2_guesses_152 : decode cX2_guesses 152 = .ok (.invokestatic 63, 3) := by decide +kernel
theorem dX2_guesses_155 : decode cX2_guesses 155 = .ok (.iastore, 1) := by decide +kernel
theorem dX2_guesses_156 : decode cX2_guesses 156 = .ok (.iinc 3 1, 3) := by decide +kernel
theorem dX2_guesses_159 : decode cX2_guesses 159 = .ok (.goto (-140), 3) := by decide +kernel
theorem dX2_guesses_162 : decode cX2_guesses 162 = .ok (.return_, 1) := by decide +kernel
theorem dX2_guessOf_0 : decode cX2_guessOf 0 = .ok (.aload_n 0, 1) := by decide +kernel
theorem dX2_guessOf_1 : decode cX2_guessOf 1 = .ok (.getfield 44, 3) := by decide +kernel
theorem dX2_guessOf_4 : decode cX2_guessOf 4 = .ok (.bipush 65, 2) := by decide +kernel
theorem dX2_guessOf_6 : decode cX2_guessOf 6 = .ok (.iload_n 1, 1) := by decide +kernel
theorem dX2_guessOf_7 : decode cX2_guessOf 7 = .ok (.imul, 1) := by decide +kernel
theorem dX2_guessOf_8 : decode cX2_guessOf 8 = .ok (.iload_n 2, 1) := by decide +kernel
theorem dX2_guessOf_9 : decode cX2_guessOf 9 = .ok (.iadd, 1) := by decide +kernel
theorem dX2_guessOf_10 : decode cX2_guessOf 10 = .ok (.iconst 1, 1) := by decide +kernel
theorem dX2_guessOf_11 : decode cX2_guessOf 11 = .ok (.iadd, 1) := by decide +kernel
theorem dX2_guessOf_12 : decode cX2_guessOf 12 = .ok (.iaload, 1) := by decide +kernel
theorem dX2_guessOf_13 : decode cX2_guessOf 13 = .ok (.aload_n 0, 1) := by decide +kernel
theorem dX2_guessOf_14 : decode cX2_guessOf 14 = .ok (.getfield 44, 3) := by decide +kernel
theorem dX2_guessOf_17 : decode cX2_guessOf 17 = .ok (.bipush 65, 2) := by decide +kernel
theorem dX2_guessOf_19 : decode cX2_guessOf 19 = .ok (.iload_n 1, 1) := by decide +kernel
theorem dX2_guessOf_20 : decode cX2_guessOf 20 = .ok (.imul, 1) := by decide +kernel
theorem dX2_guessOf_21 : decode cX2_guessOf 21 = .ok (.iload_n 2, 1) := by decide +kernel
theorem dX2_guessOf_22 : decode cX2_guessOf 22 = .ok (.iadd, 1) := by decide +kernel
theorem dX2_guessOf_23 : decode cX2_guessOf 23 = .ok (.iaload, 1) := by decide +kernel
theorem dX2_guessOf_24 : decode cX2_guessOf 24 = .ok (.isub, 1) := by decide +kernel
theorem dX2_guessOf_25 : decode cX2_guessOf 25 = .ok (.i2l, 1) := by decide +kernel
theorem dX2_guessOf_26 : decode cX2_guessOf 26 = .ok (.lreturn, 1) := by decide +kernel
set_option maxRecDepth 20000 in
theorem ggX2_guess_X2_isTable : GoodIn wsX2_guess wsX2_isTable := goodIn_r _ [5, 6, 7, 4, 8] (by decide +kernel) (by decide +kernel)
set_option maxRecDepth 20000 in
theorem gX2_guess_X2_isTable : GoodIn wsX2_guess (va_wsS RX2 51 yX2_isTable wsX2_isTable) := goodIn_app (goodIn_of _ (by decide +kernel)) ggX2_guess_X2_isTable
set_option maxRecDepth 20000 in
theorem ggX2_guess_X2_isSpan : GoodIn wsX2_guess wsX2_isSpan := goodIn_r _ [11] (by decide +kernel) (by decide +kernel)
set_option maxRecDepth 20000 in
theorem gX2_guess_X2_isSpan : GoodIn wsX2_guess (va_wsS RX2 66 yX2_isSpan wsX2_isSpan) := goodIn_app (goodIn_of _ (by decide +kernel)) ggX2_guess_X2_isSpan
set_option maxRecDepth 20000 in
theorem ggX2_guess_X2_guesses : GoodIn wsX2_guess wsX2_guesses := goodIn_r _ [15, 1, 16, 17, 18, 19, 20, 21, 22, 23, 24, 25, 26, 4, 27, 28, 29, 30, 31, 32, 33, 34, 35, 36, 37, 38, 39, 40, 41, 42, 43, 44, 45, 46, 47, 48, 49, 50, 51, 52, 53, 54, 55, 56] (by decide +kernel) (by decide +kernel)
set_option maxRecDepth 20000 in
theorem gX2_guess_X2_guesses : GoodIn wsX2_guess (wsV RX2 85 RX2 yX2_guesses wsX2_guesses) := goodIn_app (goodIn_of _ (by decide +kernel)) ggX2_guess_X2_guesses
theorem dX2_guess_0 : decode cX2_guess 0 = .ok (.iload_n 1, 1) := by decide +kernel
theorem dX2_guess_1 : decode cX2_guess 1 = .ok (.invokestatic 51, 3) := by decide +kernel
theorem dX2_guess_4 : decode cX2_guess 4 = .ok (.ifCond .eq 11, 3) := by decide +kernel
theorem dX2_guess_7 : decode cX2_guess 7 = .ok (.iload_n 2, 1) := by decide +kernel
theorem dX2_guess_8 : decode cX2_guess 8 = .ok (.iload_n 3, 1) := by decide +kernel
theorem dX2_guess_9 : decode cX2_guess 9 = .ok (.invokestatic 66, 3) := by decide +kernel
theorem dX2_guess_12 : decode cX2_guess 12 = .ok (.ifCond .ne 5, 3) := by decide +kernel
theorem dX2_guess_15 : decode cX2_guess 15 = .ok (.iconst (-1), 1) := by decide +kernel
theorem dX2_guess_16 : decode cX2_guess 16 = .ok (.ireturn, 1) := by decide +kernel
theorem dX2_guess_17 : decode cX2_guess 17 = .ok (.aload_n 0, 1) := by decide +kernel
theorem dX2_guess_18 : decode cX2_guess 18 = .ok (.iload_n 1, 1) := by decide +kernel
theorem dX2_guess_19 : decode cX2_guess 19 = .ok (.invokevirtual 85, 3) := by decide +kernel
theorem dX2_guess_22 : decode cX2_guess 22 = .ok (.aload_n 0, 1) := by decide +kernel
theorem dX2_guess_23 : decode cX2_guess 23 = .ok (.getfield 44, 3) := by decide +kernel
theorem dX2_guess_26 : decode cX2_guess 26 = .ok (.bipush 65, 2) := by decide +kernel
theorem dX2_guess_28 : decode cX2_guess 28 = .ok (.iload_n 1, 1) := by decide +kernel
theorem dX2_guess_29 : decode cX2_guess 29 = .ok (.imul, 1) := by decide +kernel
theorem dX2_guess_30 : decode cX2_guess 30 = .ok (.iload_n 3, 1) := by decide +kernel
theorem dX2_guess_31 : decode cX2_guess 31 = .ok (.iadd, 1) := by decide +kernel
theorem dX2_guess_32 : decode cX2_guess 32 = .ok (.iaload, 1) := by decide +kernel
theorem dX2_guess_33 : decode cX2_guess 33 = .ok (.aload_n 0, 1) := by decide +kernel
theorem dX2_guess_34 : decode cX2_guess 34 = .ok (.getfield 44, 3) := by decide +kernel
theorem dX2_guess_37 : decode cX2_guess 37 = .ok (.bipush 65, 2) := by decide +kernel
theorem dX2_guess_39 : decode cX2_guess 39 = .ok (.iload_n 1, 1) := by decide +kernel
theorem dX2_guess_40 : decode cX2_guess 40 = .ok (.imul, 1) := by decide +kernel
theorem dX2_guess_41 : decode cX2_guess 41 = .ok (.iload_n 2, 1) := by decide +kernel
theorem dX2_guess_42 : decode cX2_guess 42 = .ok (.iadd, 1) := by decide +kernel
theorem dX2_guess_43 : decode cX2_guess 43 = .ok (.iaload, 1) := by decide +kernel
theorem dX2_guess_44 : decode cX2_guess 44 = .ok (.isub, 1) := by decide +kernel
theorem dX2_guess_45 : decode cX2_guess 45 = .ok (.ireturn, 1) := by decide +kernel
set_option maxRecDepth 20000 in
theorem ggX2_join_X2_isTable : GoodIn wsX2_join wsX2_isTable := goodIn_r _ [5, 6, 7, 4, 8] (by decide +kernel) (by decide +kernel)
set_option maxRecDepth 20000 in
theorem gX2_join_X2_isTable : GoodIn wsX2_join (va_wsS RX2 51 yX2_isTable wsX2_isTable) := goodIn_app (goodIn_of _ (by decide +kernel)) ggX2_join_X2_isTable
set_option maxRecDepth 20000 in
theorem ggX2_join_X2_isSpan : GoodIn wsX2_join wsX2_isSpan := goodIn_r _ [11] (by decide +kernel) (by decide +kernel)
set_option maxRecDepth 20000 in
theorem gX2_join_X2_isSpan : GoodIn wsX2_join (va_wsS RX2 66 yX2_isSpan wsX2_isSpan) := goodIn_app (goodIn_of _ (by decide +kernel)) ggX2_join_X2_isSpan
set_option maxRecDepth 20000 in
theorem ggX2_join_X2_guesses : GoodIn wsX2_join wsX2_guesses := goodIn_r _ [15, 16, 17, 18, 19, 20, 21, 22, 23, 24, 25, 26, 27, 4, 28, 29, 30, 31, 32, 33, 34, 35, 36, 37, 38, 39, 40, 41, 42, 43, 44, 45, 50, 51, 52, 53, 54, 55, 56, 57, 58, 59, 60, 61] (by decide +kernel) (by decide +kernel)
set_option maxRecDepth 20000 in
theorem gX2_join_X2_guesses : GoodIn wsX2_join (wsV RX2 85 RX2 yX2_guesses wsX2_guesses) := goodIn_app (goodIn_of _ (by decide +kernel)) ggX2_join_X2_guesses
set_option maxRecDepth 20000 in
theorem ggX2_join_X2_guessOf : GoodIn wsX2_join wsX2_guessOf := goodIn_r _ [49, 16, 50, 51, 52, 53, 54, 55, 56, 57, 58, 59, 60, 61] (by decide +kernel) (by decide +kernel)
set_option maxRecDepth 20000 in
theorem gX2_join_X2_guessOf : GoodIn wsX2_join (wsV RX2 90 RX2 yX2_guessOf wsX2_guessOf) := goodIn_app (goodIn_of _ (by decide +kernel)) ggX2_join_X2_guessOf
theorem dX2_join_0 : decode cX2_join 0 = .ok (.iload_n 1, 1) := by decide +kernel
theorem dX2_join_1 : decode cX2_join 1 = .ok (.invokestatic 51, 3) := by decide +kernel
theorem dX2_join_4 : decode cX2_join 4 = .ok (.ifCond .eq 19, 3) := by decide +kernel
theorem dX2_join_7 : decode cX2_join 7 = .ok (.iload_n 2, 1) := by decide +kernel
theorem dX2_join_8 : decode cX2_join 8 = .ok (.invokestatic 51, 3) := by decide +kernel
theorem dX2_join_11 : decode cX2_join 11 = .ok (.ifCond .eq 12, 3) := by decide +kernel
theorem dX2_join_14 : decode cX2_join 14 = .ok (.iload_n 3, 1) := by decide +kernel
theorem dX2_join_15 : decode cX2_join 15 = .ok (.iload 4, 2) := by decide +kernel
theorem dX2_join_17 : decode cX2_join 17 = .ok (.invokestatic 66, 3) := by decide +kernel
theorem dX2_join_20 : decode cX2_join 20 = .ok (.ifCond .ne 7, 3) := by decide +kernel
theorem dX2_join_23 : decode cX2_join 23 = .ok (.ldc2_w 88, 3) := by decide +kernel
theorem dX2_join_26 : decode cX2_join 26 = .ok (.lreturn, 1) := by decide +kernel
theorem dX2_join_27 : decode cX2_join 27 = .ok (.aload_n 0, 1) := by decide +kernel
theorem dX2_join_28 : decode cX2_join 28 = .ok (.iload_n 1, 1) := by decide +kernel
theorem dX2_join_29 : decode cX2_join 29 = .ok (.invokevirtual 85, 3) := by decide +kernel
theorem dX2_join_32 : decode cX2_join 32 = .ok (.aload_n 0, 1) := by decide +kernel
theorem dX2_join_33 : decode cX2_join 33 = .ok (.iload_n 2, 1) := by decide +kernel
theorem dX2_join_34 : decode cX2_join 34 = .ok (.invokevirtual 85, 3) := by decide +kernel
theorem dX2_join_37 : decode cX2_join 37 = .ok (.lconst 0, 1) := by decide +kernel
theorem dX2_join_38 : decode cX2_join 38 = .ok (.lstore 5, 2) := by decide +kernel
theorem dX2_join_40 : decode cX2_join 40 = .ok (.iload_n 3, 1) := by decide +kernel
theorem dX2_join_41 : decode cX2_join 41 = .ok (.istore 7, 2) := by decide +kernel
theorem dX2_join_43 : decode cX2_join 43 = .ok (.iload 7, 2) := by decide +kernel
theorem dX2_join_45 : decode cX2_join 45 = .ok (.iload 4, 2) := by decide +kernel
theorem dX2_join_47 : decode cX2_join 47 = .ok (.if_icmp .ge 29, 3) := by decide +kernel
theorem dX2_join_50 : decode cX2_join 50 = .ok (.lload 5, 2) := by decide +kernel
theorem dX2_join_52 : decode cX2_join 52 = .ok (.aload_n 0, 1) := by decide +kernel
theorem dX2_join_53 : decode cX2_join 53 = .ok (.iload_n 1, 1) := by decide +kernel
theorem dX2_join_54 : decode cX2_join 54 = .ok (.iload 7, 2) := by decide +kernel
theorem dX2_join_56 : decode cX2_join 56 = .ok (.invokevirtual 90, 3) := by decide +kernel
theorem dX2_join_59 : decode cX2_join 59 = .ok (.aload_n 0, 1) := by decide +kernel
theorem dX2_join_60 : decode cX2_join 60 = .ok (.iload_n 2, 1) := by decide +kernel
theorem dX2_join_61 : decode cX2_join 61 = .ok (.iload 7, 2) := by decide +kernel
theorem dX2_join_63 : decode cX2_join 63 = .ok (.invokevirtual 90, 3) := by decide +kernel
theorem dX2_join_66 : decode cX2_join 66 = .ok (.lmul, 1) := by decide +kernel
theorem dX2_join_67 : decode cX2_join 67 = .ok (.ladd, 1) := by decide +kernel
theorem dX2_join_68 : decode cX2_join 68 = .ok (.lstore 5, 2) := by decide +kernel
theorem dX2_join_70 : decode cX2_join 70 = .ok (.iinc 7 1, 3) := by decide +kernel
theorem dX2_join_73 : decode cX2_join 73 = .ok (.goto (-30), 3) := by decide +kernel
theorem dX2_join_76 : decode cX2_join 76 = .ok (.lload 5, 2) := by decide +kernel
theorem dX2_join_78 : decode cX2_join 78 = .ok (.lreturn, 1) := by decide +kernel
set_option maxRecDepth 20000 in
theorem ggX2_truth_X2_isTable : GoodIn wsX2_truth wsX2_isTable := goodIn_r _ [6, 7, 8, 5, 9] (by decide +kernel) (by decide +kernel)
set_option maxRecDepth 20000 in
theorem gX2_truth_X2_isTable : GoodIn wsX2_truth (va_wsS RX2 51 yX2_isTable wsX2_isTable) := goodIn_app (goodIn_of _ (by decide +kernel)) ggX2_truth_X2_isTable
set_option maxRecDepth 20000 in
theorem ggX2_truth_X2_isIn : GoodIn wsX2_truth wsX2_isIn := goodIn_r _ [9] (by decide +kernel) (by decide +kernel)
set_option maxRecDepth 20000 in
theorem gX2_truth_X2_isIn : GoodIn wsX2_truth (va_wsS RX2 47 yX2_isIn wsX2_isIn) := goodIn_app (goodIn_of _ (by decide +kernel)) ggX2_truth_X2_isIn
theorem dX2_truth_0 : decode cX2_truth 0 = .ok (.iload_n 1, 1) := by decide +kernel
theorem dX2_truth_1 : decode cX2_truth 1 = .ok (.invokestatic 51, 3) := by decide +kernel
theorem dX2_truth_4 : decode cX2_truth 4 = .ok (.ifCond .eq 23, 3) := by decide +kernel
theorem dX2_truth_7 : decode cX2_truth 7 = .ok (.iload_n 2, 1) := by decide +kernel
theorem dX2_truth_8 : decode cX2_truth 8 = .ok (.iconst 0, 1) := by decide +kernel
theorem dX2_truth_9 : decode cX2_truth 9 = .ok (.bipush 63, 2) := by decide +kernel
theorem dX2_truth_11 : decode cX2_truth 11 = .ok (.invokestatic 47, 3) := by decide +kernel
theorem dX2_truth_14 : decode cX2_truth 14 = .ok (.ifCond .eq 13, 3) := by decide +kernel
theorem dX2_truth_17 : decode cX2_truth 17 = .ok (.iload_n 3, 1) := by decide +kernel
theorem dX2_truth_18 : decode cX2_truth 18 = .ok (.iconst 0, 1) := by decide +kernel
theorem dX2_truth_19 : decode cX2_truth 19 = .ok (.ldc 94, 2) := by decide +kernel
theorem dX2_truth_21 : decode cX2_truth 21 = .ok (.invokestatic 47, 3) := by decide +kernel
theorem dX2_truth_24 : decode cX2_truth 24 = .ok (.ifCond .ne 5, 3) := by decide +kernel
theorem dX2_truth_27 : decode cX2_truth 27 = .ok (.iconst 0, 1) := by decide +kernel
theorem dX2_truth_28 : decode cX2_truth 28 = .ok (.ireturn, 1) := by decide +kernel
theorem dX2_truth_29 : decode cX2_truth 29 = .ok (.aload_n 0, 1) := by decide +kernel
theorem dX2_truth_30 : decode cX2_truth 30 = .ok (.getfield 34, 3) := by decide +kernel
theorem dX2_truth_33 : decode cX2_truth 33 = .ok (.bipush 64, 2) := by decide +kernel
theorem dX2_truth_35 : decode cX2_truth 35 = .ok (.iload_n 1, 1) := by decide +kernel
theorem dX2_truth_36 : decode cX2_truth 36 = .ok (.imul, 1) := by decide +kernel
theorem dX2_truth_37 : decode cX2_truth 37 = .ok (.iload_n 2, 1) := by decide +kernel
theorem dX2_truth_38 : decode cX2_truth 38 = .ok (.iadd, 1) := by decide +kernel
theorem dX2_truth_39 : decode cX2_truth 39 = .ok (.iload_n 3, 1) := by decide +kernel
theorem dX2_truth_40 : decode cX2_truth 40 = .ok (.iastore, 1) := by decide +kernel
theorem dX2_truth_41 : decode cX2_truth 41 = .ok (.iconst 1, 1) := by decide +kernel
theorem dX2_truth_42 : decode cX2_truth 42 = .ok (.ireturn, 1) := by decide +kernel
theorem dX2_trueIn_0 : decode cX2_trueIn 0 = .ok (.lconst 0, 1) := by decide +kernel
theorem dX2_trueIn_1 : decode cX2_trueIn 1 = .ok (.lstore 4, 2) := by decide +kernel
theorem dX2_trueIn_3 : decode cX2_trueIn 3 = .ok (.iload_n 2, 1) := by decide +kernel
theorem dX2_trueIn_4 : decode cX2_trueIn 4 = .ok (.istore 6, 2) := by decide +kernel
theorem dX2_trueIn_6 : decode cX2_trueIn 6 = .ok (.iload 6, 2) := by decide +kernel
theorem dX2_trueIn_8 : decode cX2_trueIn 8 = .ok (.iload_n 3, 1) := by decide +kernel
theorem dX2_trueIn_9 : decode cX2_trueIn 9 = .ok (.if_icmp .ge 27, 3) := by decide +kernel
theorem dX2_trueIn_12 : decode cX2_trueIn 12 = .ok (.lload 4, 2) := by decide +kernel
theorem dX2_trueIn_14 : decode cX2_trueIn 14 = .ok (.aload_n 0, 1) := by decide +kernel
theorem dX2_trueIn_15 : decode cX2_trueIn 15 = .ok (.getfield 34, 3) := by decide +kernel
theorem dX2_trueIn_18 : decode cX2_trueIn 18 = .ok (.bipush 64, 2) := by decide +kernel
theorem dX2_trueIn_20 : decode cX2_trueIn 20 = .ok (.iload_n 1, 1) := by decide +kernel
theorem dX2_trueIn_21 : decode cX2_trueIn 21 = .ok (.imul, 1) := by decide +kernel
theorem dX2_trueIn_22 : decode cX2_trueIn 22 = .ok (.iload 6, 2) := by decide +kernel
theorem dX2_trueIn_24 : decode cX2_trueIn 24 = .ok (.iadd, 1) := by decide +kernel
theorem dX2_trueIn_25 : decode cX2_trueIn 25 = .ok (.iaload, 1) := by decide +kernel
theorem dX2_trueIn_26 : decode cX2_trueIn 26 = .ok (.i2l, 1) := by decide +kernel
theorem dX2_trueIn_27 : decode cX2_trueIn 27 = .ok (.ladd, 1) := by decide +kernel
theorem dX2_trueIn_28 : decode cX2_trueIn 28 = .ok (.lstore 4, 2) := by decide +kernel
theorem dX2_trueIn_30 : decode cX2_trueIn 30 = .ok (.iinc 6 1, 3) := by decide +kernel
theorem dX2_trueIn_33 : decode cX2_trueIn 33 = .ok (.goto (-27), 3) := by decide +kernel
theorem dX2_trueIn_36 : decode cX2_trueIn 36 = .ok (.lload 4, 2) := by decide +kernel
theorem dX2_trueIn_38 : decode cX2_trueIn 38 = .ok (.lreturn, 1) := by decide +kernel
set_option maxRecDepth 20000 in
theorem ggX2_agrees_X2_isTable : GoodIn wsX2_agrees wsX2_isTable := goodIn_r _ [12, 13, 14, 11, 15] (by decide +kernel) (by decide +kernel)
set_option maxRecDepth 20000 in
theorem gX2_agrees_X2_isTable : GoodIn wsX2_agrees (va_wsS RX2 51 yX2_isTable wsX2_isTable) := goodIn_app (goodIn_of _ (by decide +kernel)) ggX2_agrees_X2_isTable
set_option maxRecDepth 20000 in
theorem ggX2_agrees_X2_closes : GoodIn wsX2_agrees wsX2_closes := goodIn_r _ [19, 20, 21, 1, 2, 22, 5, 6, 4, 3, 23, 24, 25, 26, 7, 27, 28, 29, 30, 31, 32, 11, 33, 34, 35, 36, 37, 43, 44, 45, 46, 47, 48, 49, 50, 51, 52, 53, 54] (by decide +kernel) (by decide +kernel)
set_option maxRecDepth 20000 in
theorem gX2_agrees_X2_closes : GoodIn wsX2_agrees (wsV RX2 81 RX2 yX2_closes wsX2_closes) := goodIn_app (goodIn_of _ (by decide +kernel)) ggX2_agrees_X2_closes
set_option maxRecDepth 20000 in
theorem ggX2_agrees_X2_trueIn : GoodIn wsX2_agrees wsX2_trueIn := goodIn_r _ [41, 42, 43, 44, 45, 46, 47, 48, 49, 50, 51, 52, 53, 54] (by decide +kernel) (by decide +kernel)
set_option maxRecDepth 20000 in
theorem gX2_agrees_X2_trueIn : GoodIn wsX2_agrees (wsV RX2 95 RX2 yX2_trueIn wsX2_trueIn) := goodIn_app (goodIn_of _ (by decide +kernel)) ggX2_agrees_X2_trueIn
theorem dX2_agrees_0 : decode cX2_agrees 0 = .ok (.iload_n 1, 1) := by decide +kernel
theorem dX2_agrees_1 : decode cX2_agrees 1 = .ok (.invokestatic 51, 3) := by decide +kernel
theorem dX2_agrees_4 : decode cX2_agrees 4 = .ok (.ifCond .ne 5, 3) := by decide +kernel
theorem dX2_agrees_7 : decode cX2_agrees 7 = .ok (.iconst (-1), 1) := by decide +kernel
theorem dX2_agrees_8 : decode cX2_agrees 8 = .ok (.ireturn, 1) := by decide +kernel
theorem dX2_agrees_9 : decode cX2_agrees 9 = .ok (.aload_n 0, 1) := by decide +kernel
theorem dX2_agrees_10 : decode cX2_agrees 10 = .ok (.iload_n 1, 1) := by decide +kernel
theorem dX2_agrees_11 : decode cX2_agrees 11 = .ok (.invokevirtual 81, 3) := by decide +kernel
theorem dX2_agrees_14 : decode cX2_agrees 14 = .ok (.aload_n 0, 1) := by decide +kernel
theorem dX2_agrees_15 : decode cX2_agrees 15 = .ok (.iload_n 1, 1) := by decide +kernel
theorem dX2_agrees_16 : decode cX2_agrees 16 = .ok (.iconst 0, 1) := by decide +kernel
theorem dX2_agrees_17 : decode cX2_agrees 17 = .ok (.bipush 64, 2) := by decide +kernel
theorem dX2_agrees_19 : decode cX2_agrees 19 = .ok (.invokevirtual 95, 3) := by decide +kernel
theorem dX2_agrees_22 : decode cX2_agrees 22 = .ok (.aload_n 0, 1) := by decide +kernel
theorem dX2_agrees_23 : decode cX2_agrees 23 = .ok (.getfield 7, 3) := by decide +kernel
theorem dX2_agrees_26 : decode cX2_agrees 26 = .ok (.iload_n 1, 1) := by decide +kernel
theorem dX2_agrees_27 : decode cX2_agrees 27 = .ok (.iaload, 1) := by decide +kernel
theorem dX2_agrees_28 : decode cX2_agrees 28 = .ok (.i2l, 1) := by decide +kernel
theorem dX2_agrees_29 : decode cX2_agrees 29 = .ok (.lcmp, 1) := by decide +kernel
theorem dX2_agrees_30 : decode cX2_agrees 30 = .ok (.ifCond .ne 7, 3) := by decide +kernel
theorem dX2_agrees_33 : decode cX2_agrees 33 = .ok (.iconst 1, 1) := by decide +kernel
theorem dX2_agrees_34 : decode cX2_agrees 34 = .ok (.goto 4, 3) := by decide +kernel
theorem dX2_agrees_37 : decode cX2_agrees 37 = .ok (.iconst 0, 1) := by decide +kernel
theorem dX2_agrees_38 : decode cX2_agrees 38 = .ok (.istore_n 2, 1) := by decide +kernel
theorem dX2_agrees_39 : decode cX2_agrees 39 = .ok (.bipush 40, 2) := by decide +kernel
end
section
theorem dX2_agrees_41 : decode cX2_agrees 41 = .ok (.iload_n 1, 1) := by decide +kernel
theorem dX2_agrees_42 : decode cX2_agrees 42 = .ok (.imul, 1) := by decide +kernel
theorem dX2_agrees_43 : decode cX2_agrees 43 = .ok (.istore_n 3, 1) := by decide +kernel
theorem dX2_agrees_44 : decode cX2_agrees 44 = .ok (.iload_n 3, 1) := by decide +kernel
theorem dX2_agrees_45 : decode cX2_agrees 45 = .ok (.bipush 40, 2) := by decide +kernel
theorem dX2_agrees_47 : decode cX2_agrees 47 = .ok (.iload_n 1, 1) := by decide +kernel
theorem dX2_agrees_48 : decode cX2_agrees 48 = .ok (.imul, 1) := by decide +kernel
theorem dX2_agrees_49 : decode cX2_agrees 49 = .ok (.aload_n 0, 1) := by decide +kernel
theorem dX2_agrees_50 : decode cX2_agrees 50 = .ok (.getfield 13, 3) := by decide +kernel
theorem dX2_agrees_53 : decode cX2_agrees 53 = .ok (.iload_n 1, 1) := by decide +kernel
theorem dX2_agrees_54 : decode cX2_agrees 54 = .ok (.iaload, 1) := by decide +kernel
theorem dX2_agrees_55 : decode cX2_agrees 55 = .ok (.iadd, 1) := by decide +kernel
theorem dX2_agrees_56 : decode cX2_agrees 56 = .ok (.if_icmp .ge 84, 3) := by decide +kernel
theorem dX2_agrees_59 : decode cX2_agrees 59 = .ok (.aload_n 0, 1) := by decide +kernel
theorem dX2_agrees_60 : decode cX2_agrees 60 = .ok (.iload_n 1, 1) := by decide +kernel
theorem dX2_agrees_61 : decode cX2_agrees 61 = .ok (.aload_n 0, 1) := by decide +kernel
theorem dX2_agrees_62 : decode cX2_agrees 62 = .ok (.getfield 19, 3) := by decide +kernel
theorem dX2_agrees_65 : decode cX2_agrees 65 = .ok (.iload_n 3, 1) := by decide +kernel
theorem dX2_agrees_66 : decode cX2_agrees 66 = .ok (.iaload, 1) := by decide +kernel
theorem dX2_agrees_67 : decode cX2_agrees 67 = .ok (.aload_n 0, 1) := by decide +kernel
theorem dX2_agrees_68 : decode cX2_agrees 68 = .ok (.getfield 22, 3) := by decide +kernel
theorem dX2_agrees_71 : decode cX2_agrees 71 = .ok (.iload_n 3, 1) := by decide +kernel
theorem dX2_agrees_72 : decode cX2_agrees 72 = .ok (.iaload, 1) := by decide +kernel
theorem dX2_agrees_73 : decode cX2_agrees 73 = .ok (.invokevirtual 95, 3) := by decide +kernel
theorem dX2_agrees_76 : decode cX2_agrees 76 = .ok (.lstore 4, 2) := by decide +kernel
theorem dX2_agrees_78 : decode cX2_agrees 78 = .ok (.iload_n 2, 1) := by decide +kernel
theorem dX2_agrees_79 : decode cX2_agrees 79 = .ok (.ifCond .eq 53, 3) := by decide +kernel
theorem dX2_agrees_82 : decode cX2_agrees 82 = .ok (.aload_n 0, 1) := by decide +kernel
theorem dX2_agrees_83 : decode cX2_agrees 83 = .ok (.getfield 31, 3) := by decide +kernel
theorem dX2_agrees_86 : decode cX2_agrees 86 = .ok (.iload_n 3, 1) := by decide +kernel
theorem dX2_agrees_87 : decode cX2_agrees 87 = .ok (.iaload, 1) := by decide +kernel
theorem dX2_agrees_88 : decode cX2_agrees 88 = .ok (.ifCond .ne 40, 3) := by decide +kernel
theorem dX2_agrees_91 : decode cX2_agrees 91 = .ok (.lload 4, 2) := by decide +kernel
theorem dX2_agrees_93 : decode cX2_agrees 93 = .ok (.aload_n 0, 1) := by decide +kernel
theorem dX2_agrees_94 : decode cX2_agrees 94 = .ok (.getfield 25, 3) := by decide +kernel
theorem dX2_agrees_97 : decode cX2_agrees 97 = .ok (.iload_n 3, 1) := by decide +kernel
theorem dX2_agrees_98 : decode cX2_agrees 98 = .ok (.iaload, 1) := by decide +kernel
theorem dX2_agrees_99 : decode cX2_agrees 99 = .ok (.i2l, 1) := by decide +kernel
theorem dX2_agrees_100 : decode cX2_agrees 100 = .ok (.lcmp, 1) := by decide +kernel
theorem dX2_agrees_101 : decode cX2_agrees 101 = .ok (.ifCond .lt 31, 3) := by decide +kernel
theorem dX2_agrees_104 : decode cX2_agrees 104 = .ok (.aload_n 0, 1) := by decide +kernel
theorem dX2_agrees_105 : decode cX2_agrees 105 = .ok (.getfield 28, 3) := by decide +kernel
theorem dX2_agrees_108 : decode cX2_agrees 108 = .ok (.iload_n 3, 1) := by decide +kernel
theorem dX2_agrees_109 : decode cX2_agrees 109 = .ok (.iaload, 1) := by decide +kernel
theorem dX2_agrees_110 : decode cX2_agrees 110 = .ok (.ldc 56, 2) := by decide +kernel
theorem dX2_agrees_112 : decode cX2_agrees 112 = .ok (.if_icmp .eq 16, 3) := by decide +kernel
theorem dX2_agrees_115 : decode cX2_agrees 115 = .ok (.lload 4, 2) := by decide +kernel
theorem dX2_agrees_117 : decode cX2_agrees 117 = .ok (.aload_n 0, 1) := by decide +kernel
theorem dX2_agrees_118 : decode cX2_agrees 118 = .ok (.getfield 28, 3) := by decide +kernel
theorem dX2_agrees_121 : decode cX2_agrees 121 = .ok (.iload_n 3, 1) := by decide +kernel
theorem dX2_agrees_122 : decode cX2_agrees 122 = .ok (.iaload, 1) := by decide +kernel
theorem dX2_agrees_123 : decode cX2_agrees 123 = .ok (.i2l, 1) := by decide +kernel
theorem dX2_agrees_124 : decode cX2_agrees 124 = .ok (.lcmp, 1) := by decide +kernel
theorem dX2_agrees_125 : decode cX2_agrees 125 = .ok (.ifCond .gt 7, 3) := by decide +kernel
theorem dX2_agrees_128 : decode cX2_agrees 128 = .ok (.iconst 1, 1) := by decide +kernel
theorem dX2_agrees_129 : decode cX2_agrees 129 = .ok (.goto 4, 3) := by decide +kernel
theorem dX2_agrees_132 : decode cX2_agrees 132 = .ok (.iconst 0, 1) := by decide +kernel
theorem dX2_agrees_133 : decode cX2_agrees 133 = .ok (.istore_n 2, 1) := by decide +kernel
theorem dX2_agrees_134 : decode cX2_agrees 134 = .ok (.iinc 3 1, 3) := by decide +kernel
theorem dX2_agrees_137 : decode cX2_agrees 137 = .ok (.goto (-93), 3) := by decide +kernel
theorem dX2_agrees_140 : decode cX2_agrees 140 = .ok (.iload_n 2, 1) := by decide +kernel
theorem dX2_agrees_141 : decode cX2_agrees 141 = .ok (.ifCond .eq 7, 3) := by decide +kernel
theorem dX2_agrees_144 : decode cX2_agrees 144 = .ok (.iconst 1, 1) := by decide +kernel
theorem dX2_agrees_145 : decode cX2_agrees 145 = .ok (.goto 4, 3) := by decide +kernel
theorem dX2_agrees_148 : decode cX2_agrees 148 = .ok (.iconst 0, 1) := by decide +kernel
theorem dX2_agrees_149 : decode cX2_agrees 149 = .ok (.ireturn, 1) := by decide +kernel
set_option maxRecDepth 20000 in
theorem ggX2_rowsOf_X2_guessOf : GoodIn wsX2_rowsOf wsX2_guessOf := goodIn_r _ [6, 7, 8, 9, 10, 11, 12, 13, 14, 15, 16, 17, 18, 19] (by decide +kernel) (by decide +kernel)
set_option maxRecDepth 20000 in
theorem gX2_rowsOf_X2_guessOf : GoodIn wsX2_rowsOf (wsV RX2 90 RX2 yX2_guessOf wsX2_guessOf) := goodIn_app (goodIn_of _ (by decide +kernel)) ggX2_rowsOf_X2_guessOf
theorem dX2_rowsOf_0 : decode cX2_rowsOf 0 = .ok (.iload_n 3, 1) := by decide +kernel
theorem dX2_rowsOf_1 : decode cX2_rowsOf 1 = .ok (.ifCond .eq 18, 3) := by decide +kernel
theorem dX2_rowsOf_4 : decode cX2_rowsOf 4 = .ok (.aload_n 0, 1) := by decide +kernel
theorem dX2_rowsOf_5 : decode cX2_rowsOf 5 = .ok (.getfield 34, 3) := by decide +kernel
theorem dX2_rowsOf_8 : decode cX2_rowsOf 8 = .ok (.bipush 64, 2) := by decide +kernel
theorem dX2_rowsOf_10 : decode cX2_rowsOf 10 = .ok (.iload_n 1, 1) := by decide +kernel
theorem dX2_rowsOf_11 : decode cX2_rowsOf 11 = .ok (.imul, 1) := by decide +kernel
theorem dX2_rowsOf_12 : decode cX2_rowsOf 12 = .ok (.iload_n 2, 1) := by decide +kernel
theorem dX2_rowsOf_13 : decode cX2_rowsOf 13 = .ok (.iadd, 1) := by decide +kernel
theorem dX2_rowsOf_14 : decode cX2_rowsOf 14 = .ok (.iaload, 1) := by decide +kernel
theorem dX2_rowsOf_15 : decode cX2_rowsOf 15 = .ok (.i2l, 1) := by decide +kernel
theorem dX2_rowsOf_16 : decode cX2_rowsOf 16 = .ok (.goto 9, 3) := by decide +kernel
theorem dX2_rowsOf_19 : decode cX2_rowsOf 19 = .ok (.aload_n 0, 1) := by decide +kernel
theorem dX2_rowsOf_20 : decode cX2_rowsOf 20 = .ok (.iload_n 1, 1) := by decide +kernel
theorem dX2_rowsOf_21 : decode cX2_rowsOf 21 = .ok (.iload_n 2, 1) := by decide +kernel
theorem dX2_rowsOf_22 : decode cX2_rowsOf 22 = .ok (.invokevirtual 90, 3) := by decide +kernel
theorem dX2_rowsOf_25 : decode cX2_rowsOf 25 = .ok (.lreturn, 1) := by decide +kernel
set_option maxRecDepth 20000 in
theorem ggX2_costOf_X2_rowsOf : GoodIn wsX2_costOf wsX2_rowsOf := goodIn_r _ [5, 6, 7, 8, 9, 4, 10, 11, 12, 13, 14, 15, 16, 17, 18, 19, 20, 21, 22, 23] (by decide +kernel) (by decide +kernel)
set_option maxRecDepth 20000 in
theorem gX2_costOf_X2_rowsOf : GoodIn wsX2_costOf (wsV RX2 99 RX2 yX2_rowsOf wsX2_rowsOf) := goodIn_app (goodIn_of _ (by decide +kernel)) ggX2_costOf_X2_rowsOf
theorem dX2_costOf_0 : decode cX2_costOf 0 = .ok (.iload_n 1, 1) := by decide +kernel
theorem dX2_costOf_1 : decode cX2_costOf 1 = .ok (.iconst 2, 1) := by decide +kernel
theorem dX2_costOf_2 : decode cX2_costOf 2 = .ok (.idiv, 1) := by decide +kernel
theorem dX2_costOf_3 : decode cX2_costOf 3 = .ok (.istore_n 3, 1) := by decide +kernel
theorem dX2_costOf_4 : decode cX2_costOf 4 = .ok (.iload_n 1, 1) := by decide +kernel
theorem dX2_costOf_5 : decode cX2_costOf 5 = .ok (.iconst 2, 1) := by decide +kernel
theorem dX2_costOf_6 : decode cX2_costOf 6 = .ok (.irem, 1) := by decide +kernel
theorem dX2_costOf_7 : decode cX2_costOf 7 = .ok (.ifCond .ne 15, 3) := by decide +kernel
theorem dX2_costOf_10 : decode cX2_costOf 10 = .ok (.iload_n 3, 1) := by decide +kernel
theorem dX2_costOf_11 : decode cX2_costOf 11 = .ok (.ifCond .ne 7, 3) := by decide +kernel
theorem dX2_costOf_14 : decode cX2_costOf 14 = .ok (.iconst 1, 1) := by decide +kernel
theorem dX2_costOf_15 : decode cX2_costOf 15 = .ok (.goto 17, 3) := by decide +kernel
theorem dX2_costOf_18 : decode cX2_costOf 18 = .ok (.iconst 0, 1) := by decide +kernel
theorem dX2_costOf_19 : decode cX2_costOf 19 = .ok (.goto 13, 3) := by decide +kernel
theorem dX2_costOf_22 : decode cX2_costOf 22 = .ok (.iload_n 3, 1) := by decide +kernel
theorem dX2_costOf_23 : decode cX2_costOf 23 = .ok (.iconst 2, 1) := by decide +kernel
theorem dX2_costOf_24 : decode cX2_costOf 24 = .ok (.if_icmp .ne 7, 3) := by decide +kernel
theorem dX2_costOf_27 : decode cX2_costOf 27 = .ok (.iconst 1, 1) := by decide +kernel
theorem dX2_costOf_28 : decode cX2_costOf 28 = .ok (.goto 4, 3) := by decide +kernel
theorem dX2_costOf_31 : decode cX2_costOf 31 = .ok (.iconst 2, 1) := by decide +kernel
theorem dX2_costOf_32 : decode cX2_costOf 32 = .ok (.istore 4, 2) := by decide +kernel
theorem dX2_costOf_34 : decode cX2_costOf 34 = .ok (.iconst 3, 1) := by decide +kernel
theorem dX2_costOf_35 : decode cX2_costOf 35 = .ok (.iload_n 3, 1) := by decide +kernel
theorem dX2_costOf_36 : decode cX2_costOf 36 = .ok (.isub, 1) := by decide +kernel
theorem dX2_costOf_37 : decode cX2_costOf 37 = .ok (.iload 4, 2) := by decide +kernel
theorem dX2_costOf_39 : decode cX2_costOf 39 = .ok (.isub, 1) := by decide +kernel
theorem dX2_costOf_40 : decode cX2_costOf 40 = .ok (.istore 5, 2) := by decide +kernel
theorem dX2_costOf_42 : decode cX2_costOf 42 = .ok (.lconst 0, 1) := by decide +kernel
theorem dX2_costOf_43 : decode cX2_costOf 43 = .ok (.lstore 6, 2) := by decide +kernel
theorem dX2_costOf_45 : decode cX2_costOf 45 = .ok (.iconst 0, 1) := by decide +kernel
theorem dX2_costOf_46 : decode cX2_costOf 46 = .ok (.istore 8, 2) := by decide +kernel
theorem dX2_costOf_48 : decode cX2_costOf 48 = .ok (.iload 8, 2) := by decide +kernel
theorem dX2_costOf_50 : decode cX2_costOf 50 = .ok (.bipush 64, 2) := by decide +kernel
theorem dX2_costOf_52 : decode cX2_costOf 52 = .ok (.if_icmp .ge 49, 3) := by decide +kernel
theorem dX2_costOf_55 : decode cX2_costOf 55 = .ok (.aload_n 0, 1) := by decide +kernel
theorem dX2_costOf_56 : decode cX2_costOf 56 = .ok (.iload_n 3, 1) := by decide +kernel
theorem dX2_costOf_57 : decode cX2_costOf 57 = .ok (.iload 8, 2) := by decide +kernel
theorem dX2_costOf_59 : decode cX2_costOf 59 = .ok (.iload_n 2, 1) := by decide +kernel
theorem dX2_costOf_60 : decode cX2_costOf 60 = .ok (.invokevirtual 99, 3) := by decide +kernel
theorem dX2_costOf_63 : decode cX2_costOf 63 = .ok (.aload_n 0, 1) := by decide +kernel
theorem dX2_costOf_64 : decode cX2_costOf 64 = .ok (.iload 4, 2) := by decide +kernel
theorem dX2_costOf_66 : decode cX2_costOf 66 = .ok (.iload 8, 2) := by decide +kernel
theorem dX2_costOf_68 : decode cX2_costOf 68 = .ok (.iload_n 2, 1) := by decide +kernel
theorem dX2_costOf_69 : decode cX2_costOf 69 = .ok (.invokevirtual 99, 3) := by decide +kernel
theorem dX2_costOf_72 : decode cX2_costOf 72 = .ok (.lmul, 1) := by decide +kernel
theorem dX2_costOf_73 : decode cX2_costOf 73 = .ok (.lstore 9, 2) := by decide +kernel
theorem dX2_costOf_75 : decode cX2_costOf 75 = .ok (.lload 6, 2) := by decide +kernel
theorem dX2_costOf_77 : decode cX2_costOf 77 = .ok (.lload 9, 2) := by decide +kernel
theorem dX2_costOf_79 : decode cX2_costOf 79 = .ok (.lload 9, 2) := by decide +kernel
theorem dX2_costOf_81 : decode cX2_costOf 81 = .ok (.aload_n 0, 1) := by decide +kernel
theorem dX2_costOf_82 : decode cX2_costOf 82 = .ok (.iload 5, 2) := by decide +kernel
theorem dX2_costOf_84 : decode cX2_costOf 84 = .ok (.iload 8, 2) := by decide +kernel
theorem dX2_costOf_86 : decode cX2_costOf 86 = .ok (.iload_n 2, 1) := by decide +kernel
theorem dX2_costOf_87 : decode cX2_costOf 87 = .ok (.invokevirtual 99, 3) := by decide +kernel
theorem dX2_costOf_90 : decode cX2_costOf 90 = .ok (.lmul, 1) := by decide +kernel
theorem dX2_costOf_91 : decode cX2_costOf 91 = .ok (.ladd, 1) := by decide +kernel
theorem dX2_costOf_92 : decode cX2_costOf 92 = .ok (.ladd, 1) := by decide +kernel
theorem dX2_costOf_93 : decode cX2_costOf 93 = .ok (.lstore 6, 2) := by decide +kernel
theorem dX2_costOf_95 : decode cX2_costOf 95 = .ok (.iinc 8 1, 3) := by decide +kernel
theorem dX2_costOf_98 : decode cX2_costOf 98 = .ok (.goto (-50), 3) := by decide +kernel
theorem dX2_costOf_101 : decode cX2_costOf 101 = .ok (.lload 6, 2) := by decide +kernel
theorem dX2_costOf_103 : decode cX2_costOf 103 = .ok (.lreturn, 1) := by decide +kernel
set_option maxRecDepth 20000 in
theorem ggX2_allGuesses_X2_guesses : GoodIn wsX2_allGuesses wsX2_guesses := goodIn_r _ [5, 6, 7, 8, 9, 10, 11, 12, 13, 14, 15, 16, 17, 4, 18, 19, 20, 21, 22, 23, 24, 25, 26, 27, 28, 29, 30, 31, 32, 33, 34, 35, 36, 37, 38, 39, 40, 41, 42, 43, 44, 45, 46, 47] (by decide +kernel) (by decide +kernel)
set_option maxRecDepth 20000 in
theorem gX2_allGuesses_X2_guesses : GoodIn wsX2_allGuesses (wsV RX2 85 RX2 yX2_guesses wsX2_guesses) := goodIn_app (goodIn_of _ (by decide +kernel)) ggX2_allGuesses_X2_guesses
theorem dX2_allGuesses_0 : decode cX2_allGuesses 0 = .ok (.iconst 0, 1) := by decide +kernel
theorem dX2_allGuesses_1 : decode cX2_allGuesses 1 = .ok (.istore_n 1, 1) := by decide +kernel
theorem dX2_allGuesses_2 : decode cX2_allGuesses 2 = .ok (.iload_n 1, 1) := by decide +kernel
theorem dX2_allGuesses_3 : decode cX2_allGuesses 3 = .ok (.iconst 3, 1) := by decide +kernel
theorem dX2_allGuesses_4 : decode cX2_allGuesses 4 = .ok (.if_icmp .ge 14, 3) := by decide +kernel
theorem dX2_allGuesses_7 : decode cX2_allGuesses 7 = .ok (.aload_n 0, 1) := by decide +kernel
theorem dX2_allGuesses_8 : decode cX2_allGuesses 8 = .ok (.iload_n 1, 1) := by decide +kernel
theorem dX2_allGuesses_9 : decode cX2_allGuesses 9 = .ok (.invokevirtual 85, 3) := by decide +kernel
theorem dX2_allGuesses_12 : decode cX2_allGuesses 12 = .ok (.iinc 1 1, 3) := by decide +kernel
theorem dX2_allGuesses_15 : decode cX2_allGuesses 15 = .ok (.goto (-13), 3) := by decide +kernel
theorem dX2_allGuesses_18 : decode cX2_allGuesses 18 = .ok (.return_, 1) := by decide +kernel
set_option maxRecDepth 20000 in
theorem ggX2_cost_X2_isIn : GoodIn wsX2_cost wsX2_isIn := goodIn_r _ [5] (by decide +kernel) (by decide +kernel)
set_option maxRecDepth 20000 in
theorem gX2_cost_X2_isIn : GoodIn wsX2_cost (va_wsS RX2 47 yX2_isIn wsX2_isIn) := goodIn_app (goodIn_of _ (by decide +kernel)) ggX2_cost_X2_isIn
set_option maxRecDepth 20000 in
theorem ggX2_cost_X2_allGuesses : GoodIn wsX2_cost wsX2_allGuesses := goodIn_r _ [9, 10, 11, 12, 4, 13, 14, 15, 16, 17, 18, 19, 20, 21, 22, 23, 24, 25, 26, 27, 28, 29, 30, 31, 32, 33, 34, 35, 36, 37, 38, 39, 40, 41, 42, 43, 57, 58, 59, 60, 61, 62, 63, 64, 65, 66, 67, 68] (by decide +kernel) (by decide +kernel)
set_option maxRecDepth 20000 in
theorem gX2_cost_X2_allGuesses : GoodIn wsX2_cost (wsV RX2 103 RX2 yX2_allGuesses wsX2_allGuesses) := goodIn_app (goodIn_of _ (by decide +kernel)) ggX2_cost_X2_allGuesses
set_option maxRecDepth 20000 in
theorem ggX2_cost_X2_costOf : GoodIn wsX2_cost wsX2_costOf := goodIn_r _ [47, 48, 49, 50, 4, 51, 52, 53, 54, 55, 56, 14, 57, 58, 59, 60, 61, 62, 63, 64, 65, 66, 67, 68] (by decide +kernel) (by decide +kernel)
set_option maxRecDepth 20000 in
theorem gX2_cost_X2_costOf : GoodIn wsX2_cost (wsV RX2 106 RX2 yX2_costOf wsX2_costOf) := goodIn_app (goodIn_of _ (by decide +kernel)) ggX2_cost_X2_costOf
theorem dX2_cost_0 : decode cX2_cost 0 = .ok (.iload_n 1, 1) := by decide +kernel
theorem dX2_cost_1 : decode cX2_cost 1 = .ok (.iconst 0, 1) := by decide +kernel
theorem dX2_cost_2 : decode cX2_cost 2 = .ok (.iconst 5, 1) := by decide +kernel
theorem dX2_cost_3 : decode cX2_cost 3 = .ok (.invokestatic 47, 3) := by decide +kernel
theorem dX2_cost_6 : decode cX2_cost 6 = .ok (.ifCond .ne 7, 3) := by decide +kernel
theorem dX2_cost_9 : decode cX2_cost 9 = .ok (.ldc2_w 88, 3) := by decide +kernel
theorem dX2_cost_12 : decode cX2_cost 12 = .ok (.lreturn, 1) := by decide +kernel
theorem dX2_cost_13 : decode cX2_cost 13 = .ok (.aload_n 0, 1) := by decide +kernel
theorem dX2_cost_14 : decode cX2_cost 14 = .ok (.invokevirtual 103, 3) := by decide +kernel
theorem dX2_cost_17 : decode cX2_cost 17 = .ok (.aload_n 0, 1) := by decide +kernel
theorem dX2_cost_18 : decode cX2_cost 18 = .ok (.iload_n 1, 1) := by decide +kernel
theorem dX2_cost_19 : decode cX2_cost 19 = .ok (.iload_n 2, 1) := by decide +kernel
theorem dX2_cost_20 : decode cX2_cost 20 = .ok (.invokevirtual 106, 3) := by decide +kernel
theorem dX2_cost_23 : decode cX2_cost 23 = .ok (.lreturn, 1) := by decide +kernel
set_option maxRecDepth 20000 in
theorem ggX2_plan_X2_allGuesses : GoodIn wsX2_plan wsX2_allGuesses := goodIn_r _ [5, 6, 7, 8, 4, 9, 10, 11, 12, 13, 14, 15, 16, 17, 18, 19, 20, 21, 22, 23, 24, 25, 26, 27, 28, 29, 30, 31, 32, 33, 34, 35, 36, 37, 38, 39, 53, 54, 55, 56, 57, 58, 59, 60, 61, 62, 63, 64] (by decide +kernel) (by decide +kernel)
set_option maxRecDepth 20000 in
theorem gX2_plan_X2_allGuesses : GoodIn wsX2_plan (wsV RX2 103 RX2 yX2_allGuesses wsX2_allGuesses) := goodIn_app (goodIn_of _ (by decide +kernel)) ggX2_plan_X2_allGuesses
set_option maxRecDepth 20000 in
theorem ggX2_plan_X2_costOf : GoodIn wsX2_plan wsX2_costOf := goodIn_r _ [43, 44, 45, 46, 4, 47, 48, 49, 50, 51, 52, 10, 53, 54, 55, 56, 57, 58, 59, 60, 61, 62, 63, 64] (by decide +kernel) (by decide +kernel)
set_option maxRecDepth 20000 in
theorem gX2_plan_X2_costOf : GoodIn wsX2_plan (wsV RX2 106 RX2 yX2_costOf wsX2_costOf) := goodIn_app (goodIn_of _ (by decide +kernel)) ggX2_plan_X2_costOf
theorem dX2_plan_0 : decode cX2_plan 0 = .ok (.aload_n 0, 1) := by decide +kernel
theorem dX2_plan_1 : decode cX2_plan 1 = .ok (.invokevirtual 103, 3) := by decide +kernel
theorem dX2_plan_4 : decode cX2_plan 4 = .ok (.iconst 0, 1) := by decide +kernel
theorem dX2_plan_5 : decode cX2_plan 5 = .ok (.istore_n 2, 1) := by decide +kernel
theorem dX2_plan_6 : decode cX2_plan 6 = .ok (.iconst 1, 1) := by decide +kernel
theorem dX2_plan_7 : decode cX2_plan 7 = .ok (.istore_n 3, 1) := by decide +kernel
theorem dX2_plan_8 : decode cX2_plan 8 = .ok (.iload_n 3, 1) := by decide +kernel
theorem dX2_plan_9 : decode cX2_plan 9 = .ok (.bipush 6, 2) := by decide +kernel
theorem dX2_plan_11 : decode cX2_plan 11 = .ok (.if_icmp .ge 27, 3) := by decide +kernel
theorem dX2_plan_14 : decode cX2_plan 14 = .ok (.aload_n 0, 1) := by decide +kernel
theorem dX2_plan_15 : decode cX2_plan 15 = .ok (.iload_n 3, 1) := by decide +kernel
theorem dX2_plan_16 : decode cX2_plan 16 = .ok (.iload_n 1, 1) := by decide +kernel
theorem dX2_plan_17 : decode cX2_plan 17 = .ok (.invokevirtual 106, 3) := by decide +kernel
theorem dX2_plan_20 : decode cX2_plan 20 = .ok (.aload_n 0, 1) := by decide +kernel
theorem dX2_plan_21 : decode cX2_plan 21 = .ok (.iload_n 2, 1) := by decide +kernel
theorem dX2_plan_22 : decode cX2_plan 22 = .ok (.iload_n 1, 1) := by decide +kernel
theorem dX2_plan_23 : decode cX2_plan 23 = .ok (.invokevirtual 106, 3) := by decide +kernel
theorem dX2_plan_26 : decode cX2_plan 26 = .ok (.lcmp, 1) := by decide +kernel
theorem dX2_plan_27 : decode cX2_plan 27 = .ok (.ifCond .ge 5, 3) := by decide +kernel
theorem dX2_plan_30 : decode cX2_plan 30 = .ok (.iload_n 3, 1) := by decide +kernel
theorem dX2_plan_31 : decode cX2_plan 31 = .ok (.istore_n 2, 1) := by decide +kernel
theorem dX2_plan_32 : decode cX2_plan 32 = .ok (.iinc 3 1, 3) := by decide +kernel
theorem dX2_plan_35 : decode cX2_plan 35 = .ok (.goto (-27), 3) := by decide +kernel
theorem dX2_plan_38 : decode cX2_plan 38 = .ok (.iload_n 2, 1) := by decide +kernel
theorem dX2_plan_39 : decode cX2_plan 39 = .ok (.ireturn, 1) := by decide +kernel
set_option maxRecDepth 20000 in
theorem ggX2_lost_X2_plan : GoodIn wsX2_lost wsX2_plan := goodIn_r _ [5, 6, 7, 8, 4, 9, 10, 11, 12, 13, 14, 15, 16, 17, 18, 19, 20, 21, 22, 23, 24, 25, 26, 27, 28, 29, 30, 31, 32, 33, 34, 35, 36, 37, 38, 39, 40, 41, 42, 43, 44, 45, 46, 47, 48, 49, 50, 51, 52, 53, 54, 55, 56, 57, 58, 59, 60, 61, 62, 63, 64, 65, 66, 67, 68] (by decide +kernel) (by decide +kernel)
set_option maxRecDepth 20000 in
theorem gX2_lost_X2_plan : GoodIn wsX2_lost (wsV RX2 110 RX2 yX2_plan wsX2_plan) := goodIn_app (goodIn_of _ (by decide +kernel)) ggX2_lost_X2_plan
set_option maxRecDepth 20000 in
theorem ggX2_lost_X2_costOf : GoodIn wsX2_lost wsX2_costOf := goodIn_r _ [47, 48, 49, 50, 4, 51, 52, 53, 54, 55, 56, 14, 57, 58, 59, 60, 61, 62, 63, 64, 65, 66, 67, 68] (by decide +kernel) (by decide +kernel)
set_option maxRecDepth 20000 in
theorem gX2_lost_X2_costOf : GoodIn wsX2_lost (wsV RX2 106 RX2 yX2_costOf wsX2_costOf) := goodIn_app (goodIn_of _ (by decide +kernel)) ggX2_lost_X2_costOf
theorem dX2_lost_0 : decode cX2_lost 0 = .ok (.aload_n 0, 1) := by decide +kernel
theorem dX2_lost_1 : decode cX2_lost 1 = .ok (.iconst 0, 1) := by decide +kernel
theorem dX2_lost_2 : decode cX2_lost 2 = .ok (.invokevirtual 110, 3) := by decide +kernel
theorem dX2_lost_5 : decode cX2_lost 5 = .ok (.istore_n 1, 1) := by decide +kernel
theorem dX2_lost_6 : decode cX2_lost 6 = .ok (.aload_n 0, 1) := by decide +kernel
theorem dX2_lost_7 : decode cX2_lost 7 = .ok (.iconst 1, 1) := by decide +kernel
theorem dX2_lost_8 : decode cX2_lost 8 = .ok (.invokevirtual 110, 3) := by decide +kernel
theorem dX2_lost_11 : decode cX2_lost 11 = .ok (.istore_n 2, 1) := by decide +kernel
theorem dX2_lost_12 : decode cX2_lost 12 = .ok (.aload_n 0, 1) := by decide +kernel
theorem dX2_lost_13 : decode cX2_lost 13 = .ok (.iload_n 1, 1) := by decide +kernel
theorem dX2_lost_14 : decode cX2_lost 14 = .ok (.iconst 1, 1) := by decide +kernel
theorem dX2_lost_15 : decode cX2_lost 15 = .ok (.invokevirtual 106, 3) := by decide +kernel
theorem dX2_lost_18 : decode cX2_lost 18 = .ok (.aload_n 0, 1) := by decide +kernel
theorem dX2_lost_19 : decode cX2_lost 19 = .ok (.iload_n 2, 1) := by decide +kernel
theorem dX2_lost_20 : decode cX2_lost 20 = .ok (.iconst 1, 1) := by decide +kernel
theorem dX2_lost_21 : decode cX2_lost 21 = .ok (.invokevirtual 106, 3) := by decide +kernel
theorem dX2_lost_24 : decode cX2_lost 24 = .ok (.lsub, 1) := by decide +kernel
theorem dX2_lost_25 : decode cX2_lost 25 = .ok (.lreturn, 1) := by decide +kernel
set_option maxRecDepth 20000 in
theorem ggX2_many_X2_closes : GoodIn wsX2_many wsX2_closes := goodIn_r _ [7, 8, 9, 10, 1, 11, 2, 12, 13, 14, 15, 16, 17, 18, 19, 20, 21, 22, 23, 24, 25, 6, 26, 27, 28, 29, 30, 31, 32, 33, 34, 35, 36, 37, 38, 39, 40, 41, 42] (by decide +kernel) (by decide +kernel)
set_option maxRecDepth 20000 in
theorem gX2_many_X2_closes : GoodIn wsX2_many (wsV RX2 81 RX2 yX2_closes wsX2_closes) := goodIn_app (goodIn_of _ (by decide +kernel)) ggX2_many_X2_closes
theorem dX2_many_0 : decode cX2_many 0 = .ok (.aload_n 0, 1) := by decide +kernel
theorem dX2_many_1 : decode cX2_many 1 = .ok (.iload_n 1, 1) := by decide +kernel
theorem dX2_many_2 : decode cX2_many 2 = .ok (.invokevirtual 81, 3) := by decide +kernel
theorem dX2_many_5 : decode cX2_many 5 = .ok (.iconst 0, 1) := by decide +kernel
theorem dX2_many_6 : decode cX2_many 6 = .ok (.istore_n 3, 1) := by decide +kernel
theorem dX2_many_7 : decode cX2_many 7 = .ok (.bipush 40, 2) := by decide +kernel
theorem dX2_many_9 : decode cX2_many 9 = .ok (.iload_n 1, 1) := by decide +kernel
theorem dX2_many_10 : decode cX2_many 10 = .ok (.imul, 1) := by decide +kernel
theorem dX2_many_11 : decode cX2_many 11 = .ok (.istore 4, 2) := by decide +kernel
theorem dX2_many_13 : decode cX2_many 13 = .ok (.iload 4, 2) := by decide +kernel
theorem dX2_many_15 : decode cX2_many 15 = .ok (.bipush 40, 2) := by decide +kernel
theorem dX2_many_17 : decode cX2_many 17 = .ok (.iload_n 1, 1) := by decide +kernel
theorem dX2_many_18 : decode cX2_many 18 = .ok (.imul, 1) := by decide +kernel
theorem dX2_many_19 : decode cX2_many 19 = .ok (.aload_n 0, 1) := by decide +kernel
theorem dX2_many_20 : decode cX2_many 20 = .ok (.getfield 13, 3) := by decide +kernel
theorem dX2_many_23 : decode cX2_many 23 = .ok (.iload_n 1, 1) := by decide +kernel
theorem dX2_many_24 : decode cX2_many 24 = .ok (.iaload, 1) := by decide +kernel
theorem dX2_many_25 : decode cX2_many 25 = .ok (.iadd, 1) := by decide +kernel
theorem dX2_many_26 : decode cX2_many 26 = .ok (.if_icmp .ge 28, 3) := by decide +kernel
theorem dX2_many_29 : decode cX2_many 29 = .ok (.iload_n 3, 1) := by decide +kernel
theorem dX2_many_30 : decode cX2_many 30 = .ok (.aload_n 0, 1) := by decide +kernel
theorem dX2_many_31 : decode cX2_many 31 = .ok (.getfield 31, 3) := by decide +kernel
theorem dX2_many_34 : decode cX2_many 34 = .ok (.iload 4, 2) := by decide +kernel
theorem dX2_many_36 : decode cX2_many 36 = .ok (.iaload, 1) := by decide +kernel
theorem dX2_many_37 : decode cX2_many 37 = .ok (.iload_n 2, 1) := by decide +kernel
theorem dX2_many_38 : decode cX2_many 38 = .ok (.if_icmp .ne 7, 3) := by decide +kernel
theorem dX2_many_41 : decode cX2_many 41 = .ok (.iconst 1, 1) := by decide +kernel
theorem dX2_many_42 : decode cX2_many 42 = .ok (.goto 4, 3) := by decide +kernel
theorem dX2_many_45 : decode cX2_many 45 = .ok (.iconst 0, 1) := by decide +kernel
theorem dX2_many_46 : decode cX2_many 46 = .ok (.iadd, 1) := by decide +kernel
theorem dX2_many_47 : decode cX2_many 47 = .ok (.istore_n 3, 1) := by decide +kernel
theorem dX2_many_48 : decode cX2_many 48 = .ok (.iinc 4 1, 3) := by decide +kernel
theorem dX2_many_51 : decode cX2_many 51 = .ok (.goto (-38), 3) := by decide +kernel
theorem dX2_many_54 : decode cX2_many 54 = .ok (.iload_n 3, 1) := by decide +kernel
theorem dX2_many_55 : decode cX2_many 55 = .ok (.ireturn, 1) := by decide +kernel
set_option maxRecDepth 20000 in
theorem ggX2_table_X2_isTable : GoodIn wsX2_table wsX2_isTable := goodIn_r _ [7, 8, 9, 6, 10] (by decide +kernel) (by decide +kernel)
set_option maxRecDepth 20000 in
theorem gX2_table_X2_isTable : GoodIn wsX2_table (va_wsS RX2 51 yX2_isTable wsX2_isTable) := goodIn_app (goodIn_of _ (by decide +kernel)) ggX2_table_X2_isTable
set_option maxRecDepth 20000 in
theorem ggX2_table_X2_many : GoodIn wsX2_table wsX2_many := goodIn_r _ [14, 2, 15, 16, 17, 18, 6, 19, 20, 21, 1, 3, 22, 23, 24, 25, 26, 27, 28, 29, 30, 31, 32, 33, 34, 35, 36, 37, 38, 39, 40, 41, 42, 43, 44, 45, 46, 47, 48, 49, 50, 51, 52] (by decide +kernel) (by decide +kernel)
set_option maxRecDepth 20000 in
theorem gX2_table_X2_many : GoodIn wsX2_table (wsV RX2 114 RX2 yX2_many wsX2_many) := goodIn_app (goodIn_of _ (by decide +kernel)) ggX2_table_X2_many
theorem dX2_table_0 : decode cX2_table 0 = .ok (.iload_n 1, 1) := by decide +kernel
theorem dX2_table_1 : decode cX2_table 1 = .ok (.invokestatic 51, 3) := by decide +kernel
theorem dX2_table_4 : decode cX2_table 4 = .ok (.ifCond .ne 5, 3) := by decide +kernel
theorem dX2_table_7 : decode cX2_table 7 = .ok (.iconst (-1), 1) := by decide +kernel
theorem dX2_table_8 : decode cX2_table 8 = .ok (.ireturn, 1) := by decide +kernel
theorem dX2_table_9 : decode cX2_table 9 = .ok (.iload_n 2, 1) := by decide +kernel
theorem dX2_table_10 : decode cX2_table 10 = .ok (.tableswitch 80 0 5 #[38, 45, 52, 59, 66, 73], 38) := by decide +kernel
theorem dX2_table_48 : decode cX2_table 48 = .ok (.aload_n 0, 1) := by decide +kernel
theorem dX2_table_49 : decode cX2_table 49 = .ok (.getfield 7, 3) := by decide +kernel
theorem dX2_table_52 : decode cX2_table 52 = .ok (.iload_n 1, 1) := by decide +kernel
theorem dX2_table_53 : decode cX2_table 53 = .ok (.iaload, 1) := by decide +kernel
theorem dX2_table_54 : decode cX2_table 54 = .ok (.ireturn, 1) := by decide +kernel
theorem dX2_table_55 : decode cX2_table 55 = .ok (.aload_n 0, 1) := by decide +kernel
theorem dX2_table_56 : decode cX2_table 56 = .ok (.getfield 13, 3) := by decide +kernel
theorem dX2_table_59 : decode cX2_table 59 = .ok (.iload_n 1, 1) := by decide +kernel
theorem dX2_table_60 : decode cX2_table 60 = .ok (.iaload, 1) := by decide +kernel
theorem dX2_table_61 : decode cX2_table 61 = .ok (.ireturn, 1) := by decide +kernel
theorem dX2_table_62 : decode cX2_table 62 = .ok (.aload_n 0, 1) := by decide +kernel
theorem dX2_table_63 : decode cX2_table 63 = .ok (.iload_n 1, 1) := by decide +kernel
theorem dX2_table_64 : decode cX2_table 64 = .ok (.iconst 0, 1) := by decide +kernel
theorem dX2_table_65 : decode cX2_table 65 = .ok (.invokevirtual 114, 3) := by decide +kernel
theorem dX2_table_68 : decode cX2_table 68 = .ok (.ireturn, 1) := by decide +kernel
theorem dX2_table_69 : decode cX2_table 69 = .ok (.aload_n 0, 1) := by decide +kernel
theorem dX2_table_70 : decode cX2_table 70 = .ok (.iload_n 1, 1) := by decide +kernel
theorem dX2_table_71 : decode cX2_table 71 = .ok (.iconst 1, 1) := by decide +kernel
theorem dX2_table_72 : decode cX2_table 72 = .ok (.invokevirtual 114, 3) := by decide +kernel
theorem dX2_table_75 : decode cX2_table 75 = .ok (.ireturn, 1) := by decide +kernel
theorem dX2_table_76 : decode cX2_table 76 = .ok (.aload_n 0, 1) := by decide +kernel
theorem dX2_table_77 : decode cX2_table 77 = .ok (.iload_n 1, 1) := by decide +kernel
theorem dX2_table_78 : decode cX2_table 78 = .ok (.iconst 2, 1) := by decide +kernel
theorem dX2_table_79 : decode cX2_table 79 = .ok (.invokevirtual 114, 3) := by decide +kernel
theorem dX2_table_82 : decode cX2_table 82 = .ok (.ireturn, 1) := by decide +kernel
theorem dX2_table_83 : decode cX2_table 83 = .ok (.aload_n 0, 1) := by decide +kernel
theorem dX2_table_84 : decode cX2_table 84 = .ok (.getfield 16, 3) := by decide +kernel
theorem dX2_table_87 : decode cX2_table 87 = .ok (.iload_n 1, 1) := by decide +kernel
theorem dX2_table_88 : decode cX2_table 88 = .ok (.iaload, 1) := by decide +kernel
theorem dX2_table_89 : decode cX2_table 89 = .ok (.ireturn, 1) := by decide +kernel
theorem dX2_table_90 : decode cX2_table 90 = .ok (.iconst (-1), 1) := by decide +kernel
theorem dX2_table_91 : decode cX2_table 91 = .ok (.ireturn, 1) := by decide +kernel
theorem dJ9_max_7cf53_0 : decode cJ9_max_7cf53 0 = .ok (.iload_n 0, 1) := by decide +kernel
theorem dJ9_max_7cf53_1 : decode cJ9_max_7cf53 1 = .ok (.iload_n 1, 1) := by decide +kernel
theorem dJ9_max_7cf53_2 : decode cJ9_max_7cf53 2 = .ok (.if_icmp .lt 7, 3) := by decide +kernel
theorem dJ9_max_7cf53_5 : decode cJ9_max_7cf53 5 = .ok (.iload_n 0, 1) := by decide +kernel
theorem dJ9_max_7cf53_6 : decode cJ9_max_7cf53 6 = .ok (.goto 4, 3) := by decide +kernel
theorem dJ9_max_7cf53_9 : decode cJ9_max_7cf53 9 = .ok (.iload_n 1, 1) := by decide +kernel
theorem dJ9_max_7cf53_10 : decode cJ9_max_7cf53 10 = .ok (.ireturn, 1) := by decide +kernel
theorem dJ9_min_7cf53_0 : decode cJ9_min_7cf53 0 = .ok (.iload_n 0, 1) := by decide +kernel
theorem dJ9_min_7cf53_1 : decode cJ9_min_7cf53 1 = .ok (.iload_n 1, 1) := by decide +kernel
theorem dJ9_min_7cf53_2 : decode cJ9_min_7cf53 2 = .ok (.if_icmp .gt 7, 3) := by decide +kernel
theorem dJ9_min_7cf53_5 : decode cJ9_min_7cf53 5 = .ok (.iload_n 0, 1) := by decide +kernel
theorem dJ9_min_7cf53_6 : decode cJ9_min_7cf53 6 = .ok (.goto 4, 3) := by decide +kernel
theorem dJ9_min_7cf53_9 : decode cJ9_min_7cf53 9 = .ok (.iload_n 1, 1) := by decide +kernel
theorem dJ9_min_7cf53_10 : decode cJ9_min_7cf53 10 = .ok (.ireturn, 1) := by decide +kernel
theorem dJ7_fill_53178_0 : decode cJ7_fill_53178 0 = .ok (.iconst 0, 1) := by decide +kernel
theorem dJ7_fill_53178_1 : decode cJ7_fill_53178 1 = .ok (.istore_n 2, 1) := by decide +kernel
theorem dJ7_fill_53178_2 : decode cJ7_fill_53178 2 = .ok (.aload_n 0, 1) := by decide +kernel
theorem dJ7_fill_53178_3 : decode cJ7_fill_53178 3 = .ok (.arraylength, 1) := by decide +kernel
theorem dJ7_fill_53178_4 : decode cJ7_fill_53178 4 = .ok (.istore_n 3, 1) := by decide +kernel
theorem dJ7_fill_53178_5 : decode cJ7_fill_53178 5 = .ok (.iload_n 2, 1) := by decide +kernel
theorem dJ7_fill_53178_6 : decode cJ7_fill_53178 6 = .ok (.iload_n 3, 1) := by decide +kernel
theorem dJ7_fill_53178_7 : decode cJ7_fill_53178 7 = .ok (.if_icmp .ge 13, 3) := by decide +kernel
theorem dJ7_fill_53178_10 : decode cJ7_fill_53178 10 = .ok (.aload_n 0, 1) := by decide +kernel
theorem dJ7_fill_53178_11 : decode cJ7_fill_53178 11 = .ok (.iload_n 2, 1) := by decide +kernel
theorem dJ7_fill_53178_12 : decode cJ7_fill_53178 12 = .ok (.iload_n 1, 1) := by decide +kernel
theorem dJ7_fill_53178_13 : decode cJ7_fill_53178 13 = .ok (.iastore, 1) := by decide +kernel
theorem dJ7_fill_53178_14 : decode cJ7_fill_53178 14 = .ok (.iinc 2 1, 3) := by decide +kernel
theorem dJ7_fill_53178_17 : decode cJ7_fill_53178 17 = .ok (.goto (-12), 3) := by decide +kernel
theorem dJ7_fill_53178_20 : decode cJ7_fill_53178 20 = .ok (.return_, 1) := by decide +kernel
set_option maxRecDepth 20000 in
theorem ggL_law_X1_init : GoodIn wsL_law wsX1_init := goodIn_r _ [8, 9, 10, 11, 12, 13, 14, 15, 16, 17, 18, 19, 20, 21, 22, 23, 24, 25, 26, 27, 28, 29, 30, 31, 32, 33, 365, 378, 379, 380, 381, 382, 383, 384, 385, 386, 387, 388, 389, 390, 391] (by decide +kernel) (by decide +kernel)
set_option maxRecDepth 20000 in
theorem gL_law_X1_init : GoodIn wsL_law (wsX1_init) := ggL_law_X1_init
set_option maxRecDepth 20000 in
theorem ggL_law_X2_init : GoodIn wsL_law wsX2_init := goodIn_r _ [36, 37, 10, 11, 22, 38, 39, 40, 41, 42, 43, 44, 45, 46, 47, 48, 49, 366, 367, 368, 369, 370, 371, 372, 373, 374, 375, 376, 377] (by decide +kernel) (by decide +kernel)
set_option maxRecDepth 20000 in
theorem gL_law_X2_init : GoodIn wsL_law (wsX2_init) := ggL_law_X2_init
set_option maxRecDepth 20000 in
theorem ggL_law_X1_rows : GoodIn wsL_law wsX1_rows := goodIn_r _ [53, 54, 55, 56, 57, 2, 58, 13, 59, 60, 61, 15, 62, 19, 20, 63, 64, 65, 66, 32, 33, 365, 378, 379, 380, 381, 382, 383, 384, 385, 386, 387, 388, 389, 390, 391] (by decide +kernel) (by decide +kernel)
set_option maxRecDepth 20000 in
theorem gL_law_X1_rows : GoodIn wsL_law (wsV RL 13 RX1 yX1_rows wsX1_rows) := goodIn_app (goodIn_of _ (by decide +kernel)) ggL_law_X1_rows
set_option maxRecDepth 20000 in
theorem ggL_law_X2_rows : GoodIn wsL_law wsX2_rows := goodIn_r _ [70, 71, 48, 38, 39, 72, 73, 5, 74, 75, 76, 77, 366, 367, 368, 369, 370, 371, 372, 373, 374, 375, 376, 377] (by decide +kernel) (by decide +kernel)
set_option maxRecDepth 20000 in
theorem gL_law_X2_rows : GoodIn wsL_law (wsV RL 17 RX2 yX2_rows wsX2_rows) := goodIn_app (goodIn_of _ (by decide +kernel)) ggL_law_X2_rows
set_option maxRecDepth 20000 in
theorem ggL_law_X1_put : GoodIn wsL_law wsX1_put := goodIn_r _ [81, 54, 82, 55, 56, 57, 2, 58, 13, 83, 84, 85, 15, 86, 19, 20, 26, 87, 88, 89, 90, 91, 92, 63, 64, 65, 66, 32, 33, 378, 379, 380, 381, 382, 383, 384, 385, 386, 387, 388, 389, 390, 391, 365] (by decide +kernel) (by decide +kernel)
set_option maxRecDepth 20000 in
theorem gL_law_X1_put : GoodIn wsL_law (wsV RL 18 RX1 yX1_put wsX1_put) := goodIn_app (goodIn_of _ (by decide +kernel)) ggL_law_X1_put
set_option maxRecDepth 20000 in
theorem ggL_law_X2_put : GoodIn wsL_law wsX2_put := goodIn_r _ [96, 71, 38, 48, 39, 44, 97, 98, 90, 91, 92, 72, 73, 5, 74, 75, 76, 77, 366, 367, 368, 369, 370, 371, 372, 373, 374, 375, 376, 377] (by decide +kernel) (by decide +kernel)
set_option maxRecDepth 20000 in
theorem gL_law_X2_put : GoodIn wsL_law (wsV RL 22 RX2 yX2_put wsX2_put) := goodIn_app (goodIn_of _ (by decide +kernel)) ggL_law_X2_put
set_option maxRecDepth 20000 in
theorem ggL_law_X1_strike : GoodIn wsL_law wsX1_strike := goodIn_r _ [102, 82, 55, 56, 57, 2, 58, 13, 103, 104, 105, 15, 106, 19, 20, 25, 107, 108, 91, 109, 63, 64, 65, 66, 32, 33, 378, 379, 380, 381, 382, 383, 384, 385, 386, 387, 388, 389, 390, 391, 365] (by decide +kernel) (by decide +kernel)
set_option maxRecDepth 20000 in
theorem gL_law_X1_strike : GoodIn wsL_law (wsV RL 23 RX1 yX1_strike wsX1_strike) := goodIn_app (goodIn_of _ (by decide +kernel)) ggL_law_X1_strike
set_option maxRecDepth 20000 in
theorem ggL_law_X2_strike : GoodIn wsL_law wsX2_strike := goodIn_r _ [113, 38, 48, 39, 43, 114, 108, 91, 109, 72, 73, 5, 74, 75, 76, 77, 366, 367, 368, 369, 370, 371, 372, 373, 374, 375, 376, 377] (by decide +kernel) (by decide +kernel)
set_option maxRecDepth 20000 in
theorem gL_law_X2_strike : GoodIn wsL_law (wsV RL 26 RX2 yX2_strike wsX2_strike) := goodIn_app (goodIn_of _ (by decide +kernel)) ggL_law_X2_strike
set_option maxRecDepth 20000 in
theorem ggL_law_X1_sight : GoodIn wsL_law wsX1_sight := goodIn_r _ [118, 82, 119, 55, 56, 57, 2, 58, 13, 120, 121, 122, 123, 124, 125, 15, 126, 20, 23, 24, 25, 26, 63, 64, 65, 66, 32, 33, 378, 379, 380, 381, 382, 383, 384, 385, 386, 387, 388, 389, 390, 391, 365] (by decide +kernel) (by decide +kernel)
set_option maxRecDepth 20000 in
theorem gL_law_X1_sight : GoodIn wsL_law (wsV RL 27 RX1 yX1_sight wsX1_sight) := goodIn_app (goodIn_of _ (by decide +kernel)) ggL_law_X1_sight
set_option maxRecDepth 20000 in
theorem ggL_law_X2_sight : GoodIn wsL_law wsX2_sight := goodIn_r _ [130, 38, 39, 41, 42, 43, 44, 97, 48, 72, 73, 5, 74, 75, 76, 77, 131, 132, 133, 366, 367, 368, 369, 370, 371, 372, 373, 374, 375, 376, 377] (by decide +kernel) (by decide +kernel)
set_option maxRecDepth 20000 in
theorem gL_law_X2_sight : GoodIn wsL_law (wsV RL 31 RX2 yX2_sight wsX2_sight) := goodIn_app (goodIn_of _ (by decide +kernel)) ggL_law_X2_sight
set_option maxRecDepth 20000 in
theorem ggL_law_X1_begins : GoodIn wsL_law wsX1_begins := goodIn_r _ [137, 138, 139, 2, 140, 141, 116, 117, 118, 82, 119, 55, 56, 57, 58, 13, 120, 121, 122, 123, 124, 125, 15, 126, 20, 23, 24, 25, 26, 63, 64, 65, 66, 32, 33, 378, 379, 380, 381, 382, 383, 384, 385, 386, 387, 388, 389, 390, 391, 365] (by decide +kernel) (by decide +kernel)
set_option maxRecDepth 20000 in
theorem gL_law_X1_begins : GoodIn wsL_law (wsV RL 32 RX1 yX1_begins wsX1_begins) := goodIn_app (goodIn_of _ (by decide +kernel)) ggL_law_X1_begins
set_option maxRecDepth 20000 in
theorem ggL_law_X2_begins : GoodIn wsL_law wsX2_begins := goodIn_r _ [145, 75, 76, 5, 77, 146, 128, 129, 130, 38, 39, 41, 42, 43, 44, 97, 48, 72, 73, 74, 131, 132, 133, 366, 367, 368, 369, 370, 371, 372, 373, 374, 375, 376, 377] (by decide +kernel) (by decide +kernel)
set_option maxRecDepth 20000 in
theorem gL_law_X2_begins : GoodIn wsL_law (wsV RL 36 RX2 yX2_begins wsX2_begins) := goodIn_app (goodIn_of _ (by decide +kernel)) ggL_law_X2_begins
set_option maxRecDepth 20000 in
theorem ggL_law_X1_room : GoodIn wsL_law wsX1_room := goodIn_r _ [150, 55, 56, 57, 2, 58, 13, 151, 152, 153, 15, 154, 21, 63, 64, 65, 66, 32, 33, 365, 378, 379, 380, 381, 382, 383, 384, 385, 386, 387, 388, 389, 390, 391] (by decide +kernel) (by decide +kernel)
set_option maxRecDepth 20000 in
theorem gL_law_X1_room : GoodIn wsL_law (wsV RL 37 RX1 yX1_room wsX1_room) := goodIn_app (goodIn_of _ (by decide +kernel)) ggL_law_X1_room
set_option maxRecDepth 20000 in
theorem ggL_law_X2_room : GoodIn wsL_law wsX2_room := goodIn_r _ [158, 48, 40, 72, 73, 5, 74, 75, 76, 77, 366, 367, 368, 369, 370, 371, 372, 373, 374, 375, 376, 377] (by decide +kernel) (by decide +kernel)
set_option maxRecDepth 20000 in
theorem gL_law_X2_room : GoodIn wsL_law (wsV RL 40 RX2 yX2_room wsX2_room) := goodIn_app (goodIn_of _ (by decide +kernel)) ggL_law_X2_room
set_option maxRecDepth 20000 in
theorem ggL_law_X1_sightOf : GoodIn wsL_law wsX1_sightOf := goodIn_r _ [162, 163, 164, 165, 166, 167, 168, 55, 56, 57, 2, 58, 13, 169, 170, 171, 15, 172, 32, 27, 30, 19, 20, 21, 107, 108, 91, 109, 173, 174, 175, 176, 177, 178, 179, 180, 23, 24, 25, 26, 31, 181, 182, 183, 184, 185, 186, 187, 188, 189, 190, 191, 378, 379, 380, 381, 382, 383, 384, 385, 386, 387, 388, 389, 390, 391, 365] (by decide +kernel) (by decide +kernel)
set_option maxRecDepth 20000 in
theorem gL_law_X1_sightOf : GoodIn wsL_law (wsV RL 41 RX1 yX1_sightOf wsX1_sightOf) := goodIn_app (goodIn_of _ (by decide +kernel)) ggL_law_X1_sightOf
set_option maxRecDepth 20000 in
theorem ggL_law_X2_sightOf : GoodIn wsL_law wsX2_sightOf := goodIn_r _ [195, 39, 41, 42, 43, 44, 45, 72, 73, 5, 74, 75, 76, 77, 196, 197, 198, 199, 48, 47, 38, 40, 114, 108, 91, 109, 98, 90, 92, 200, 201, 202, 203, 204, 205, 206, 207, 366, 367, 368, 369, 370, 371, 372, 373, 374, 375, 376, 377] (by decide +kernel) (by decide +kernel)
set_option maxRecDepth 20000 in
theorem gL_law_X2_sightOf : GoodIn wsL_law (wsV RL 45 RX2 yX2_sightOf wsX2_sightOf) := goodIn_app (goodIn_of _ (by decide +kernel)) ggL_law_X2_sightOf
set_option maxRecDepth 20000 in
theorem ggL_law_X1_least : GoodIn wsL_law wsX1_least := goodIn_r _ [211, 55, 56, 57, 2, 58, 13, 120, 121, 122, 212, 213, 214, 15, 215, 31, 19, 216, 170, 171, 172, 32, 27, 30, 20, 21, 107, 108, 91, 109, 173, 174, 175, 176, 177, 178, 179, 180, 23, 24, 25, 26, 181, 182, 183, 184, 185, 186, 187, 188, 189, 190, 191, 365, 378, 379, 380, 381, 382, 383, 384, 385, 386, 387, 388, 389, 390, 391] (by decide +kernel) (by decide +kernel)
set_option maxRecDepth 20000 in
theorem gL_law_X1_least : GoodIn wsL_law (wsV RL 46 RX1 yX1_least wsX1_least) := goodIn_app (goodIn_of _ (by decide +kernel)) ggL_law_X1_least
set_option maxRecDepth 20000 in
theorem ggL_law_X2_least : GoodIn wsL_law wsX2_least := goodIn_r _ [220, 72, 73, 5, 74, 75, 76, 77, 131, 132, 133, 196, 197, 198, 199, 48, 47, 38, 39, 40, 45, 43, 42, 41, 114, 108, 91, 109, 44, 98, 90, 92, 200, 201, 202, 203, 204, 205, 206, 207, 366, 367, 368, 369, 370, 371, 372, 373, 374, 375, 376, 377] (by decide +kernel) (by decide +kernel)
set_option maxRecDepth 20000 in
theorem gL_law_X2_least : GoodIn wsL_law (wsV RL 49 RX2 yX2_least wsX2_least) := goodIn_app (goodIn_of _ (by decide +kernel)) ggL_law_X2_least
set_option maxRecDepth 20000 in
theorem ggL_law_X1_greatest : GoodIn wsL_law wsX1_greatest := goodIn_r _ [224, 55, 56, 57, 2, 58, 13, 120, 121, 122, 212, 213, 214, 15, 215, 31, 19, 216, 170, 171, 172, 32, 27, 30, 20, 21, 107, 108, 91, 109, 173, 174, 175, 176, 177, 178, 179, 180, 23, 24, 25, 26, 181, 182, 183, 184, 185, 186, 187, 188, 189, 190, 191, 365, 378, 379, 380, 381, 382, 383, 384, 385, 386, 387, 388, 389, 390, 391] (by decide +kernel) (by decide +kernel)
set_option maxRecDepth 20000 in
theorem gL_law_X1_greatest : GoodIn wsL_law (wsV RL 50 RX1 yX1_greatest wsX1_greatest) := goodIn_app (goodIn_of _ (by decide +kernel)) ggL_law_X1_greatest
set_option maxRecDepth 20000 in
theorem ggL_law_X2_greatest : GoodIn wsL_law wsX2_greatest := goodIn_r _ [228, 72, 73, 5, 74, 75, 76, 77, 131, 132, 133, 196, 197, 198, 199, 48, 47, 38, 39, 40, 45, 43, 42, 41, 114, 108, 91, 109, 44, 98, 90, 92, 200, 201, 202, 203, 204, 205, 206, 207, 366, 367, 368, 369, 370, 371, 372, 373, 374, 375, 376, 377] (by decide +kernel) (by decide +kernel)
set_option maxRecDepth 20000 in
theorem gL_law_X2_greatest : GoodIn wsL_law (wsV RL 53 RX2 yX2_greatest wsX2_greatest) := goodIn_app (goodIn_of _ (by decide +kernel)) ggL_law_X2_greatest
set_option maxRecDepth 20000 in
theorem ggL_law_X1_guess : GoodIn wsL_law wsX1_guess := goodIn_r _ [232, 233, 55, 56, 57, 2, 58, 13, 120, 121, 122, 234, 235, 236, 15, 237, 33, 30, 29, 181, 182, 183, 184, 31, 19, 107, 108, 91, 109, 89, 90, 92, 216, 170, 171, 172, 32, 27, 20, 21, 173, 174, 175, 176, 177, 178, 179, 180, 23, 24, 25, 26, 185, 186, 187, 188, 189, 190, 191, 238, 239, 240, 241, 242, 243, 244, 378, 379, 380, 381, 382, 383, 384, 385, 386, 387, 388, 389, 390, 391, 365] (by decide +kernel) (by decide +kernel)
set_option maxRecDepth 20000 in
theorem gL_law_X1_guess : GoodIn wsL_law (wsV RL 54 RX1 yX1_guess wsX1_guess) := goodIn_app (goodIn_of _ (by decide +kernel)) ggL_law_X1_guess
set_option maxRecDepth 20000 in
theorem ggL_law_X2_guess : GoodIn wsL_law wsX2_guess := goodIn_r _ [248, 49, 72, 73, 5, 74, 75, 76, 77, 131, 132, 133, 249, 250, 251, 252, 38, 114, 108, 91, 109, 98, 90, 92, 196, 197, 198, 199, 48, 47, 39, 40, 45, 43, 42, 41, 44, 200, 201, 202, 203, 204, 205, 206, 207, 366, 367, 368, 369, 370, 371, 372, 373, 374, 375, 376, 377] (by decide +kernel) (by decide +kernel)
set_option maxRecDepth 20000 in
theorem gL_law_X2_guess : GoodIn wsL_law (wsV RL 57 RX2 yX2_guess wsX2_guess) := goodIn_app (goodIn_of _ (by decide +kernel)) ggL_law_X2_guess
set_option maxRecDepth 20000 in
theorem ggL_law_X1_join : GoodIn wsL_law wsX1_join := goodIn_r _ [256, 257, 55, 56, 57, 2, 58, 13, 120, 121, 122, 234, 235, 236, 15, 237, 33, 30, 29, 181, 182, 183, 184, 31, 19, 107, 108, 91, 109, 89, 90, 92, 216, 170, 171, 172, 32, 27, 20, 21, 173, 174, 175, 176, 177, 178, 179, 180, 23, 24, 25, 26, 185, 186, 187, 188, 189, 190, 191, 238, 239, 240, 241, 242, 243, 244, 258, 259, 260, 261, 28, 365, 378, 379, 380, 381, 382, 383, 384, 385, 386, 387, 388, 389, 390, 391] (by decide +kernel) (by decide +kernel)
set_option maxRecDepth 20000 in
theorem gL_law_X1_join : GoodIn wsL_law (wsV RL 58 RX1 yX1_join wsX1_join) := goodIn_app (goodIn_of _ (by decide +kernel)) ggL_law_X1_join
set_option maxRecDepth 20000 in
theorem ggL_law_X2_join : GoodIn wsL_law wsX2_join := goodIn_r _ [265, 266, 72, 73, 5, 74, 75, 76, 77, 131, 132, 133, 249, 250, 251, 252, 49, 38, 114, 108, 91, 109, 98, 90, 92, 196, 197, 198, 199, 48, 47, 39, 40, 45, 43, 42, 41, 44, 200, 201, 202, 203, 204, 205, 206, 207, 267, 268, 269, 270, 366, 367, 368, 369, 370, 371, 372, 373, 374, 375, 376, 377] (by decide +kernel) (by decide +kernel)
set_option maxRecDepth 20000 in
theorem gL_law_X2_join : GoodIn wsL_law (wsV RL 62 RX2 yX2_join wsX2_join) := goodIn_app (goodIn_of _ (by decide +kernel)) ggL_law_X2_join
set_option maxRecDepth 20000 in
theorem ggL_law_X1_truth : GoodIn wsL_law wsX1_truth := goodIn_r _ [274, 275, 276, 55, 56, 57, 2, 58, 13, 378, 379, 380, 381, 382, 383, 384, 385, 386, 387, 388, 389, 390, 391, 365] (by decide +kernel) (by decide +kernel)
set_option maxRecDepth 20000 in
theorem gL_law_X1_truth : GoodIn wsL_law (wsV RL 63 RX1 yX1_truth wsX1_truth) := goodIn_app (goodIn_of _ (by decide +kernel)) ggL_law_X1_truth
set_option maxRecDepth 20000 in
theorem ggL_law_X2_truth : GoodIn wsL_law wsX2_truth := goodIn_r _ [280, 281, 46, 72, 73, 5, 74, 75, 76, 77, 366, 367, 368, 369, 370, 371, 372, 373, 374, 375, 376, 377] (by decide +kernel) (by decide +kernel)
set_option maxRecDepth 20000 in
theorem gL_law_X2_truth : GoodIn wsL_law (wsV RL 67 RX2 yX2_truth wsX2_truth) := goodIn_app (goodIn_of _ (by decide +kernel)) ggL_law_X2_truth
set_option maxRecDepth 20000 in
theorem ggL_law_X1_agrees : GoodIn wsL_law wsX1_agrees := goodIn_r _ [285, 55, 56, 57, 2, 58, 13, 286, 287, 288, 15, 289, 31, 28, 19, 20, 24, 23, 27, 25, 26, 216, 170, 171, 172, 32, 30, 21, 107, 108, 91, 109, 173, 174, 175, 176, 177, 178, 179, 180, 181, 182, 183, 184, 185, 186, 187, 188, 189, 190, 191, 365, 378, 379, 380, 381, 382, 383, 384, 385, 386, 387, 388, 389, 390, 391] (by decide +kernel) (by decide +kernel)
set_option maxRecDepth 20000 in
theorem gL_law_X1_agrees : GoodIn wsL_law (wsV RL 68 RX1 yX1_agrees wsX1_agrees) := goodIn_app (goodIn_of _ (by decide +kernel)) ggL_law_X1_agrees
set_option maxRecDepth 20000 in
theorem ggL_law_X2_agrees : GoodIn wsL_law wsX2_agrees := goodIn_r _ [293, 38, 39, 41, 42, 45, 43, 44, 97, 72, 73, 5, 74, 75, 76, 77, 196, 197, 198, 199, 48, 47, 40, 114, 108, 91, 109, 98, 90, 92, 200, 201, 202, 203, 204, 205, 206, 207, 294, 295, 296, 297, 46, 366, 367, 368, 369, 370, 371, 372, 373, 374, 375, 376, 377] (by decide +kernel) (by decide +kernel)
set_option maxRecDepth 20000 in
theorem gL_law_X2_agrees : GoodIn wsL_law (wsV RL 72 RX2 yX2_agrees wsX2_agrees) := goodIn_app (goodIn_of _ (by decide +kernel)) ggL_law_X2_agrees
set_option maxRecDepth 20000 in
theorem ggL_law_X1_cost : GoodIn wsL_law wsX1_cost := goodIn_r _ [301, 257, 302, 303, 304, 2, 305, 13, 234, 235, 236, 15, 237, 33, 30, 29, 181, 182, 183, 184, 31, 19, 107, 108, 91, 109, 89, 90, 92, 216, 170, 171, 172, 32, 27, 20, 21, 173, 174, 175, 176, 177, 178, 179, 180, 23, 24, 25, 26, 185, 186, 187, 188, 189, 190, 191, 238, 239, 240, 241, 242, 243, 244, 306, 307, 308, 309, 310, 258, 259, 260, 261, 28, 365, 378, 379, 380, 381, 382, 383, 384, 385, 386, 387, 388, 389, 390, 391] (by decide +kernel) (by decide +kernel)
set_option maxRecDepth 20000 in
theorem gL_law_X1_cost : GoodIn wsL_law (wsV RL 73 RX1 yX1_cost wsX1_cost) := goodIn_app (goodIn_of _ (by decide +kernel)) ggL_law_X1_cost
set_option maxRecDepth 20000 in
theorem ggL_law_X2_cost : GoodIn wsL_law wsX2_cost := goodIn_r _ [314, 266, 75, 76, 5, 77, 315, 316, 317, 318, 249, 250, 251, 252, 49, 38, 114, 108, 91, 109, 98, 90, 92, 196, 197, 198, 199, 48, 47, 39, 40, 45, 43, 42, 41, 44, 200, 201, 202, 203, 204, 205, 206, 207, 319, 320, 321, 322, 323, 324, 325, 326, 46, 267, 268, 269, 270, 366, 367, 368, 369, 370, 371, 372, 373, 374, 375, 376, 377] (by decide +kernel) (by decide +kernel)
set_option maxRecDepth 20000 in
theorem gL_law_X2_cost : GoodIn wsL_law (wsV RL 77 RX2 yX2_cost wsX2_cost) := goodIn_app (goodIn_of _ (by decide +kernel)) ggL_law_X2_cost
set_option maxRecDepth 20000 in
theorem ggL_law_X1_plan : GoodIn wsL_law wsX1_plan := goodIn_r _ [330, 302, 303, 304, 2, 305, 13, 234, 235, 236, 15, 237, 33, 30, 29, 181, 182, 183, 184, 31, 19, 107, 108, 91, 109, 89, 90, 92, 216, 170, 171, 172, 32, 27, 20, 21, 173, 174, 175, 176, 177, 178, 179, 180, 23, 24, 25, 26, 185, 186, 187, 188, 189, 190, 191, 238, 239, 240, 241, 242, 243, 244, 331, 332, 333, 334, 306, 307, 308, 309, 310, 258, 259, 260, 261, 28, 365, 378, 379, 380, 381, 382, 383, 384, 385, 386, 387, 388, 389, 390, 391] (by decide +kernel) (by decide +kernel)
set_option maxRecDepth 20000 in
theorem gL_law_X1_plan : GoodIn wsL_law (wsV RL 78 RX1 yX1_plan wsX1_plan) := goodIn_app (goodIn_of _ (by decide +kernel)) ggL_law_X1_plan
set_option maxRecDepth 20000 in
theorem ggL_law_X2_plan : GoodIn wsL_law wsX2_plan := goodIn_r _ [338, 315, 316, 317, 5, 318, 249, 250, 251, 252, 49, 38, 114, 108, 91, 109, 98, 90, 92, 196, 197, 198, 199, 48, 47, 39, 40, 45, 43, 42, 41, 44, 200, 201, 202, 203, 204, 205, 206, 207, 319, 320, 321, 322, 323, 324, 325, 326, 46, 267, 268, 269, 270, 366, 367, 368, 369, 370, 371, 372, 373, 374, 375, 376, 377] (by decide +kernel) (by decide +kernel)
set_option maxRecDepth 20000 in
theorem gL_law_X2_plan : GoodIn wsL_law (wsV RL 82 RX2 yX2_plan wsX2_plan) := goodIn_app (goodIn_of _ (by decide +kernel)) ggL_law_X2_plan
set_option maxRecDepth 20000 in
theorem ggL_law_X1_lost : GoodIn wsL_law wsX1_lost := goodIn_r _ [342, 302, 303, 304, 2, 305, 13, 234, 235, 236, 15, 237, 33, 30, 29, 181, 182, 183, 184, 31, 19, 107, 108, 91, 109, 89, 90, 92, 216, 170, 171, 172, 32, 27, 20, 21, 173, 174, 175, 176, 177, 178, 179, 180, 23, 24, 25, 26, 185, 186, 187, 188, 189, 190, 191, 238, 239, 240, 241, 242, 243, 244, 331, 332, 333, 334, 306, 307, 308, 309, 310, 258, 259, 260, 261, 28, 365, 378, 379, 380, 381, 382, 383, 384, 385, 386, 387, 388, 389, 390, 391] (by decide +kernel) (by decide +kernel)
set_option maxRecDepth 20000 in
theorem gL_law_X1_lost : GoodIn wsL_law (wsV RL 83 RX1 yX1_lost wsX1_lost) := goodIn_app (goodIn_of _ (by decide +kernel)) ggL_law_X1_lost
set_option maxRecDepth 20000 in
theorem ggL_law_X2_lost : GoodIn wsL_law wsX2_lost := goodIn_r _ [346, 347, 336, 337, 5, 338, 315, 316, 317, 318, 249, 250, 251, 252, 49, 38, 114, 108, 91, 109, 98, 90, 92, 196, 197, 198, 199, 48, 47, 39, 40, 45, 43, 42, 41, 44, 200, 201, 202, 203, 204, 205, 206, 207, 319, 320, 321, 322, 323, 324, 325, 326, 46, 267, 268, 269, 270, 366, 367, 368, 369, 370, 371, 372, 373, 374, 375, 376, 377] (by decide +kernel) (by decide +kernel)
set_option maxRecDepth 20000 in
theorem gL_law_X2_lost : GoodIn wsL_law (wsV RL 87 RX2 yX2_lost wsX2_lost) := goodIn_app (goodIn_of _ (by decide +kernel)) ggL_law_X2_lost
set_option maxRecDepth 20000 in
theorem ggL_law_X1_table : GoodIn wsL_law wsX1_table := goodIn_r _ [351, 82, 163, 352, 55, 56, 57, 2, 58, 13, 353, 354, 355, 15, 356, 20, 27, 216, 170, 171, 172, 32, 30, 19, 21, 107, 108, 91, 109, 173, 174, 175, 176, 177, 178, 179, 180, 23, 24, 25, 26, 31, 181, 182, 183, 184, 185, 186, 187, 188, 189, 190, 191, 378, 379, 380, 381, 382, 383, 384, 385, 386, 387, 388, 389, 390, 391, 365] (by decide +kernel) (by decide +kernel)
set_option maxRecDepth 20000 in
theorem gL_law_X1_table : GoodIn wsL_law (wsV RL 88 RX1 yX1_table wsX1_table) := goodIn_app (goodIn_of _ (by decide +kernel)) ggL_law_X1_table
set_option maxRecDepth 20000 in
theorem ggL_law_X2_table : GoodIn wsL_law wsX2_table := goodIn_r _ [360, 38, 39, 40, 72, 73, 5, 74, 75, 76, 77, 361, 362, 363, 364, 45, 196, 197, 198, 199, 48, 47, 43, 42, 41, 114, 108, 91, 109, 44, 98, 90, 92, 200, 201, 202, 203, 204, 205, 206, 207, 366, 367, 368, 369, 370, 371, 372, 373, 374, 375, 376, 377] (by decide +kernel) (by decide +kernel)
set_option maxRecDepth 20000 in
theorem gL_law_X2_table : GoodIn wsL_law (wsV RL 91 RX2 yX2_table wsX2_table) := goodIn_app (goodIn_of _ (by decide +kernel)) ggL_law_X2_table
theorem dL_law_0 : decode cL_law 0 = .ok (.new 7, 3) := by decide +kernel
theorem dL_law_3 : decode cL_law 3 = .ok (.dup, 1) := by decide +kernel
theorem dL_law_4 : decode cL_law 4 = .ok (.invokespecial 9, 3) := by decide +kernel
theorem dL_law_7 : decode cL_law 7 = .ok (.astore_n 1, 1) := by decide +kernel
theorem dL_law_8 : decode cL_law 8 = .ok (.new 10, 3) := by decide +kernel
theorem dL_law_11 : decode cL_law 11 = .ok (.dup, 1) := by decide +kernel
theorem dL_law_12 : decode cL_law 12 = .ok (.invokespecial 12, 3) := by decide +kernel
theorem dL_law_15 : decode cL_law 15 = .ok (.astore_n 2, 1) := by decide +kernel
theorem dL_law_16 : decode cL_law 16 = .ok (.iconst 0, 1) := by decide +kernel
theorem dL_law_17 : decode cL_law 17 = .ok (.istore_n 3, 1) := by decide +kernel
theorem dL_law_18 : decode cL_law 18 = .ok (.iload_n 3, 1) := by decide +kernel
theorem dL_law_19 : decode cL_law 19 = .ok (.aload_n 0, 1) := by decide +kernel
theorem dL_law_20 : decode cL_law 20 = .ok (.arraylength, 1) := by decide +kernel
theorem dL_law_21 : decode cL_law 21 = .ok (.bipush 6, 2) := by decide +kernel
theorem dL_law_23 : decode cL_law 23 = .ok (.isub, 1) := by decide +kernel
theorem dL_law_24 : decode cL_law 24 = .ok (.if_icmp .gt 790, 3) := by decide +kernel
theorem dL_law_27 : decode cL_law 27 = .ok (.aload_n 0, 1) := by decide +kernel
theorem dL_law_28 : decode cL_law 28 = .ok (.iload_n 3, 1) := by decide +kernel
theorem dL_law_29 : decode cL_law 29 = .ok (.iaload, 1) := by decide +kernel
theorem dL_law_30 : decode cL_law 30 = .ok (.bipush 31, 2) := by decide +kernel
theorem dL_law_32 : decode cL_law 32 = .ok (.iand, 1) := by decide +kernel
theorem dL_law_33 : decode cL_law 33 = .ok (.tableswitch 775 0 16 #[83, 116, 149, 182, 261, 314, 347, 390, 433, 476, 519, 573, 616, 639, 689, 728, 742], 83) := by decide +kernel
theorem dL_law_116 : decode cL_law 116 = .ok (.aload_n 1, 1) := by decide +kernel
theorem dL_law_117 : decode cL_law 117 = .ok (.aload_n 0, 1) := by decide +kernel
theorem dL_law_118 : decode cL_law 118 = .ok (.iload_n 3, 1) := by decide +kernel
theorem dL_law_119 : decode cL_law 119 = .ok (.iconst 1, 1) := by decide +kernel
theorem dL_law_120 : decode cL_law 120 = .ok (.iadd, 1) := by decide +kernel
theorem dL_law_121 : decode cL_law 121 = .ok (.iaload, 1) := by decide +kernel
theorem dL_law_122 : decode cL_law 122 = .ok (.aload_n 0, 1) := by decide +kernel
theorem dL_law_123 : decode cL_law 123 = .ok (.iload_n 3, 1) := by decide +kernel
theorem dL_law_124 : decode cL_law 124 = .ok (.iconst 2, 1) := by decide +kernel
theorem dL_law_125 : decode cL_law 125 = .ok (.iadd, 1) := by decide +kernel
theorem dL_law_126 : decode cL_law 126 = .ok (.iaload, 1) := by decide +kernel
theorem dL_law_127 : decode cL_law 127 = .ok (.invokevirtual 13, 3) := by decide +kernel
theorem dL_law_130 : decode cL_law 130 = .ok (.aload_n 2, 1) := by decide +kernel
theorem dL_law_131 : decode cL_law 131 = .ok (.aload_n 0, 1) := by decide +kernel
theorem dL_law_132 : decode cL_law 132 = .ok (.iload_n 3, 1) := by decide +kernel
theorem dL_law_133 : decode cL_law 133 = .ok (.iconst 1, 1) := by decide +kernel
theorem dL_law_134 : decode cL_law 134 = .ok (.iadd, 1) := by decide +kernel
theorem dL_law_135 : decode cL_law 135 = .ok (.iaload, 1) := by decide +kernel
theorem dL_law_136 : decode cL_law 136 = .ok (.aload_n 0, 1) := by decide +kernel
theorem dL_law_137 : decode cL_law 137 = .ok (.iload_n 3, 1) := by decide +kernel
theorem dL_law_138 : decode cL_law 138 = .ok (.iconst 2, 1) := by decide +kernel
theorem dL_law_139 : decode cL_law 139 = .ok (.iadd, 1) := by decide +kernel
theorem dL_law_140 : decode cL_law 140 = .ok (.iaload, 1) := by decide +kernel
theorem dL_law_141 : decode cL_law 141 = .ok (.invokevirtual 17, 3) := by decide +kernel
theorem dL_law_144 : decode cL_law 144 = .ok (.if_icmp .eq 664, 3) := by decide +kernel
theorem dL_law_147 : decode cL_law 147 = .ok (.iconst 0, 1) := by decide +kernel
theorem dL_law_148 : decode cL_law 148 = .ok (.ireturn, 1) := by decide +kernel
theorem dL_law_149 : decode cL_law 149 = .ok (.aload_n 1, 1) := by decide +kernel
theorem dL_law_150 : decode cL_law 150 = .ok (.aload_n 0, 1) := by decide +kernel
theorem dL_law_151 : decode cL_law 151 = .ok (.iload_n 3, 1) := by decide +kernel
theorem dL_law_152 : decode cL_law 152 = .ok (.iconst 1, 1) := by decide +kernel
theorem dL_law_153 : decode cL_law 153 = .ok (.iadd, 1) := by decide +kernel
theorem dL_law_154 : decode cL_law 154 = .ok (.iaload, 1) := by decide +kernel
theorem dL_law_155 : decode cL_law 155 = .ok (.aload_n 0, 1) := by decide +kernel
theorem dL_law_156 : decode cL_law 156 = .ok (.iload_n 3, 1) := by decide +kernel
theorem dL_law_157 : decode cL_law 157 = .ok (.iconst 2, 1) := by decide +kernel
theorem dL_law_158 : decode cL_law 158 = .ok (.iadd, 1) := by decide +kernel
theorem dL_law_159 : decode cL_law 159 = .ok (.iaload, 1) := by decide +kernel
theorem dL_law_160 : decode cL_law 160 = .ok (.invokevirtual 18, 3) := by decide +kernel
theorem dL_law_163 : decode cL_law 163 = .ok (.aload_n 2, 1) := by decide +kernel
theorem dL_law_164 : decode cL_law 164 = .ok (.aload_n 0, 1) := by decide +kernel
theorem dL_law_165 : decode cL_law 165 = .ok (.iload_n 3, 1) := by decide +kernel
theorem dL_law_166 : decode cL_law 166 = .ok (.iconst 1, 1) := by decide +kernel
theorem dL_law_167 : decode cL_law 167 = .ok (.iadd, 1) := by decide +kernel
theorem dL_law_168 : decode cL_law 168 = .ok (.iaload, 1) := by decide +kernel
theorem dL_law_169 : decode cL_law 169 = .ok (.aload_n 0, 1) := by decide +kernel
theorem dL_law_170 : decode cL_law 170 = .ok (.iload_n 3, 1) := by decide +kernel
theorem dL_law_171 : decode cL_law 171 = .ok (.iconst 2, 1) := by decide +kernel
theorem dL_law_172 : decode cL_law 172 = .ok (.iadd, 1) := by decide +kernel
theorem dL_law_173 : decode cL_law 173 = .ok (.iaload, 1) := by decide +kernel
theorem dL_law_174 : decode cL_law 174 = .ok (.invokevirtual 22, 3) := by decide +kernel
theorem dL_law_177 : decode cL_law 177 = .ok (.if_icmp .eq 631, 3) := by decide +kernel
theorem dL_law_180 : decode cL_law 180 = .ok (.iconst 0, 1) := by decide +kernel
theorem dL_law_181 : decode cL_law 181 = .ok (.ireturn, 1) := by decide +kernel
theorem dL_law_182 : decode cL_law 182 = .ok (.aload_n 1, 1) := by decide +kernel
theorem dL_law_183 : decode cL_law 183 = .ok (.aload_n 0, 1) := by decide +kernel
theorem dL_law_184 : decode cL_law 184 = .ok (.iload_n 3, 1) := by decide +kernel
theorem dL_law_185 : decode cL_law 185 = .ok (.iconst 1, 1) := by decide +kernel
theorem dL_law_186 : decode cL_law 186 = .ok (.iadd, 1) := by decide +kernel
theorem dL_law_187 : decode cL_law 187 = .ok (.iaload, 1) := by decide +kernel
theorem dL_law_188 : decode cL_law 188 = .ok (.aload_n 0, 1) := by decide +kernel
theorem dL_law_189 : decode cL_law 189 = .ok (.iload_n 3, 1) := by decide +kernel
theorem dL_law_190 : decode cL_law 190 = .ok (.iconst 2, 1) := by decide +kernel
theorem dL_law_191 : decode cL_law 191 = .ok (.iadd, 1) := by decide +kernel
theorem dL_law_192 : decode cL_law 192 = .ok (.iaload, 1) := by decide +kernel
theorem dL_law_193 : decode cL_law 193 = .ok (.invokevirtual 23, 3) := by decide +kernel
theorem dL_law_196 : decode cL_law 196 = .ok (.aload_n 2, 1) := by decide +kernel
theorem dL_law_197 : decode cL_law 197 = .ok (.aload_n 0, 1) := by decide +kernel
theorem dL_law_198 : decode cL_law 198 = .ok (.iload_n 3, 1) := by decide +kernel
end
section
theorem dL_law_199 : decode cL_law 199 = .ok (.iconst 1, 1) := by decide +kernel
theorem dL_law_200 : decode cL_law 200 = .ok (.iadd, 1) := by decide +kernel
theorem dL_law_201 : decode cL_law 201 = .ok (.iaload, 1) := by decide +kernel
theorem dL_law_202 : decode cL_law 202 = .ok (.aload_n 0, 1) := by decide +kernel
theorem dL_law_203 : decode cL_law 203 = .ok (.iload_n 3, 1) := by decide +kernel
theorem dL_law_204 : decode cL_law 204 = .ok (.iconst 2, 1) := by decide +kernel
theorem dL_law_205 : decode cL_law 205 = .ok (.iadd, 1) := by decide +kernel
theorem dL_law_206 : decode cL_law 206 = .ok (.iaload, 1) := by decide +kernel
theorem dL_law_207 : decode cL_law 207 = .ok (.invokevirtual 26, 3) := by decide +kernel
theorem dL_law_210 : decode cL_law 210 = .ok (.if_icmp .eq 598, 3) := by decide +kernel
theorem dL_law_213 : decode cL_law 213 = .ok (.iconst 0, 1) := by decide +kernel
theorem dL_law_214 : decode cL_law 214 = .ok (.ireturn, 1) := by decide +kernel
theorem dL_law_215 : decode cL_law 215 = .ok (.aload_n 1, 1) := by decide +kernel
theorem dL_law_216 : decode cL_law 216 = .ok (.aload_n 0, 1) := by decide +kernel
theorem dL_law_217 : decode cL_law 217 = .ok (.iload_n 3, 1) := by decide +kernel
theorem dL_law_218 : decode cL_law 218 = .ok (.iconst 1, 1) := by decide +kernel
theorem dL_law_219 : decode cL_law 219 = .ok (.iadd, 1) := by decide +kernel
theorem dL_law_220 : decode cL_law 220 = .ok (.iaload, 1) := by decide +kernel
theorem dL_law_221 : decode cL_law 221 = .ok (.aload_n 0, 1) := by decide +kernel
theorem dL_law_222 : decode cL_law 222 = .ok (.iload_n 3, 1) := by decide +kernel
theorem dL_law_223 : decode cL_law 223 = .ok (.iconst 2, 1) := by decide +kernel
theorem dL_law_224 : decode cL_law 224 = .ok (.iadd, 1) := by decide +kernel
theorem dL_law_225 : decode cL_law 225 = .ok (.iaload, 1) := by decide +kernel
theorem dL_law_226 : decode cL_law 226 = .ok (.aload_n 0, 1) := by decide +kernel
theorem dL_law_227 : decode cL_law 227 = .ok (.iload_n 3, 1) := by decide +kernel
theorem dL_law_228 : decode cL_law 228 = .ok (.iconst 3, 1) := by decide +kernel
theorem dL_law_229 : decode cL_law 229 = .ok (.iadd, 1) := by decide +kernel
theorem dL_law_230 : decode cL_law 230 = .ok (.iaload, 1) := by decide +kernel
theorem dL_law_231 : decode cL_law 231 = .ok (.aload_n 0, 1) := by decide +kernel
theorem dL_law_232 : decode cL_law 232 = .ok (.iload_n 3, 1) := by decide +kernel
theorem dL_law_233 : decode cL_law 233 = .ok (.iconst 4, 1) := by decide +kernel
theorem dL_law_234 : decode cL_law 234 = .ok (.iadd, 1) := by decide +kernel
theorem dL_law_235 : decode cL_law 235 = .ok (.iaload, 1) := by decide +kernel
theorem dL_law_236 : decode cL_law 236 = .ok (.aload_n 0, 1) := by decide +kernel
theorem dL_law_237 : decode cL_law 237 = .ok (.iload_n 3, 1) := by decide +kernel
theorem dL_law_238 : decode cL_law 238 = .ok (.iconst 5, 1) := by decide +kernel
theorem dL_law_239 : decode cL_law 239 = .ok (.iadd, 1) := by decide +kernel
theorem dL_law_240 : decode cL_law 240 = .ok (.iaload, 1) := by decide +kernel
theorem dL_law_241 : decode cL_law 241 = .ok (.ifCond .eq 7, 3) := by decide +kernel
theorem dL_law_244 : decode cL_law 244 = .ok (.iconst 1, 1) := by decide +kernel
theorem dL_law_245 : decode cL_law 245 = .ok (.goto 4, 3) := by decide +kernel
theorem dL_law_248 : decode cL_law 248 = .ok (.iconst 0, 1) := by decide +kernel
theorem dL_law_249 : decode cL_law 249 = .ok (.invokevirtual 27, 3) := by decide +kernel
theorem dL_law_252 : decode cL_law 252 = .ok (.aload_n 2, 1) := by decide +kernel
theorem dL_law_253 : decode cL_law 253 = .ok (.aload_n 0, 1) := by decide +kernel
theorem dL_law_254 : decode cL_law 254 = .ok (.iload_n 3, 1) := by decide +kernel
theorem dL_law_255 : decode cL_law 255 = .ok (.iconst 1, 1) := by decide +kernel
theorem dL_law_256 : decode cL_law 256 = .ok (.iadd, 1) := by decide +kernel
theorem dL_law_257 : decode cL_law 257 = .ok (.iaload, 1) := by decide +kernel
theorem dL_law_258 : decode cL_law 258 = .ok (.aload_n 0, 1) := by decide +kernel
theorem dL_law_259 : decode cL_law 259 = .ok (.iload_n 3, 1) := by decide +kernel
theorem dL_law_260 : decode cL_law 260 = .ok (.iconst 2, 1) := by decide +kernel
theorem dL_law_261 : decode cL_law 261 = .ok (.iadd, 1) := by decide +kernel
theorem dL_law_262 : decode cL_law 262 = .ok (.iaload, 1) := by decide +kernel
theorem dL_law_263 : decode cL_law 263 = .ok (.aload_n 0, 1) := by decide +kernel
theorem dL_law_264 : decode cL_law 264 = .ok (.iload_n 3, 1) := by decide +kernel
theorem dL_law_265 : decode cL_law 265 = .ok (.iconst 3, 1) := by decide +kernel
theorem dL_law_266 : decode cL_law 266 = .ok (.iadd, 1) := by decide +kernel
theorem dL_law_267 : decode cL_law 267 = .ok (.iaload, 1) := by decide +kernel
theorem dL_law_268 : decode cL_law 268 = .ok (.aload_n 0, 1) := by decide +kernel
theorem dL_law_269 : decode cL_law 269 = .ok (.iload_n 3, 1) := by decide +kernel
theorem dL_law_270 : decode cL_law 270 = .ok (.iconst 4, 1) := by decide +kernel
theorem dL_law_271 : decode cL_law 271 = .ok (.iadd, 1) := by decide +kernel
theorem dL_law_272 : decode cL_law 272 = .ok (.iaload, 1) := by decide +kernel
theorem dL_law_273 : decode cL_law 273 = .ok (.aload_n 0, 1) := by decide +kernel
theorem dL_law_274 : decode cL_law 274 = .ok (.iload_n 3, 1) := by decide +kernel
theorem dL_law_275 : decode cL_law 275 = .ok (.iconst 5, 1) := by decide +kernel
theorem dL_law_276 : decode cL_law 276 = .ok (.iadd, 1) := by decide +kernel
theorem dL_law_277 : decode cL_law 277 = .ok (.iaload, 1) := by decide +kernel
theorem dL_law_278 : decode cL_law 278 = .ok (.ifCond .eq 7, 3) := by decide +kernel
theorem dL_law_281 : decode cL_law 281 = .ok (.iconst 1, 1) := by decide +kernel
theorem dL_law_282 : decode cL_law 282 = .ok (.goto 4, 3) := by decide +kernel
theorem dL_law_285 : decode cL_law 285 = .ok (.iconst 0, 1) := by decide +kernel
theorem dL_law_286 : decode cL_law 286 = .ok (.invokevirtual 31, 3) := by decide +kernel
theorem dL_law_289 : decode cL_law 289 = .ok (.if_icmp .eq 519, 3) := by decide +kernel
theorem dL_law_292 : decode cL_law 292 = .ok (.iconst 0, 1) := by decide +kernel
theorem dL_law_293 : decode cL_law 293 = .ok (.ireturn, 1) := by decide +kernel
theorem dL_law_294 : decode cL_law 294 = .ok (.aload_n 1, 1) := by decide +kernel
theorem dL_law_295 : decode cL_law 295 = .ok (.aload_n 0, 1) := by decide +kernel
theorem dL_law_296 : decode cL_law 296 = .ok (.iload_n 3, 1) := by decide +kernel
theorem dL_law_297 : decode cL_law 297 = .ok (.iconst 1, 1) := by decide +kernel
theorem dL_law_298 : decode cL_law 298 = .ok (.iadd, 1) := by decide +kernel
theorem dL_law_299 : decode cL_law 299 = .ok (.iaload, 1) := by decide +kernel
theorem dL_law_300 : decode cL_law 300 = .ok (.aload_n 0, 1) := by decide +kernel
theorem dL_law_301 : decode cL_law 301 = .ok (.iload_n 3, 1) := by decide +kernel
theorem dL_law_302 : decode cL_law 302 = .ok (.iconst 2, 1) := by decide +kernel
theorem dL_law_303 : decode cL_law 303 = .ok (.iadd, 1) := by decide +kernel
theorem dL_law_304 : decode cL_law 304 = .ok (.iaload, 1) := by decide +kernel
theorem dL_law_305 : decode cL_law 305 = .ok (.aload_n 0, 1) := by decide +kernel
theorem dL_law_306 : decode cL_law 306 = .ok (.iload_n 3, 1) := by decide +kernel
theorem dL_law_307 : decode cL_law 307 = .ok (.iconst 3, 1) := by decide +kernel
theorem dL_law_308 : decode cL_law 308 = .ok (.iadd, 1) := by decide +kernel
theorem dL_law_309 : decode cL_law 309 = .ok (.iaload, 1) := by decide +kernel
theorem dL_law_310 : decode cL_law 310 = .ok (.aload_n 0, 1) := by decide +kernel
theorem dL_law_311 : decode cL_law 311 = .ok (.iload_n 3, 1) := by decide +kernel
theorem dL_law_312 : decode cL_law 312 = .ok (.iconst 4, 1) := by decide +kernel
theorem dL_law_313 : decode cL_law 313 = .ok (.iadd, 1) := by decide +kernel
theorem dL_law_314 : decode cL_law 314 = .ok (.iaload, 1) := by decide +kernel
theorem dL_law_315 : decode cL_law 315 = .ok (.invokevirtual 32, 3) := by decide +kernel
theorem dL_law_318 : decode cL_law 318 = .ok (.aload_n 2, 1) := by decide +kernel
theorem dL_law_319 : decode cL_law 319 = .ok (.aload_n 0, 1) := by decide +kernel
theorem dL_law_320 : decode cL_law 320 = .ok (.iload_n 3, 1) := by decide +kernel
theorem dL_law_321 : decode cL_law 321 = .ok (.iconst 1, 1) := by decide +kernel
theorem dL_law_322 : decode cL_law 322 = .ok (.iadd, 1) := by decide +kernel
theorem dL_law_323 : decode cL_law 323 = .ok (.iaload, 1) := by decide +kernel
theorem dL_law_324 : decode cL_law 324 = .ok (.aload_n 0, 1) := by decide +kernel
theorem dL_law_325 : decode cL_law 325 = .ok (.iload_n 3, 1) := by decide +kernel
theorem dL_law_326 : decode cL_law 326 = .ok (.iconst 2, 1) := by decide +kernel
theorem dL_law_327 : decode cL_law 327 = .ok (.iadd, 1) := by decide +kernel
theorem dL_law_328 : decode cL_law 328 = .ok (.iaload, 1) := by decide +kernel
theorem dL_law_329 : decode cL_law 329 = .ok (.aload_n 0, 1) := by decide +kernel
theorem dL_law_330 : decode cL_law 330 = .ok (.iload_n 3, 1) := by decide +kernel
theorem dL_law_331 : decode cL_law 331 = .ok (.iconst 3, 1) := by decide +kernel
theorem dL_law_332 : decode cL_law 332 = .ok (.iadd, 1) := by decide +kernel
theorem dL_law_333 : decode cL_law 333 = .ok (.iaload, 1) := by decide +kernel
theorem dL_law_334 : decode cL_law 334 = .ok (.aload_n 0, 1) := by decide +kernel
theorem dL_law_335 : decode cL_law 335 = .ok (.iload_n 3, 1) := by decide +kernel
theorem dL_law_336 : decode cL_law 336 = .ok (.iconst 4, 1) := by decide +kernel
theorem dL_law_337 : decode cL_law 337 = .ok (.iadd, 1) := by decide +kernel
theorem dL_law_338 : decode cL_law 338 = .ok (.iaload, 1) := by decide +kernel
theorem dL_law_339 : decode cL_law 339 = .ok (.invokevirtual 36, 3) := by decide +kernel
theorem dL_law_342 : decode cL_law 342 = .ok (.if_icmp .eq 466, 3) := by decide +kernel
theorem dL_law_345 : decode cL_law 345 = .ok (.iconst 0, 1) := by decide +kernel
theorem dL_law_346 : decode cL_law 346 = .ok (.ireturn, 1) := by decide +kernel
theorem dL_law_347 : decode cL_law 347 = .ok (.aload_n 1, 1) := by decide +kernel
theorem dL_law_348 : decode cL_law 348 = .ok (.aload_n 0, 1) := by decide +kernel
theorem dL_law_349 : decode cL_law 349 = .ok (.iload_n 3, 1) := by decide +kernel
theorem dL_law_350 : decode cL_law 350 = .ok (.iconst 1, 1) := by decide +kernel
theorem dL_law_351 : decode cL_law 351 = .ok (.iadd, 1) := by decide +kernel
theorem dL_law_352 : decode cL_law 352 = .ok (.iaload, 1) := by decide +kernel
theorem dL_law_353 : decode cL_law 353 = .ok (.aload_n 0, 1) := by decide +kernel
theorem dL_law_354 : decode cL_law 354 = .ok (.iload_n 3, 1) := by decide +kernel
theorem dL_law_355 : decode cL_law 355 = .ok (.iconst 2, 1) := by decide +kernel
theorem dL_law_356 : decode cL_law 356 = .ok (.iadd, 1) := by decide +kernel
theorem dL_law_357 : decode cL_law 357 = .ok (.iaload, 1) := by decide +kernel
theorem dL_law_358 : decode cL_law 358 = .ok (.invokevirtual 37, 3) := by decide +kernel
theorem dL_law_361 : decode cL_law 361 = .ok (.aload_n 2, 1) := by decide +kernel
theorem dL_law_362 : decode cL_law 362 = .ok (.aload_n 0, 1) := by decide +kernel
theorem dL_law_363 : decode cL_law 363 = .ok (.iload_n 3, 1) := by decide +kernel
theorem dL_law_364 : decode cL_law 364 = .ok (.iconst 1, 1) := by decide +kernel
theorem dL_law_365 : decode cL_law 365 = .ok (.iadd, 1) := by decide +kernel
theorem dL_law_366 : decode cL_law 366 = .ok (.iaload, 1) := by decide +kernel
theorem dL_law_367 : decode cL_law 367 = .ok (.aload_n 0, 1) := by decide +kernel
theorem dL_law_368 : decode cL_law 368 = .ok (.iload_n 3, 1) := by decide +kernel
theorem dL_law_369 : decode cL_law 369 = .ok (.iconst 2, 1) := by decide +kernel
theorem dL_law_370 : decode cL_law 370 = .ok (.iadd, 1) := by decide +kernel
theorem dL_law_371 : decode cL_law 371 = .ok (.iaload, 1) := by decide +kernel
theorem dL_law_372 : decode cL_law 372 = .ok (.invokevirtual 40, 3) := by decide +kernel
theorem dL_law_375 : decode cL_law 375 = .ok (.if_icmp .eq 433, 3) := by decide +kernel
theorem dL_law_378 : decode cL_law 378 = .ok (.iconst 0, 1) := by decide +kernel
theorem dL_law_379 : decode cL_law 379 = .ok (.ireturn, 1) := by decide +kernel
theorem dL_law_380 : decode cL_law 380 = .ok (.aload_n 1, 1) := by decide +kernel
theorem dL_law_381 : decode cL_law 381 = .ok (.aload_n 0, 1) := by decide +kernel
theorem dL_law_382 : decode cL_law 382 = .ok (.iload_n 3, 1) := by decide +kernel
theorem dL_law_383 : decode cL_law 383 = .ok (.iconst 1, 1) := by decide +kernel
theorem dL_law_384 : decode cL_law 384 = .ok (.iadd, 1) := by decide +kernel
theorem dL_law_385 : decode cL_law 385 = .ok (.iaload, 1) := by decide +kernel
theorem dL_law_386 : decode cL_law 386 = .ok (.aload_n 0, 1) := by decide +kernel
theorem dL_law_387 : decode cL_law 387 = .ok (.iload_n 3, 1) := by decide +kernel
theorem dL_law_388 : decode cL_law 388 = .ok (.iconst 2, 1) := by decide +kernel
theorem dL_law_389 : decode cL_law 389 = .ok (.iadd, 1) := by decide +kernel
theorem dL_law_390 : decode cL_law 390 = .ok (.iaload, 1) := by decide +kernel
theorem dL_law_391 : decode cL_law 391 = .ok (.aload_n 0, 1) := by decide +kernel
theorem dL_law_392 : decode cL_law 392 = .ok (.iload_n 3, 1) := by decide +kernel
theorem dL_law_393 : decode cL_law 393 = .ok (.iconst 3, 1) := by decide +kernel
theorem dL_law_394 : decode cL_law 394 = .ok (.iadd, 1) := by decide +kernel
theorem dL_law_395 : decode cL_law 395 = .ok (.iaload, 1) := by decide +kernel
theorem dL_law_396 : decode cL_law 396 = .ok (.invokevirtual 41, 3) := by decide +kernel
theorem dL_law_399 : decode cL_law 399 = .ok (.aload_n 2, 1) := by decide +kernel
theorem dL_law_400 : decode cL_law 400 = .ok (.aload_n 0, 1) := by decide +kernel
theorem dL_law_401 : decode cL_law 401 = .ok (.iload_n 3, 1) := by decide +kernel
theorem dL_law_402 : decode cL_law 402 = .ok (.iconst 1, 1) := by decide +kernel
theorem dL_law_403 : decode cL_law 403 = .ok (.iadd, 1) := by decide +kernel
theorem dL_law_404 : decode cL_law 404 = .ok (.iaload, 1) := by decide +kernel
theorem dL_law_405 : decode cL_law 405 = .ok (.aload_n 0, 1) := by decide +kernel
theorem dL_law_406 : decode cL_law 406 = .ok (.iload_n 3, 1) := by decide +kernel
theorem dL_law_407 : decode cL_law 407 = .ok (.iconst 2, 1) := by decide +kernel
theorem dL_law_408 : decode cL_law 408 = .ok (.iadd, 1) := by decide +kernel
theorem dL_law_409 : decode cL_law 409 = .ok (.iaload, 1) := by decide +kernel
theorem dL_law_410 : decode cL_law 410 = .ok (.aload_n 0, 1) := by decide +kernel
theorem dL_law_411 : decode cL_law 411 = .ok (.iload_n 3, 1) := by decide +kernel
theorem dL_law_412 : decode cL_law 412 = .ok (.iconst 3, 1) := by decide +kernel
theorem dL_law_413 : decode cL_law 413 = .ok (.iadd, 1) := by decide +kernel
theorem dL_law_414 : decode cL_law 414 = .ok (.iaload, 1) := by decide +kernel
theorem dL_law_415 : decode cL_law 415 = .ok (.invokevirtual 45, 3) := by decide +kernel
theorem dL_law_418 : decode cL_law 418 = .ok (.if_icmp .eq 390, 3) := by decide +kernel
theorem dL_law_421 : decode cL_law 421 = .ok (.iconst 0, 1) := by decide +kernel
theorem dL_law_422 : decode cL_law 422 = .ok (.ireturn, 1) := by decide +kernel
theorem dL_law_423 : decode cL_law 423 = .ok (.aload_n 1, 1) := by decide +kernel
theorem dL_law_424 : decode cL_law 424 = .ok (.aload_n 0, 1) := by decide +kernel
theorem dL_law_425 : decode cL_law 425 = .ok (.iload_n 3, 1) := by decide +kernel
theorem dL_law_426 : decode cL_law 426 = .ok (.iconst 1, 1) := by decide +kernel
theorem dL_law_427 : decode cL_law 427 = .ok (.iadd, 1) := by decide +kernel
theorem dL_law_428 : decode cL_law 428 = .ok (.iaload, 1) := by decide +kernel
theorem dL_law_429 : decode cL_law 429 = .ok (.aload_n 0, 1) := by decide +kernel
theorem dL_law_430 : decode cL_law 430 = .ok (.iload_n 3, 1) := by decide +kernel
theorem dL_law_431 : decode cL_law 431 = .ok (.iconst 2, 1) := by decide +kernel
theorem dL_law_432 : decode cL_law 432 = .ok (.iadd, 1) := by decide +kernel
theorem dL_law_433 : decode cL_law 433 = .ok (.iaload, 1) := by decide +kernel
theorem dL_law_434 : decode cL_law 434 = .ok (.aload_n 0, 1) := by decide +kernel
theorem dL_law_435 : decode cL_law 435 = .ok (.iload_n 3, 1) := by decide +kernel
theorem dL_law_436 : decode cL_law 436 = .ok (.iconst 3, 1) := by decide +kernel
theorem dL_law_437 : decode cL_law 437 = .ok (.iadd, 1) := by decide +kernel
theorem dL_law_438 : decode cL_law 438 = .ok (.iaload, 1) := by decide +kernel
theorem dL_law_439 : decode cL_law 439 = .ok (.invokevirtual 46, 3) := by decide +kernel
theorem dL_law_442 : decode cL_law 442 = .ok (.aload_n 2, 1) := by decide +kernel
theorem dL_law_443 : decode cL_law 443 = .ok (.aload_n 0, 1) := by decide +kernel
theorem dL_law_444 : decode cL_law 444 = .ok (.iload_n 3, 1) := by decide +kernel
theorem dL_law_445 : decode cL_law 445 = .ok (.iconst 1, 1) := by decide +kernel
theorem dL_law_446 : decode cL_law 446 = .ok (.iadd, 1) := by decide +kernel
theorem dL_law_447 : decode cL_law 447 = .ok (.iaload, 1) := by decide +kernel
theorem dL_law_448 : decode cL_law 448 = .ok (.aload_n 0, 1) := by decide +kernel
theorem dL_law_449 : decode cL_law 449 = .ok (.iload_n 3, 1) := by decide +kernel
theorem dL_law_450 : decode cL_law 450 = .ok (.iconst 2, 1) := by decide +kernel
theorem dL_law_451 : decode cL_law 451 = .ok (.iadd, 1) := by decide +kernel
theorem dL_law_452 : decode cL_law 452 = .ok (.iaload, 1) := by decide +kernel
theorem dL_law_453 : decode cL_law 453 = .ok (.aload_n 0, 1) := by decide +kernel
theorem dL_law_454 : decode cL_law 454 = .ok (.iload_n 3, 1) := by decide +kernel
theorem dL_law_455 : decode cL_law 455 = .ok (.iconst 3, 1) := by decide +kernel
theorem dL_law_456 : decode cL_law 456 = .ok (.iadd, 1) := by decide +kernel
theorem dL_law_457 : decode cL_law 457 = .ok (.iaload, 1) := by decide +kernel
theorem dL_law_458 : decode cL_law 458 = .ok (.invokevirtual 49, 3) := by decide +kernel
theorem dL_law_461 : decode cL_law 461 = .ok (.if_icmp .eq 347, 3) := by decide +kernel
theorem dL_law_464 : decode cL_law 464 = .ok (.iconst 0, 1) := by decide +kernel
theorem dL_law_465 : decode cL_law 465 = .ok (.ireturn, 1) := by decide +kernel
theorem dL_law_466 : decode cL_law 466 = .ok (.aload_n 1, 1) := by decide +kernel
theorem dL_law_467 : decode cL_law 467 = .ok (.aload_n 0, 1) := by decide +kernel
theorem dL_law_468 : decode cL_law 468 = .ok (.iload_n 3, 1) := by decide +kernel
theorem dL_law_469 : decode cL_law 469 = .ok (.iconst 1, 1) := by decide +kernel
theorem dL_law_470 : decode cL_law 470 = .ok (.iadd, 1) := by decide +kernel
theorem dL_law_471 : decode cL_law 471 = .ok (.iaload, 1) := by decide +kernel
theorem dL_law_472 : decode cL_law 472 = .ok (.aload_n 0, 1) := by decide +kernel
theorem dL_law_473 : decode cL_law 473 = .ok (.iload_n 3, 1) := by decide +kernel
theorem dL_law_474 : decode cL_law 474 = .ok (.iconst 2, 1) := by decide +kernel
theorem dL_law_475 : decode cL_law 475 = .ok (.iadd, 1) := by decide +kernel
theorem dL_law_476 : decode cL_law 476 = .ok (.iaload, 1) := by decide +kernel
theorem dL_law_477 : decode cL_law 477 = .ok (.aload_n 0, 1) := by decide +kernel
theorem dL_law_478 : decode cL_law 478 = .ok (.iload_n 3, 1) := by decide +kernel
theorem dL_law_479 : decode cL_law 479 = .ok (.iconst 3, 1) := by decide +kernel
theorem dL_law_480 : decode cL_law 480 = .ok (.iadd, 1) := by decide +kernel
theorem dL_law_481 : decode cL_law 481 = .ok (.iaload, 1) := by decide +kernel
theorem dL_law_482 : decode cL_law 482 = .ok (.invokevirtual 50, 3) := by decide +kernel
theorem dL_law_485 : decode cL_law 485 = .ok (.aload_n 2, 1) := by decide +kernel
theorem dL_law_486 : decode cL_law 486 = .ok (.aload_n 0, 1) := by decide +kernel
theorem dL_law_487 : decode cL_law 487 = .ok (.iload_n 3, 1) := by decide +kernel
theorem dL_law_488 : decode cL_law 488 = .ok (.iconst 1, 1) := by decide +kernel
theorem dL_law_489 : decode cL_law 489 = .ok (.iadd, 1) := by decide +kernel
theorem dL_law_490 : decode cL_law 490 = .ok (.iaload, 1) := by decide +kernel
theorem dL_law_491 : decode cL_law 491 = .ok (.aload_n 0, 1) := by decide +kernel
theorem dL_law_492 : decode cL_law 492 = .ok (.iload_n 3, 1) := by decide +kernel
theorem dL_law_493 : decode cL_law 493 = .ok (.iconst 2, 1) := by decide +kernel
theorem dL_law_494 : decode cL_law 494 = .ok (.iadd, 1) := by decide +kernel
theorem dL_law_495 : decode cL_law 495 = .ok (.iaload, 1) := by decide +kernel
theorem dL_law_496 : decode cL_law 496 = .ok (.aload_n 0, 1) := by decide +kernel
theorem dL_law_497 : decode cL_law 497 = .ok (.iload_n 3, 1) := by decide +kernel
theorem dL_law_498 : decode cL_law 498 = .ok (.iconst 3, 1) := by decide +kernel
theorem dL_law_499 : decode cL_law 499 = .ok (.iadd, 1) := by decide +kernel
theorem dL_law_500 : decode cL_law 500 = .ok (.iaload, 1) := by decide +kernel
theorem dL_law_501 : decode cL_law 501 = .ok (.invokevirtual 53, 3) := by decide +kernel
theorem dL_law_504 : decode cL_law 504 = .ok (.if_icmp .eq 304, 3) := by decide +kernel
theorem dL_law_507 : decode cL_law 507 = .ok (.iconst 0, 1) := by decide +kernel
theorem dL_law_508 : decode cL_law 508 = .ok (.ireturn, 1) := by decide +kernel
theorem dL_law_509 : decode cL_law 509 = .ok (.aload_n 1, 1) := by decide +kernel
theorem dL_law_510 : decode cL_law 510 = .ok (.aload_n 0, 1) := by decide +kernel
theorem dL_law_511 : decode cL_law 511 = .ok (.iload_n 3, 1) := by decide +kernel
theorem dL_law_512 : decode cL_law 512 = .ok (.iconst 1, 1) := by decide +kernel
theorem dL_law_513 : decode cL_law 513 = .ok (.iadd, 1) := by decide +kernel
theorem dL_law_514 : decode cL_law 514 = .ok (.iaload, 1) := by decide +kernel
theorem dL_law_515 : decode cL_law 515 = .ok (.aload_n 0, 1) := by decide +kernel
theorem dL_law_516 : decode cL_law 516 = .ok (.iload_n 3, 1) := by decide +kernel
theorem dL_law_517 : decode cL_law 517 = .ok (.iconst 2, 1) := by decide +kernel
theorem dL_law_518 : decode cL_law 518 = .ok (.iadd, 1) := by decide +kernel
theorem dL_law_519 : decode cL_law 519 = .ok (.iaload, 1) := by decide +kernel
theorem dL_law_520 : decode cL_law 520 = .ok (.aload_n 0, 1) := by decide +kernel
theorem dL_law_521 : decode cL_law 521 = .ok (.iload_n 3, 1) := by decide +kernel
theorem dL_law_522 : decode cL_law 522 = .ok (.iconst 3, 1) := by decide +kernel
theorem dL_law_523 : decode cL_law 523 = .ok (.iadd, 1) := by decide +kernel
theorem dL_law_524 : decode cL_law 524 = .ok (.iaload, 1) := by decide +kernel
theorem dL_law_525 : decode cL_law 525 = .ok (.invokevirtual 54, 3) := by decide +kernel
theorem dL_law_528 : decode cL_law 528 = .ok (.aload_n 2, 1) := by decide +kernel
theorem dL_law_529 : decode cL_law 529 = .ok (.aload_n 0, 1) := by decide +kernel
theorem dL_law_530 : decode cL_law 530 = .ok (.iload_n 3, 1) := by decide +kernel
theorem dL_law_531 : decode cL_law 531 = .ok (.iconst 1, 1) := by decide +kernel
theorem dL_law_532 : decode cL_law 532 = .ok (.iadd, 1) := by decide +kernel
theorem dL_law_533 : decode cL_law 533 = .ok (.iaload, 1) := by decide +kernel
theorem dL_law_534 : decode cL_law 534 = .ok (.aload_n 0, 1) := by decide +kernel
theorem dL_law_535 : decode cL_law 535 = .ok (.iload_n 3, 1) := by decide +kernel
theorem dL_law_536 : decode cL_law 536 = .ok (.iconst 2, 1) := by decide +kernel
theorem dL_law_537 : decode cL_law 537 = .ok (.iadd, 1) := by decide +kernel
theorem dL_law_538 : decode cL_law 538 = .ok (.iaload, 1) := by decide +kernel
theorem dL_law_539 : decode cL_law 539 = .ok (.aload_n 0, 1) := by decide +kernel
theorem dL_law_540 : decode cL_law 540 = .ok (.iload_n 3, 1) := by decide +kernel
theorem dL_law_541 : decode cL_law 541 = .ok (.iconst 3, 1) := by decide +kernel
theorem dL_law_542 : decode cL_law 542 = .ok (.iadd, 1) := by decide +kernel
theorem dL_law_543 : decode cL_law 543 = .ok (.iaload, 1) := by decide +kernel
theorem dL_law_544 : decode cL_law 544 = .ok (.invokevirtual 57, 3) := by decide +kernel
theorem dL_law_547 : decode cL_law 547 = .ok (.if_icmp .eq 261, 3) := by decide +kernel
theorem dL_law_550 : decode cL_law 550 = .ok (.iconst 0, 1) := by decide +kernel
theorem dL_law_551 : decode cL_law 551 = .ok (.ireturn, 1) := by decide +kernel
theorem dL_law_552 : decode cL_law 552 = .ok (.aload_n 1, 1) := by decide +kernel
theorem dL_law_553 : decode cL_law 553 = .ok (.aload_n 0, 1) := by decide +kernel
theorem dL_law_554 : decode cL_law 554 = .ok (.iload_n 3, 1) := by decide +kernel
theorem dL_law_555 : decode cL_law 555 = .ok (.iconst 1, 1) := by decide +kernel
theorem dL_law_556 : decode cL_law 556 = .ok (.iadd, 1) := by decide +kernel
theorem dL_law_557 : decode cL_law 557 = .ok (.iaload, 1) := by decide +kernel
theorem dL_law_558 : decode cL_law 558 = .ok (.aload_n 0, 1) := by decide +kernel
theorem dL_law_559 : decode cL_law 559 = .ok (.iload_n 3, 1) := by decide +kernel
theorem dL_law_560 : decode cL_law 560 = .ok (.iconst 2, 1) := by decide +kernel
theorem dL_law_561 : decode cL_law 561 = .ok (.iadd, 1) := by decide +kernel
theorem dL_law_562 : decode cL_law 562 = .ok (.iaload, 1) := by decide +kernel
theorem dL_law_563 : decode cL_law 563 = .ok (.aload_n 0, 1) := by decide +kernel
theorem dL_law_564 : decode cL_law 564 = .ok (.iload_n 3, 1) := by decide +kernel
theorem dL_law_565 : decode cL_law 565 = .ok (.iconst 3, 1) := by decide +kernel
theorem dL_law_566 : decode cL_law 566 = .ok (.iadd, 1) := by decide +kernel
theorem dL_law_567 : decode cL_law 567 = .ok (.iaload, 1) := by decide +kernel
theorem dL_law_568 : decode cL_law 568 = .ok (.aload_n 0, 1) := by decide +kernel
theorem dL_law_569 : decode cL_law 569 = .ok (.iload_n 3, 1) := by decide +kernel
theorem dL_law_570 : decode cL_law 570 = .ok (.iconst 4, 1) := by decide +kernel
theorem dL_law_571 : decode cL_law 571 = .ok (.iadd, 1) := by decide +kernel
theorem dL_law_572 : decode cL_law 572 = .ok (.iaload, 1) := by decide +kernel
theorem dL_law_573 : decode cL_law 573 = .ok (.invokevirtual 58, 3) := by decide +kernel
theorem dL_law_576 : decode cL_law 576 = .ok (.aload_n 2, 1) := by decide +kernel
theorem dL_law_577 : decode cL_law 577 = .ok (.aload_n 0, 1) := by decide +kernel
theorem dL_law_578 : decode cL_law 578 = .ok (.iload_n 3, 1) := by decide +kernel
theorem dL_law_579 : decode cL_law 579 = .ok (.iconst 1, 1) := by decide +kernel
theorem dL_law_580 : decode cL_law 580 = .ok (.iadd, 1) := by decide +kernel
theorem dL_law_581 : decode cL_law 581 = .ok (.iaload, 1) := by decide +kernel
theorem dL_law_582 : decode cL_law 582 = .ok (.aload_n 0, 1) := by decide +kernel
theorem dL_law_583 : decode cL_law 583 = .ok (.iload_n 3, 1) := by decide +kernel
theorem dL_law_584 : decode cL_law 584 = .ok (.iconst 2, 1) := by decide +kernel
theorem dL_law_585 : decode cL_law 585 = .ok (.iadd, 1) := by decide +kernel
theorem dL_law_586 : decode cL_law 586 = .ok (.iaload, 1) := by decide +kernel
theorem dL_law_587 : decode cL_law 587 = .ok (.aload_n 0, 1) := by decide +kernel
theorem dL_law_588 : decode cL_law 588 = .ok (.iload_n 3, 1) := by decide +kernel
theorem dL_law_589 : decode cL_law 589 = .ok (.iconst 3, 1) := by decide +kernel
theorem dL_law_590 : decode cL_law 590 = .ok (.iadd, 1) := by decide +kernel
theorem dL_law_591 : decode cL_law 591 = .ok (.iaload, 1) := by decide +kernel
theorem dL_law_592 : decode cL_law 592 = .ok (.aload_n 0, 1) := by decide +kernel
theorem dL_law_593 : decode cL_law 593 = .ok (.iload_n 3, 1) := by decide +kernel
theorem dL_law_594 : decode cL_law 594 = .ok (.iconst 4, 1) := by decide +kernel
theorem dL_law_595 : decode cL_law 595 = .ok (.iadd, 1) := by decide +kernel
theorem dL_law_596 : decode cL_law 596 = .ok (.iaload, 1) := by decide +kernel
theorem dL_law_597 : decode cL_law 597 = .ok (.invokevirtual 62, 3) := by decide +kernel
theorem dL_law_600 : decode cL_law 600 = .ok (.lcmp, 1) := by decide +kernel
theorem dL_law_601 : decode cL_law 601 = .ok (.ifCond .eq 207, 3) := by decide +kernel
theorem dL_law_604 : decode cL_law 604 = .ok (.iconst 0, 1) := by decide +kernel
theorem dL_law_605 : decode cL_law 605 = .ok (.ireturn, 1) := by decide +kernel
theorem dL_law_606 : decode cL_law 606 = .ok (.aload_n 1, 1) := by decide +kernel
theorem dL_law_607 : decode cL_law 607 = .ok (.aload_n 0, 1) := by decide +kernel
theorem dL_law_608 : decode cL_law 608 = .ok (.iload_n 3, 1) := by decide +kernel
theorem dL_law_609 : decode cL_law 609 = .ok (.iconst 1, 1) := by decide +kernel
theorem dL_law_610 : decode cL_law 610 = .ok (.iadd, 1) := by decide +kernel
theorem dL_law_611 : decode cL_law 611 = .ok (.iaload, 1) := by decide +kernel
theorem dL_law_612 : decode cL_law 612 = .ok (.aload_n 0, 1) := by decide +kernel
theorem dL_law_613 : decode cL_law 613 = .ok (.iload_n 3, 1) := by decide +kernel
theorem dL_law_614 : decode cL_law 614 = .ok (.iconst 2, 1) := by decide +kernel
theorem dL_law_615 : decode cL_law 615 = .ok (.iadd, 1) := by decide +kernel
theorem dL_law_616 : decode cL_law 616 = .ok (.iaload, 1) := by decide +kernel
theorem dL_law_617 : decode cL_law 617 = .ok (.aload_n 0, 1) := by decide +kernel
theorem dL_law_618 : decode cL_law 618 = .ok (.iload_n 3, 1) := by decide +kernel
theorem dL_law_619 : decode cL_law 619 = .ok (.iconst 3, 1) := by decide +kernel
theorem dL_law_620 : decode cL_law 620 = .ok (.iadd, 1) := by decide +kernel
theorem dL_law_621 : decode cL_law 621 = .ok (.iaload, 1) := by decide +kernel
theorem dL_law_622 : decode cL_law 622 = .ok (.invokevirtual 63, 3) := by decide +kernel
theorem dL_law_625 : decode cL_law 625 = .ok (.aload_n 2, 1) := by decide +kernel
theorem dL_law_626 : decode cL_law 626 = .ok (.aload_n 0, 1) := by decide +kernel
theorem dL_law_627 : decode cL_law 627 = .ok (.iload_n 3, 1) := by decide +kernel
theorem dL_law_628 : decode cL_law 628 = .ok (.iconst 1, 1) := by decide +kernel
theorem dL_law_629 : decode cL_law 629 = .ok (.iadd, 1) := by decide +kernel
theorem dL_law_630 : decode cL_law 630 = .ok (.iaload, 1) := by decide +kernel
theorem dL_law_631 : decode cL_law 631 = .ok (.aload_n 0, 1) := by decide +kernel
theorem dL_law_632 : decode cL_law 632 = .ok (.iload_n 3, 1) := by decide +kernel
theorem dL_law_633 : decode cL_law 633 = .ok (.iconst 2, 1) := by decide +kernel
theorem dL_law_634 : decode cL_law 634 = .ok (.iadd, 1) := by decide +kernel
theorem dL_law_635 : decode cL_law 635 = .ok (.iaload, 1) := by decide +kernel
theorem dL_law_636 : decode cL_law 636 = .ok (.aload_n 0, 1) := by decide +kernel
theorem dL_law_637 : decode cL_law 637 = .ok (.iload_n 3, 1) := by decide +kernel
theorem dL_law_638 : decode cL_law 638 = .ok (.iconst 3, 1) := by decide +kernel
theorem dL_law_639 : decode cL_law 639 = .ok (.iadd, 1) := by decide +kernel
theorem dL_law_640 : decode cL_law 640 = .ok (.iaload, 1) := by decide +kernel
theorem dL_law_641 : decode cL_law 641 = .ok (.invokevirtual 67, 3) := by decide +kernel
theorem dL_law_644 : decode cL_law 644 = .ok (.if_icmp .eq 164, 3) := by decide +kernel
theorem dL_law_647 : decode cL_law 647 = .ok (.iconst 0, 1) := by decide +kernel
theorem dL_law_648 : decode cL_law 648 = .ok (.ireturn, 1) := by decide +kernel
theorem dL_law_649 : decode cL_law 649 = .ok (.aload_n 1, 1) := by decide +kernel
theorem dL_law_650 : decode cL_law 650 = .ok (.aload_n 0, 1) := by decide +kernel
theorem dL_law_651 : decode cL_law 651 = .ok (.iload_n 3, 1) := by decide +kernel
theorem dL_law_652 : decode cL_law 652 = .ok (.iconst 1, 1) := by decide +kernel
theorem dL_law_653 : decode cL_law 653 = .ok (.iadd, 1) := by decide +kernel
theorem dL_law_654 : decode cL_law 654 = .ok (.iaload, 1) := by decide +kernel
theorem dL_law_655 : decode cL_law 655 = .ok (.invokevirtual 68, 3) := by decide +kernel
theorem dL_law_658 : decode cL_law 658 = .ok (.aload_n 2, 1) := by decide +kernel
theorem dL_law_659 : decode cL_law 659 = .ok (.aload_n 0, 1) := by decide +kernel
theorem dL_law_660 : decode cL_law 660 = .ok (.iload_n 3, 1) := by decide +kernel
theorem dL_law_661 : decode cL_law 661 = .ok (.iconst 1, 1) := by decide +kernel
theorem dL_law_662 : decode cL_law 662 = .ok (.iadd, 1) := by decide +kernel
theorem dL_law_663 : decode cL_law 663 = .ok (.iaload, 1) := by decide +kernel
theorem dL_law_664 : decode cL_law 664 = .ok (.invokevirtual 72, 3) := by decide +kernel
theorem dL_law_667 : decode cL_law 667 = .ok (.if_icmp .eq 141, 3) := by decide +kernel
theorem dL_law_670 : decode cL_law 670 = .ok (.iconst 0, 1) := by decide +kernel
theorem dL_law_671 : decode cL_law 671 = .ok (.ireturn, 1) := by decide +kernel
theorem dL_law_672 : decode cL_law 672 = .ok (.aload_n 1, 1) := by decide +kernel
theorem dL_law_673 : decode cL_law 673 = .ok (.aload_n 0, 1) := by decide +kernel
theorem dL_law_674 : decode cL_law 674 = .ok (.iload_n 3, 1) := by decide +kernel
theorem dL_law_675 : decode cL_law 675 = .ok (.iconst 1, 1) := by decide +kernel
theorem dL_law_676 : decode cL_law 676 = .ok (.iadd, 1) := by decide +kernel
theorem dL_law_677 : decode cL_law 677 = .ok (.iaload, 1) := by decide +kernel
theorem dL_law_678 : decode cL_law 678 = .ok (.aload_n 0, 1) := by decide +kernel
theorem dL_law_679 : decode cL_law 679 = .ok (.iload_n 3, 1) := by decide +kernel
theorem dL_law_680 : decode cL_law 680 = .ok (.iconst 2, 1) := by decide +kernel
theorem dL_law_681 : decode cL_law 681 = .ok (.iadd, 1) := by decide +kernel
theorem dL_law_682 : decode cL_law 682 = .ok (.iaload, 1) := by decide +kernel
theorem dL_law_683 : decode cL_law 683 = .ok (.ifCond .eq 7, 3) := by decide +kernel
theorem dL_law_686 : decode cL_law 686 = .ok (.iconst 1, 1) := by decide +kernel
theorem dL_law_687 : decode cL_law 687 = .ok (.goto 4, 3) := by decide +kernel
theorem dL_law_690 : decode cL_law 690 = .ok (.iconst 0, 1) := by decide +kernel
theorem dL_law_691 : decode cL_law 691 = .ok (.invokevirtual 73, 3) := by decide +kernel
theorem dL_law_694 : decode cL_law 694 = .ok (.aload_n 2, 1) := by decide +kernel
theorem dL_law_695 : decode cL_law 695 = .ok (.aload_n 0, 1) := by decide +kernel
theorem dL_law_696 : decode cL_law 696 = .ok (.iload_n 3, 1) := by decide +kernel
theorem dL_law_697 : decode cL_law 697 = .ok (.iconst 1, 1) := by decide +kernel
theorem dL_law_698 : decode cL_law 698 = .ok (.iadd, 1) := by decide +kernel
theorem dL_law_699 : decode cL_law 699 = .ok (.iaload, 1) := by decide +kernel
theorem dL_law_700 : decode cL_law 700 = .ok (.aload_n 0, 1) := by decide +kernel
theorem dL_law_701 : decode cL_law 701 = .ok (.iload_n 3, 1) := by decide +kernel
theorem dL_law_702 : decode cL_law 702 = .ok (.iconst 2, 1) := by decide +kernel
theorem dL_law_703 : decode cL_law 703 = .ok (.iadd, 1) := by decide +kernel
theorem dL_law_704 : decode cL_law 704 = .ok (.iaload, 1) := by decide +kernel
theorem dL_law_705 : decode cL_law 705 = .ok (.ifCond .eq 7, 3) := by decide +kernel
theorem dL_law_708 : decode cL_law 708 = .ok (.iconst 1, 1) := by decide +kernel
theorem dL_law_709 : decode cL_law 709 = .ok (.goto 4, 3) := by decide +kernel
theorem dL_law_712 : decode cL_law 712 = .ok (.iconst 0, 1) := by decide +kernel
theorem dL_law_713 : decode cL_law 713 = .ok (.invokevirtual 77, 3) := by decide +kernel
theorem dL_law_716 : decode cL_law 716 = .ok (.lcmp, 1) := by decide +kernel
theorem dL_law_717 : decode cL_law 717 = .ok (.ifCond .eq 91, 3) := by decide +kernel
theorem dL_law_720 : decode cL_law 720 = .ok (.iconst 0, 1) := by decide +kernel
theorem dL_law_721 : decode cL_law 721 = .ok (.ireturn, 1) := by decide +kernel
theorem dL_law_722 : decode cL_law 722 = .ok (.aload_n 1, 1) := by decide +kernel
theorem dL_law_723 : decode cL_law 723 = .ok (.aload_n 0, 1) := by decide +kernel
theorem dL_law_724 : decode cL_law 724 = .ok (.iload_n 3, 1) := by decide +kernel
theorem dL_law_725 : decode cL_law 725 = .ok (.iconst 1, 1) := by decide +kernel
theorem dL_law_726 : decode cL_law 726 = .ok (.iadd, 1) := by decide +kernel
theorem dL_law_727 : decode cL_law 727 = .ok (.iaload, 1) := by decide +kernel
theorem dL_law_728 : decode cL_law 728 = .ok (.ifCond .eq 7, 3) := by decide +kernel
theorem dL_law_731 : decode cL_law 731 = .ok (.iconst 1, 1) := by decide +kernel
theorem dL_law_732 : decode cL_law 732 = .ok (.goto 4, 3) := by decide +kernel
theorem dL_law_735 : decode cL_law 735 = .ok (.iconst 0, 1) := by decide +kernel
theorem dL_law_736 : decode cL_law 736 = .ok (.invokevirtual 78, 3) := by decide +kernel
theorem dL_law_739 : decode cL_law 739 = .ok (.aload_n 2, 1) := by decide +kernel
theorem dL_law_740 : decode cL_law 740 = .ok (.aload_n 0, 1) := by decide +kernel
theorem dL_law_741 : decode cL_law 741 = .ok (.iload_n 3, 1) := by decide +kernel
theorem dL_law_742 : decode cL_law 742 = .ok (.iconst 1, 1) := by decide +kernel
theorem dL_law_743 : decode cL_law 743 = .ok (.iadd, 1) := by decide +kernel
theorem dL_law_744 : decode cL_law 744 = .ok (.iaload, 1) := by decide +kernel
theorem dL_law_745 : decode cL_law 745 = .ok (.ifCond .eq 7, 3) := by decide +kernel
theorem dL_law_748 : decode cL_law 748 = .ok (.iconst 1, 1) := by decide +kernel
theorem dL_law_749 : decode cL_law 749 = .ok (.goto 4, 3) := by decide +kernel
theorem dL_law_752 : decode cL_law 752 = .ok (.iconst 0, 1) := by decide +kernel
theorem dL_law_753 : decode cL_law 753 = .ok (.invokevirtual 82, 3) := by decide +kernel
theorem dL_law_756 : decode cL_law 756 = .ok (.if_icmp .eq 52, 3) := by decide +kernel
theorem dL_law_759 : decode cL_law 759 = .ok (.iconst 0, 1) := by decide +kernel
theorem dL_law_760 : decode cL_law 760 = .ok (.ireturn, 1) := by decide +kernel
theorem dL_law_761 : decode cL_law 761 = .ok (.aload_n 1, 1) := by decide +kernel
theorem dL_law_762 : decode cL_law 762 = .ok (.invokevirtual 83, 3) := by decide +kernel
theorem dL_law_765 : decode cL_law 765 = .ok (.aload_n 2, 1) := by decide +kernel
theorem dL_law_766 : decode cL_law 766 = .ok (.invokevirtual 87, 3) := by decide +kernel
theorem dL_law_769 : decode cL_law 769 = .ok (.lcmp, 1) := by decide +kernel
theorem dL_law_770 : decode cL_law 770 = .ok (.ifCond .eq 38, 3) := by decide +kernel
theorem dL_law_773 : decode cL_law 773 = .ok (.iconst 0, 1) := by decide +kernel
theorem dL_law_774 : decode cL_law 774 = .ok (.ireturn, 1) := by decide +kernel
theorem dL_law_775 : decode cL_law 775 = .ok (.aload_n 1, 1) := by decide +kernel
theorem dL_law_776 : decode cL_law 776 = .ok (.aload_n 0, 1) := by decide +kernel
theorem dL_law_777 : decode cL_law 777 = .ok (.iload_n 3, 1) := by decide +kernel
theorem dL_law_778 : decode cL_law 778 = .ok (.iconst 1, 1) := by decide +kernel
theorem dL_law_779 : decode cL_law 779 = .ok (.iadd, 1) := by decide +kernel
theorem dL_law_780 : decode cL_law 780 = .ok (.iaload, 1) := by decide +kernel
theorem dL_law_781 : decode cL_law 781 = .ok (.aload_n 0, 1) := by decide +kernel
theorem dL_law_782 : decode cL_law 782 = .ok (.iload_n 3, 1) := by decide +kernel
theorem dL_law_783 : decode cL_law 783 = .ok (.iconst 2, 1) := by decide +kernel
theorem dL_law_784 : decode cL_law 784 = .ok (.iadd, 1) := by decide +kernel
theorem dL_law_785 : decode cL_law 785 = .ok (.iaload, 1) := by decide +kernel
theorem dL_law_786 : decode cL_law 786 = .ok (.invokevirtual 88, 3) := by decide +kernel
theorem dL_law_789 : decode cL_law 789 = .ok (.aload_n 2, 1) := by decide +kernel
theorem dL_law_790 : decode cL_law 790 = .ok (.aload_n 0, 1) := by decide +kernel
theorem dL_law_791 : decode cL_law 791 = .ok (.iload_n 3, 1) := by decide +kernel
theorem dL_law_792 : decode cL_law 792 = .ok (.iconst 1, 1) := by decide +kernel
theorem dL_law_793 : decode cL_law 793 = .ok (.iadd, 1) := by decide +kernel
theorem dL_law_794 : decode cL_law 794 = .ok (.iaload, 1) := by decide +kernel
theorem dL_law_795 : decode cL_law 795 = .ok (.aload_n 0, 1) := by decide +kernel
theorem dL_law_796 : decode cL_law 796 = .ok (.iload_n 3, 1) := by decide +kernel
theorem dL_law_797 : decode cL_law 797 = .ok (.iconst 2, 1) := by decide +kernel
theorem dL_law_798 : decode cL_law 798 = .ok (.iadd, 1) := by decide +kernel
theorem dL_law_799 : decode cL_law 799 = .ok (.iaload, 1) := by decide +kernel
theorem dL_law_800 : decode cL_law 800 = .ok (.invokevirtual 91, 3) := by decide +kernel
theorem dL_law_803 : decode cL_law 803 = .ok (.if_icmp .eq 5, 3) := by decide +kernel
theorem dL_law_806 : decode cL_law 806 = .ok (.iconst 0, 1) := by decide +kernel
theorem dL_law_807 : decode cL_law 807 = .ok (.ireturn, 1) := by decide +kernel
theorem dL_law_808 : decode cL_law 808 = .ok (.iinc 3 6, 3) := by decide +kernel
theorem dL_law_811 : decode cL_law 811 = .ok (.goto (-793), 3) := by decide +kernel
theorem dL_law_814 : decode cL_law 814 = .ok (.iconst 1, 1) := by decide +kernel
theorem dL_law_815 : decode cL_law 815 = .ok (.ireturn, 1) := by decide +kernel
abbrev vwCl : List vw_C := [(RX0, TX0, 14), (RX1, TX1, 1), (RX2, TX2, 12)]
/-! END of names -/
end
section

/-! locals by their slots -/
def lvT (L : List (Option Value)) : List (Nat × Value) := (List.range L.length).filterMap (fun k => (L[k]?.join).map (fun v => (k, v)))
theorem lvT_mem {L : List (Option Value)} {k : Nat} {v : Value} : (k, v) ∈ lvT L ↔ L[k]? = some (some v) := by
  unfold lvT
  rw [List.mem_filterMap]
  constructor
  · rintro ⟨j, hj, h⟩
    cases hL : L[j]? with
    | none => rw [hL] at h; simp at h
    | some o =>
      cases o with
      | none => rw [hL] at h; simp at h
      | some w =>
        rw [hL] at h
        simp at h
        obtain ⟨rfl, rfl⟩ := h
        exact hL
  · intro h
    refine ⟨k, ?_, ?_⟩
    · have := (List.getElem?_eq_some_iff.mp h).1
      simpa using this
    · rw [h]; rfl
def lvh (ls : Array Slot) (n : Nat) (L : List (Option Value)) : Prop := lv_has ls n (lvT L)
theorem lvh_at {ls : Array Slot} {n : Nat} {L : List (Option Value)} (h : lvh ls n L) {k : Nat} {v : Value} (hk : L[k]? = some (some v)) : ls[k]? = some (.val v) := h.2.2 (k, v) (lvT_mem.mpr hk)
def okp (L : List (Option Value)) (i : Nat) : Bool := match i with
  | 0 => true
  | j + 1 => match L[j]? with
    | some (some w) => w.category != 2
    | _ => true
theorem okp_ne {L : List (Option Value)} {k i : Nat} {w : Value} (ho : okp L i = true) (hk : L[k]? = some (some w)) (e : k + 1 = i) : ¬ w.category = 2 := by
  subst e
  unfold okp at ho
  simp only [hk] at ho
  simpa using ho
theorem lvh_st1 {ls : Array Slot} {n i : Nat} {v : Value} {L : List (Option Value)} (h : lv_has ls n ((i, v) :: (lvT L).filter (fun q => !(q.1 == i) && !(q.1 + 1 == i && q.2.category == 2)))) (ho : okp L i = true) : lvh ls n (L.set i (some v)) := by
  refine ⟨h.1, h.2.1, fun q hq => ?_⟩
  obtain ⟨k, w⟩ := q
  rw [lvT_mem] at hq
  by_cases hk : k = i
  · subst hk
    by_cases hl : k < L.length
    · rw [List.getElem?_set_self hl] at hq
      cases hq
      exact h.2.2 (k, v) List.mem_cons_self
    · rw [List.getElem?_eq_none (by simpa using hl)] at hq
      cases hq
  · rw [List.getElem?_set_ne (fun e => hk e.symm)] at hq
    refine h.2.2 (k, w) (List.mem_cons_of_mem _ (List.mem_filter.mpr ⟨lvT_mem.mpr hq, ?_⟩))
    have h2 := fun e => okp_ne ho hq e
    simp [hk]
    exact (Classical.em (k + 1 = i)).elim (fun e => Or.inr (h2 e)) Or.inl
theorem lvh_st2 {ls : Array Slot} {n i : Nat} {v : Value} {L : List (Option Value)} (h : lv_has ls n ((i, v) :: (lvT L).filter (fun q => !(q.1 == i) && (!(q.1 == i + 1) && !(q.1 + 1 == i && q.2.category == 2))))) (ho : okp L i = true) : lvh ls n ((L.set i (some v)).set (i + 1) none) := by
  refine ⟨h.1, h.2.1, fun q hq => ?_⟩
  obtain ⟨k, w⟩ := q
  rw [lvT_mem] at hq
  by_cases hk1 : k = i + 1
  · subst hk1
    by_cases hl : i + 1 < (L.set i (some v)).length
    · rw [List.getElem?_set_self hl] at hq
      cases hq
    · rw [List.getElem?_eq_none (by simpa using hl)] at hq
      cases hq
  · rw [List.getElem?_set_ne (fun e => hk1 e.symm)] at hq
    by_cases hk : k = i
    · subst hk
      by_cases hl : k < L.length
      · rw [List.getElem?_set_self hl] at hq
        cases hq
        exact h.2.2 (k, v) List.mem_cons_self
      · rw [List.getElem?_eq_none (by simpa using hl)] at hq
        cases hq
    · rw [List.getElem?_set_ne (fun e => hk e.symm)] at hq
      refine h.2.2 (k, w) (List.mem_cons_of_mem _ (List.mem_filter.mpr ⟨lvT_mem.mpr hq, ?_⟩))
      have h2 := fun e => okp_ne ho hq e
      simp [hk, hk1]
      exact (Classical.em (k + 1 = i)).elim (fun e => Or.inr (h2 e)) Or.inl
theorem lv_args_mem : ∀ (vs : List Value) (i k : Nat) (v : Value), (∀ w ∈ vs, w.category = 1) → vs[k]? = some v → (i + k, v) ∈ lv_args i vs
  | [], i, k, v, _, h => by simp at h
  | a :: vs, i, k, v, hc, h => by
    have ha : a.category = 1 := hc a List.mem_cons_self
    unfold lv_args
    rw [if_neg (by omega)]
    cases k with
    | zero => simp at h; subst h; exact List.mem_cons_self
    | succ k =>
      have h1 : vs[k]? = some v := by simpa using h
      have := lv_args_mem vs (i + 1) k v (fun w hw => hc w (List.mem_cons_of_mem _ hw)) h1
      rw [show i + (k + 1) = i + 1 + k by omega]
      exact List.mem_cons_of_mem _ this
theorem lg_sl_len : ∀ (vs : List Value), (∀ w ∈ vs, w.category = 1) → (lg_sl vs).length = vs.length
  | [], _ => rfl
  | a :: vs, hc => by
    have ha : a.category = 1 := hc a List.mem_cons_self
    have ih := lg_sl_len vs (fun w hw => hc w (List.mem_cons_of_mem _ hw))
    simp [lg_sl, ha] at ih ⊢
    exact ih
/-! the judgement: the machine at pc with locals L, operands S, and the world ws -/
def J (p : Program) (l : Launch) (e : Env) (R : Room) (s : State) (m : MethodId) (args : Array Value) (below : List Frame) (meth : Method) (c : Code) (cells slots : Nat) (Q : State → Prop) (n : Nat) (D : va_G) (A : Nat → Prop) (pc : Nat) (L : List (Option Value)) (S : List Value) (ws : va_W) : Prop :=
  ∀ (H : Heap) (locs : List Loc) (ls : Array Slot), lvh ls n L → va_P D vwCl ws H → va_D A ws → va_S A s.heap H locs → W p l e R s m args below meth c H locs cells slots Q (F0 m pc ls S)
def tyA (cI cO : ClassId) : List (ClassId × FieldType) := [(cI, .int), (cO, .object "CountLearner$Table")]
def Cx (p : Program) (R : Room) (s : State) (m : MethodId) (args : Array Value) (meth : Method) (c : Code) (cells slots : Nat) (n : Nat) (D : va_G) (A : Nat → Prop) (cc : ByteArray) (own : String) (Ts : List Cond) (ret : Option FieldType) (cI cO : ClassId) : Prop :=
  p.tables.exec = Jvm.exec ∧ c.code = cc ∧ c.maxLocals = n ∧ s.vm.findClass own = some m.cls ∧ (∀ w ∈ Ts, w.before args s = true) ∧ meth.locks = false ∧ va_K D vwCl (tyA cI cO) s ∧ meth.sig.returnType = ret ∧ cells ≤ R.cells ∧ slots ≤ R.slots ∧ (∀ q : Nat, s.heap.size ≤ q → A q)
def rmH (h : Nat) : Room := { frames := h, cells := 0, slots := 0, locals := 34 * h }
def Qg {σ : Type} (D : va_G) (wf : σ → va_W) (post : Option Value → σ → Prop) (A : Nat → Prop) : Array Value → State → Outcome → State → Prop := fun _ st oc t => (∃ (v : Option Value) (u : σ), oc = .returned v ∧ post v u ∧ va_P D vwCl (wf u) t.heap) ∧ va_F A st t
def Kt (l : Launch) (y : MethodName) (wsd : List Cond) (h : Nat) {σ : Type} (wf : σ → va_W) (D : va_G) (cI cO : ClassId) (X : State → Prop) (vs : List Value) (u : σ) (post : Option Value → σ → Prop) : Prop :=
  ∀ sz : Nat, Met l y wsd (rmH h) (va_Pc vs (fun U => U.heap.size = sz ∧ va_P D vwCl (wf u) U.heap ∧ va_K D vwCl (tyA cI cO) U ∧ va_D (fun _ => True) (wf u) ∧ X U)) (Qg D wf post (va_A (wf u) sz)) 0 0 (va_A (wf u) sz)
def RQ {σ : Type} (below : List Frame) (args : Array Value) (s : State) (D : va_G) (wf : σ → va_W) (post : Option Value → σ → Prop) (A : Nat → Prop) : State → Prop := MQ below (Qg D wf post A) args s 0 0 A
section ENG
variable {p : Program} {l : Launch} {e : Env} {R : Room} {s : State} {m : MethodId} {args : Array Value} {below : List Frame} {meth : Method} {c : Code} {cells slots : Nat} {Q : State → Prop} {n : Nat} {D : va_G} {A : Nat → Prop} {cc : ByteArray} {own : String} {Ts : List Cond} {ret : Option FieldType} {cI cO : ClassId} {pc pc' : Nat} {L : List (Option Value)} {S : List Value} {ws : va_W}
theorem j_iconst {z : Int} (C : Cx p R s m args meth c cells slots n D A cc own Ts ret cI cO) (hd : decode cc pc = .ok (.iconst z, 1)) (hp : pc + 1 = pc') (v : Int32) (hv : Int32.ofInt z = v)
    (k : J p l e R s m args below meth c cells slots Q n D A (pc') (L) (.int v :: S) (ws)) : J p l e R s m args below meth c cells slots Q n D A (pc) (L) (S) (ws) := by
  subst hp; intro H locs ls hl hP hD hS; exact lv_iconst C.1 C.2.1 hd hv (k H locs ls hl hP hD hS)
theorem j_bipush {z : Int} (C : Cx p R s m args meth c cells slots n D A cc own Ts ret cI cO) (hd : decode cc pc = .ok (.bipush z, 2)) (hp : pc + 2 = pc') (v : Int32) (hv : (Int8.ofInt z).toInt32 = v)
    (k : J p l e R s m args below meth c cells slots Q n D A (pc') (L) (.int v :: S) (ws)) : J p l e R s m args below meth c cells slots Q n D A (pc) (L) (S) (ws) := by
  subst hp; intro H locs ls hl hP hD hS; exact lv_bipush C.1 C.2.1 hd hv (k H locs ls hl hP hD hS)
theorem j_sipush {z : Int} (C : Cx p R s m args meth c cells slots n D A cc own Ts ret cI cO) (hd : decode cc pc = .ok (.sipush z, 3)) (hp : pc + 3 = pc') (v : Int32) (hv : (Int16.ofInt z).toInt32 = v)
    (k : J p l e R s m args below meth c cells slots Q n D A (pc') (L) (.int v :: S) (ws)) : J p l e R s m args below meth c cells slots Q n D A (pc) (L) (S) (ws) := by
  subst hp; intro H locs ls hl hP hD hS; exact lv_sipush C.1 C.2.1 hd hv (k H locs ls hl hP hD hS)
theorem j_lconst {z : Fin 2} (C : Cx p R s m args meth c cells slots n D A cc own Ts ret cI cO) (hd : decode cc pc = .ok (.lconst z, 1)) (hp : pc + 1 = pc') (v : Int64) (hv : Int64.ofNat (z : Nat) = v)
    (k : J p l e R s m args below meth c cells slots Q n D A (pc') (L) (.long v :: S) (ws)) : J p l e R s m args below meth c cells slots Q n D A (pc) (L) (S) (ws) := by
  subst hp; intro H locs ls hl hP hD hS; exact lv_lconst C.1 C.2.1 hd hv (k H locs ls hl hP hD hS)
theorem j_ldc {ix : Nat} (C : Cx p R s m args meth c cells slots n D A cc own Ts ret cI cO) (hd : decode cc pc = .ok (.ldc ix, 2)) (hp : pc + 2 = pc') (v : Int32) (hm : Cond.constant own ix v ∈ Ts)
    (k : J p l e R s m args below meth c cells slots Q n D A (pc') (L) (.int v :: S) (ws)) : J p l e R s m args below meth c cells slots Q n D A (pc) (L) (S) (ws) := by
  subst hp; intro H locs ls hl hP hD hS; exact lv_ldc C.1 C.2.1 C.2.2.2.1 (C.2.2.2.2.1 _ hm) hd (k H locs ls hl hP hD hS)
theorem j_ldc2 {ix : Nat} (C : Cx p R s m args meth c cells slots n D A cc own Ts ret cI cO) (hd : decode cc pc = .ok (.ldc2_w ix, 3)) (hp : pc + 3 = pc') (v : Int64) (hm : Cond.constantLong own ix v ∈ Ts)
    (k : J p l e R s m args below meth c cells slots Q n D A (pc') (L) (.long v :: S) (ws)) : J p l e R s m args below meth c cells slots Q n D A (pc) (L) (S) (ws) := by
  subst hp; intro H locs ls hl hP hD hS; exact lv_ldc2 C.1 C.2.1 C.2.2.2.1 (C.2.2.2.2.1 _ hm) hd (k H locs ls hl hP hD hS)
theorem j_iload_n {i : Fin 4} {x : Int32} (C : Cx p R s m args meth c cells slots n D A cc own Ts ret cI cO) (hd : decode cc pc = .ok (.iload_n i, 1)) (hp : pc + 1 = pc') (h : L[(i : Nat)]? = some (some (.int x)))
    (k : J p l e R s m args below meth c cells slots Q n D A (pc') (L) (.int x :: S) (ws)) : J p l e R s m args below meth c cells slots Q n D A (pc) (L) (S) (ws) := by
  subst hp; intro H locs ls hl hP hD hS; exact lv_iload_n C.1 C.2.1 hd rfl (lvh_at hl h) (k H locs ls hl hP hD hS)
theorem j_iload {i : Nat} {x : Int32} (C : Cx p R s m args meth c cells slots n D A cc own Ts ret cI cO) (hd : decode cc pc = .ok (.iload i, 2)) (hp : pc + 2 = pc') (h : L[i]? = some (some (.int x)))
    (k : J p l e R s m args below meth c cells slots Q n D A (pc') (L) (.int x :: S) (ws)) : J p l e R s m args below meth c cells slots Q n D A (pc) (L) (S) (ws) := by
  subst hp; intro H locs ls hl hP hD hS; exact lv_iload C.1 C.2.1 hd (lvh_at hl h) (k H locs ls hl hP hD hS)
theorem j_lload_n {i : Fin 4} {x : Int64} (C : Cx p R s m args meth c cells slots n D A cc own Ts ret cI cO) (hd : decode cc pc = .ok (.lload_n i, 1)) (hp : pc + 1 = pc') (h : L[(i : Nat)]? = some (some (.long x)))
    (k : J p l e R s m args below meth c cells slots Q n D A (pc') (L) (.long x :: S) (ws)) : J p l e R s m args below meth c cells slots Q n D A (pc) (L) (S) (ws) := by
  subst hp; intro H locs ls hl hP hD hS; exact lv_lload_n C.1 C.2.1 hd rfl (lvh_at hl h) (k H locs ls hl hP hD hS)
theorem j_lload {i : Nat} {x : Int64} (C : Cx p R s m args meth c cells slots n D A cc own Ts ret cI cO) (hd : decode cc pc = .ok (.lload i, 2)) (hp : pc + 2 = pc') (h : L[i]? = some (some (.long x)))
    (k : J p l e R s m args below meth c cells slots Q n D A (pc') (L) (.long x :: S) (ws)) : J p l e R s m args below meth c cells slots Q n D A (pc) (L) (S) (ws) := by
  subst hp; intro H locs ls hl hP hD hS; exact lv_lload C.1 C.2.1 hd (lvh_at hl h) (k H locs ls hl hP hD hS)
theorem j_aload_n {i : Fin 4} {x : Nat} (C : Cx p R s m args meth c cells slots n D A cc own Ts ret cI cO) (hd : decode cc pc = .ok (.aload_n i, 1)) (hp : pc + 1 = pc') (h : L[(i : Nat)]? = some (some (.ref x)))
    (k : J p l e R s m args below meth c cells slots Q n D A (pc') (L) (.ref x :: S) (ws)) : J p l e R s m args below meth c cells slots Q n D A (pc) (L) (S) (ws) := by
  subst hp; intro H locs ls hl hP hD hS; exact lv_aload_n C.1 C.2.1 hd rfl (lvh_at hl h) (k H locs ls hl hP hD hS)
theorem j_aload {i : Nat} {x : Nat} (C : Cx p R s m args meth c cells slots n D A cc own Ts ret cI cO) (hd : decode cc pc = .ok (.aload i, 2)) (hp : pc + 2 = pc') (h : L[i]? = some (some (.ref x)))
    (k : J p l e R s m args below meth c cells slots Q n D A (pc') (L) (.ref x :: S) (ws)) : J p l e R s m args below meth c cells slots Q n D A (pc) (L) (S) (ws) := by
  subst hp; intro H locs ls hl hP hD hS; exact lv_aload C.1 C.2.1 hd (lvh_at hl h) (k H locs ls hl hP hD hS)
theorem j_aload_nN {i : Fin 4} (C : Cx p R s m args meth c cells slots n D A cc own Ts ret cI cO) (hd : decode cc pc = .ok (.aload_n i, 1)) (hp : pc + 1 = pc') (h : L[(i : Nat)]? = some (some .null))
    (k : J p l e R s m args below meth c cells slots Q n D A (pc') (L) (.null :: S) (ws)) : J p l e R s m args below meth c cells slots Q n D A (pc) (L) (S) (ws) := by
  subst hp; intro H locs ls hl hP hD hS; exact lv_aload_nN C.1 C.2.1 hd rfl (lvh_at hl h) (k H locs ls hl hP hD hS)
theorem j_aloadN {i : Nat} (C : Cx p R s m args meth c cells slots n D A cc own Ts ret cI cO) (hd : decode cc pc = .ok (.aload i, 2)) (hp : pc + 2 = pc') (h : L[i]? = some (some .null))
    (k : J p l e R s m args below meth c cells slots Q n D A (pc') (L) (.null :: S) (ws)) : J p l e R s m args below meth c cells slots Q n D A (pc) (L) (S) (ws) := by
  subst hp; intro H locs ls hl hP hD hS; exact lv_aloadN C.1 C.2.1 hd (lvh_at hl h) (k H locs ls hl hP hD hS)
theorem j_istore_n {i : Fin 4} {x : Int32} (C : Cx p R s m args meth c cells slots n D A cc own Ts ret cI cO) (hd : decode cc pc = .ok (.istore_n i, 1)) (hp : pc + 1 = pc') (hi : (i : Nat) < n) (ho : okp L i = true)
    (k : J p l e R s m args below meth c cells slots Q n D A (pc') (L.set i (some (.int x))) (S) (ws)) : J p l e R s m args below meth c cells slots Q n D A (pc) (L) (.int x :: S) (ws) := by
  subst hp; intro H locs ls hl hP hD hS; exact lv_istore_n C.1 C.2.1 hd rfl hl hi rfl (fun ls' h' => k H locs ls' (lvh_st1 h' ho) hP hD hS)
theorem j_istore {i : Nat} {x : Int32} (C : Cx p R s m args meth c cells slots n D A cc own Ts ret cI cO) (hd : decode cc pc = .ok (.istore i, 2)) (hp : pc + 2 = pc') (hi : i < n) (ho : okp L i = true)
    (k : J p l e R s m args below meth c cells slots Q n D A (pc') (L.set i (some (.int x))) (S) (ws)) : J p l e R s m args below meth c cells slots Q n D A (pc) (L) (.int x :: S) (ws) := by
  subst hp; intro H locs ls hl hP hD hS; exact lv_istore C.1 C.2.1 hd hl hi rfl (fun ls' h' => k H locs ls' (lvh_st1 h' ho) hP hD hS)
theorem j_astore_n {i : Fin 4} {x : Nat} (C : Cx p R s m args meth c cells slots n D A cc own Ts ret cI cO) (hd : decode cc pc = .ok (.astore_n i, 1)) (hp : pc + 1 = pc') (hi : (i : Nat) < n) (ho : okp L i = true)
    (k : J p l e R s m args below meth c cells slots Q n D A (pc') (L.set i (some (.ref x))) (S) (ws)) : J p l e R s m args below meth c cells slots Q n D A (pc) (L) (.ref x :: S) (ws) := by
  subst hp; intro H locs ls hl hP hD hS; exact lv_astore_n C.1 C.2.1 hd rfl hl hi rfl (fun ls' h' => k H locs ls' (lvh_st1 h' ho) hP hD hS)
theorem j_astore {i : Nat} {x : Nat} (C : Cx p R s m args meth c cells slots n D A cc own Ts ret cI cO) (hd : decode cc pc = .ok (.astore i, 2)) (hp : pc + 2 = pc') (hi : i < n) (ho : okp L i = true)
    (k : J p l e R s m args below meth c cells slots Q n D A (pc') (L.set i (some (.ref x))) (S) (ws)) : J p l e R s m args below meth c cells slots Q n D A (pc) (L) (.ref x :: S) (ws) := by
  subst hp; intro H locs ls hl hP hD hS; exact lv_astore C.1 C.2.1 hd hl hi rfl (fun ls' h' => k H locs ls' (lvh_st1 h' ho) hP hD hS)
theorem j_astore_nN {i : Fin 4} (C : Cx p R s m args meth c cells slots n D A cc own Ts ret cI cO) (hd : decode cc pc = .ok (.astore_n i, 1)) (hp : pc + 1 = pc') (hi : (i : Nat) < n) (ho : okp L i = true)
    (k : J p l e R s m args below meth c cells slots Q n D A (pc') (L.set i (some .null)) (S) (ws)) : J p l e R s m args below meth c cells slots Q n D A (pc) (L) (.null :: S) (ws) := by
  subst hp; intro H locs ls hl hP hD hS; exact lv_astore_nN C.1 C.2.1 hd rfl hl hi rfl (fun ls' h' => k H locs ls' (lvh_st1 h' ho) hP hD hS)
theorem j_astoreN {i : Nat} (C : Cx p R s m args meth c cells slots n D A cc own Ts ret cI cO) (hd : decode cc pc = .ok (.astore i, 2)) (hp : pc + 2 = pc') (hi : i < n) (ho : okp L i = true)
    (k : J p l e R s m args below meth c cells slots Q n D A (pc') (L.set i (some .null)) (S) (ws)) : J p l e R s m args below meth c cells slots Q n D A (pc) (L) (.null :: S) (ws) := by
  subst hp; intro H locs ls hl hP hD hS; exact lv_astoreN C.1 C.2.1 hd hl hi rfl (fun ls' h' => k H locs ls' (lvh_st1 h' ho) hP hD hS)
theorem j_lstore_n {i : Fin 4} {x : Int64} (C : Cx p R s m args meth c cells slots n D A cc own Ts ret cI cO) (hd : decode cc pc = .ok (.lstore_n i, 1)) (hp : pc + 1 = pc') (hi : (i : Nat) + 1 < n) (ho : okp L i = true)
    (k : J p l e R s m args below meth c cells slots Q n D A (pc') ((L.set i (some (.long x))).set (i + 1) none) (S) (ws)) : J p l e R s m args below meth c cells slots Q n D A (pc) (L) (.long x :: S) (ws) := by
  subst hp; intro H locs ls hl hP hD hS; exact lv_lstore_n C.1 C.2.1 hd rfl hl hi rfl (fun ls' h' => k H locs ls' (lvh_st2 h' ho) hP hD hS)
theorem j_lstore {i : Nat} {x : Int64} (C : Cx p R s m args meth c cells slots n D A cc own Ts ret cI cO) (hd : decode cc pc = .ok (.lstore i, 2)) (hp : pc + 2 = pc') (hi : i + 1 < n) (ho : okp L i = true)
    (k : J p l e R s m args below meth c cells slots Q n D A (pc') ((L.set i (some (.long x))).set (i + 1) none) (S) (ws)) : J p l e R s m args below meth c cells slots Q n D A (pc) (L) (.long x :: S) (ws) := by
  subst hp; intro H locs ls hl hP hD hS; exact lv_lstore C.1 C.2.1 hd hl hi rfl (fun ls' h' => k H locs ls' (lvh_st2 h' ho) hP hD hS)
theorem j_iinc {i : Nat} {z : Int} {x : Int32} (C : Cx p R s m args meth c cells slots n D A cc own Ts ret cI cO) (hd : decode cc pc = .ok (.iinc i z, 3)) (hp : pc + 3 = pc') (d : Int32) (hz : Int32.ofInt z = d) (h : L[i]? = some (some (.int x))) (hi : i < n) (ho : okp L i = true)
    (k : J p l e R s m args below meth c cells slots Q n D A (pc') (L.set i (some (.int (x + d)))) (S) (ws)) : J p l e R s m args below meth c cells slots Q n D A (pc) (L) (S) (ws) := by
  subst hp; intro H locs ls hl hP hD hS
  obtain ⟨q, hq⟩ := List.getElem?_of_mem (lvT_mem.mpr h)
  exact lv_iinc C.1 C.2.1 hd hl hq (by rw [hz]) hi rfl (fun ls' h' => k H locs ls' (lvh_st1 h' ho) hP hD hS)
theorem j_iadd {x y : Int32} (C : Cx p R s m args meth c cells slots n D A cc own Ts ret cI cO) (hd : decode cc pc = .ok (.iadd, 1)) (hp : pc + 1 = pc')
    (k : J p l e R s m args below meth c cells slots Q n D A (pc') (L) (.int (x + y) :: S) (ws)) : J p l e R s m args below meth c cells slots Q n D A (pc) (L) (.int y :: .int x :: S) (ws) := by
  subst hp; intro H locs ls hl hP hD hS; exact lv_iadd C.1 C.2.1 hd  (k H locs ls hl hP hD hS)
theorem j_isub {x y : Int32} (C : Cx p R s m args meth c cells slots n D A cc own Ts ret cI cO) (hd : decode cc pc = .ok (.isub, 1)) (hp : pc + 1 = pc')
    (k : J p l e R s m args below meth c cells slots Q n D A (pc') (L) (.int (x - y) :: S) (ws)) : J p l e R s m args below meth c cells slots Q n D A (pc) (L) (.int y :: .int x :: S) (ws) := by
  subst hp; intro H locs ls hl hP hD hS; exact lv_isub C.1 C.2.1 hd  (k H locs ls hl hP hD hS)
theorem j_imul {x y : Int32} (C : Cx p R s m args meth c cells slots n D A cc own Ts ret cI cO) (hd : decode cc pc = .ok (.imul, 1)) (hp : pc + 1 = pc')
    (k : J p l e R s m args below meth c cells slots Q n D A (pc') (L) (.int (x * y) :: S) (ws)) : J p l e R s m args below meth c cells slots Q n D A (pc) (L) (.int y :: .int x :: S) (ws) := by
  subst hp; intro H locs ls hl hP hD hS; exact lv_imul C.1 C.2.1 hd  (k H locs ls hl hP hD hS)
theorem j_iand {x y : Int32} (C : Cx p R s m args meth c cells slots n D A cc own Ts ret cI cO) (hd : decode cc pc = .ok (.iand, 1)) (hp : pc + 1 = pc')
    (k : J p l e R s m args below meth c cells slots Q n D A (pc') (L) (.int (x &&& y) :: S) (ws)) : J p l e R s m args below meth c cells slots Q n D A (pc) (L) (.int y :: .int x :: S) (ws) := by
  subst hp; intro H locs ls hl hP hD hS; exact lv_iand C.1 C.2.1 hd  (k H locs ls hl hP hD hS)
theorem j_ishl {x y : Int32} (C : Cx p R s m args meth c cells slots n D A cc own Ts ret cI cO) (hd : decode cc pc = .ok (.ishl, 1)) (hp : pc + 1 = pc')
    (k : J p l e R s m args below meth c cells slots Q n D A (pc') (L) (.int (x <<< (y &&& 31)) :: S) (ws)) : J p l e R s m args below meth c cells slots Q n D A (pc) (L) (.int y :: .int x :: S) (ws) := by
  subst hp; intro H locs ls hl hP hD hS; exact lv_ishl C.1 C.2.1 hd  (k H locs ls hl hP hD hS)
theorem j_ishr {x y : Int32} (C : Cx p R s m args meth c cells slots n D A cc own Ts ret cI cO) (hd : decode cc pc = .ok (.ishr, 1)) (hp : pc + 1 = pc')
    (k : J p l e R s m args below meth c cells slots Q n D A (pc') (L) (.int (x >>> (y &&& 31)) :: S) (ws)) : J p l e R s m args below meth c cells slots Q n D A (pc) (L) (.int y :: .int x :: S) (ws) := by
  subst hp; intro H locs ls hl hP hD hS; exact lv_ishr C.1 C.2.1 hd  (k H locs ls hl hP hD hS)
theorem j_idiv {x y : Int32} (C : Cx p R s m args meth c cells slots n D A cc own Ts ret cI cO) (hd : decode cc pc = .ok (.idiv, 1)) (hp : pc + 1 = pc') (hne : ¬ y = 0)
    (k : J p l e R s m args below meth c cells slots Q n D A (pc') (L) (.int (x / y) :: S) (ws)) : J p l e R s m args below meth c cells slots Q n D A (pc) (L) (.int y :: .int x :: S) (ws) := by
  subst hp; intro H locs ls hl hP hD hS; exact lv_idiv C.1 C.2.1 hd hne (k H locs ls hl hP hD hS)
theorem j_irem {x y : Int32} (C : Cx p R s m args meth c cells slots n D A cc own Ts ret cI cO) (hd : decode cc pc = .ok (.irem, 1)) (hp : pc + 1 = pc') (hne : ¬ y = 0)
    (k : J p l e R s m args below meth c cells slots Q n D A (pc') (L) (.int (x - x / y * y) :: S) (ws)) : J p l e R s m args below meth c cells slots Q n D A (pc) (L) (.int y :: .int x :: S) (ws) := by
  subst hp; intro H locs ls hl hP hD hS; exact lv_irem C.1 C.2.1 hd hne (k H locs ls hl hP hD hS)
theorem j_ineg {x : Int32} (C : Cx p R s m args meth c cells slots n D A cc own Ts ret cI cO) (hd : decode cc pc = .ok (.ineg, 1)) (hp : pc + 1 = pc')
    (k : J p l e R s m args below meth c cells slots Q n D A (pc') (L) (.int (-x) :: S) (ws)) : J p l e R s m args below meth c cells slots Q n D A (pc) (L) (.int x :: S) (ws) := by
  subst hp; intro H locs ls hl hP hD hS; exact lv_ineg C.1 C.2.1 hd  (k H locs ls hl hP hD hS)
theorem j_ladd {x y : Int64} (C : Cx p R s m args meth c cells slots n D A cc own Ts ret cI cO) (hd : decode cc pc = .ok (.ladd, 1)) (hp : pc + 1 = pc')
    (k : J p l e R s m args below meth c cells slots Q n D A (pc') (L) (.long (x + y) :: S) (ws)) : J p l e R s m args below meth c cells slots Q n D A (pc) (L) (.long y :: .long x :: S) (ws) := by
  subst hp; intro H locs ls hl hP hD hS; exact lv_ladd C.1 C.2.1 hd  (k H locs ls hl hP hD hS)
theorem j_lsub {x y : Int64} (C : Cx p R s m args meth c cells slots n D A cc own Ts ret cI cO) (hd : decode cc pc = .ok (.lsub, 1)) (hp : pc + 1 = pc')
    (k : J p l e R s m args below meth c cells slots Q n D A (pc') (L) (.long (x - y) :: S) (ws)) : J p l e R s m args below meth c cells slots Q n D A (pc) (L) (.long y :: .long x :: S) (ws) := by
  subst hp; intro H locs ls hl hP hD hS; exact lv_lsub C.1 C.2.1 hd  (k H locs ls hl hP hD hS)
theorem j_lmul {x y : Int64} (C : Cx p R s m args meth c cells slots n D A cc own Ts ret cI cO) (hd : decode cc pc = .ok (.lmul, 1)) (hp : pc + 1 = pc')
    (k : J p l e R s m args below meth c cells slots Q n D A (pc') (L) (.long (x * y) :: S) (ws)) : J p l e R s m args below meth c cells slots Q n D A (pc) (L) (.long y :: .long x :: S) (ws) := by
  subst hp; intro H locs ls hl hP hD hS; exact lv_lmul C.1 C.2.1 hd  (k H locs ls hl hP hD hS)
theorem j_i2l {x : Int32} (C : Cx p R s m args meth c cells slots n D A cc own Ts ret cI cO) (hd : decode cc pc = .ok (.i2l, 1)) (hp : pc + 1 = pc')
    (k : J p l e R s m args below meth c cells slots Q n D A (pc') (L) (.long x.toInt64 :: S) (ws)) : J p l e R s m args below meth c cells slots Q n D A (pc) (L) (.int x :: S) (ws) := by
  subst hp; intro H locs ls hl hP hD hS; exact lv_i2l C.1 C.2.1 hd rfl (k H locs ls hl hP hD hS)
theorem j_lcmp {x y : Int64} (C : Cx p R s m args meth c cells slots n D A cc own Ts ret cI cO) (hd : decode cc pc = .ok (.lcmp, 1)) (hp : pc + 1 = pc')
    (k : J p l e R s m args below meth c cells slots Q n D A (pc') (L) (.int (lg_cmp x y) :: S) (ws)) : J p l e R s m args below meth c cells slots Q n D A (pc) (L) (.long y :: .long x :: S) (ws) := by
  subst hp; intro H locs ls hl hP hD hS; exact W.lcmp C.1 C.2.1 hd  (k H locs ls hl hP hD hS)
theorem j_dup {v : Value} (C : Cx p R s m args meth c cells slots n D A cc own Ts ret cI cO) (hd : decode cc pc = .ok (.dup, 1)) (hp : pc + 1 = pc') (hv : v.category = 1)
    (k : J p l e R s m args below meth c cells slots Q n D A (pc') (L) (v :: v :: S) (ws)) : J p l e R s m args below meth c cells slots Q n D A (pc) (L) (v :: S) (ws) := by
  subst hp; intro H locs ls hl hP hD hS; exact lv_dup C.1 C.2.1 hd hv (k H locs ls hl hP hD hS)
theorem j_pop {v : Value} (C : Cx p R s m args meth c cells slots n D A cc own Ts ret cI cO) (hd : decode cc pc = .ok (.pop, 1)) (hp : pc + 1 = pc') (hv : v.category = 1)
    (k : J p l e R s m args below meth c cells slots Q n D A (pc') (L) (S) (ws)) : J p l e R s m args below meth c cells slots Q n D A (pc) (L) (v :: S) (ws) := by
  subst hp; intro H locs ls hl hP hD hS; exact lv_pop C.1 C.2.1 hd hv (k H locs ls hl hP hD hS)
theorem j_dup2 {v w : Value} (C : Cx p R s m args meth c cells slots n D A cc own Ts ret cI cO) (hd : decode cc pc = .ok (.dup2, 1)) (hp : pc + 1 = pc') (hv : v.category = 1) (hw : w.category = 1)
    (k : J p l e R s m args below meth c cells slots Q n D A (pc') (L) (v :: w :: v :: w :: S) (ws)) : J p l e R s m args below meth c cells slots Q n D A (pc) (L) (v :: w :: S) (ws) := by
  subst hp; intro H locs ls hl hP hD hS; exact lv_dup2_11 C.1 C.2.1 hd hv hw (k H locs ls hl hP hD hS)
theorem j_null (C : Cx p R s m args meth c cells slots n D A cc own Ts ret cI cO) (hd : decode cc pc = .ok (.aconst_null, 1)) (hp : pc + 1 = pc')
    (k : J p l e R s m args below meth c cells slots Q n D A (pc') (L) (.null :: S) (ws)) : J p l e R s m args below meth c cells slots Q n D A (pc) (L) (S) (ws) := by
  subst hp; intro H locs ls hl hP hD hS; exact lv_null C.1 C.2.1 hd  (k H locs ls hl hP hD hS)
theorem j_if_eq {x : Int32} {off : Int} {tgt : Nat} (C : Cx p R s m args meth c cells slots n D A cc own Ts ret cI cO) (hd : decode cc pc = .ok (.ifCond .eq off, 3)) (ht : (pc : Int) + off = (tgt : Int)) (hp : pc + 3 = pc')
    (kt : x = 0 → J p l e R s m args below meth c cells slots Q n D A (tgt) (L) (S) (ws)) (kf : ¬ (x = 0) → J p l e R s m args below meth c cells slots Q n D A (pc') (L) (S) (ws)) : J p l e R s m args below meth c cells slots Q n D A (pc) (L) (.int x :: S) (ws) := by
  subst hp; intro H locs ls hl hP hD hS
  exact lv_if_eq C.1 C.2.1 hd ht (fun q => kt q H locs ls hl hP hD hS) (fun q => kf q H locs ls hl hP hD hS)
theorem j_icmp_eq {x y : Int32} {off : Int} {tgt : Nat} (C : Cx p R s m args meth c cells slots n D A cc own Ts ret cI cO) (hd : decode cc pc = .ok (.if_icmp .eq off, 3)) (ht : (pc : Int) + off = (tgt : Int)) (hp : pc + 3 = pc')
    (kt : x = y → J p l e R s m args below meth c cells slots Q n D A (tgt) (L) (S) (ws)) (kf : ¬ (x = y) → J p l e R s m args below meth c cells slots Q n D A (pc') (L) (S) (ws)) : J p l e R s m args below meth c cells slots Q n D A (pc) (L) (.int y :: .int x :: S) (ws) := by
  subst hp; intro H locs ls hl hP hD hS
  exact lv_icmp_eq C.1 C.2.1 hd ht (fun q => kt q H locs ls hl hP hD hS) (fun q => kf q H locs ls hl hP hD hS)
theorem j_if_ne {x : Int32} {off : Int} {tgt : Nat} (C : Cx p R s m args meth c cells slots n D A cc own Ts ret cI cO) (hd : decode cc pc = .ok (.ifCond .ne off, 3)) (ht : (pc : Int) + off = (tgt : Int)) (hp : pc + 3 = pc')
    (kt : ¬ x = 0 → J p l e R s m args below meth c cells slots Q n D A (tgt) (L) (S) (ws)) (kf : x = 0 → J p l e R s m args below meth c cells slots Q n D A (pc') (L) (S) (ws)) : J p l e R s m args below meth c cells slots Q n D A (pc) (L) (.int x :: S) (ws) := by
  subst hp; intro H locs ls hl hP hD hS
  exact lv_if_ne C.1 C.2.1 hd ht (fun q => kt q H locs ls hl hP hD hS) (fun q => kf q H locs ls hl hP hD hS)
theorem j_icmp_ne {x y : Int32} {off : Int} {tgt : Nat} (C : Cx p R s m args meth c cells slots n D A cc own Ts ret cI cO) (hd : decode cc pc = .ok (.if_icmp .ne off, 3)) (ht : (pc : Int) + off = (tgt : Int)) (hp : pc + 3 = pc')
    (kt : ¬ x = y → J p l e R s m args below meth c cells slots Q n D A (tgt) (L) (S) (ws)) (kf : x = y → J p l e R s m args below meth c cells slots Q n D A (pc') (L) (S) (ws)) : J p l e R s m args below meth c cells slots Q n D A (pc) (L) (.int y :: .int x :: S) (ws) := by
  subst hp; intro H locs ls hl hP hD hS
  exact lv_icmp_ne C.1 C.2.1 hd ht (fun q => kt q H locs ls hl hP hD hS) (fun q => kf q H locs ls hl hP hD hS)
theorem j_if_lt {x : Int32} {off : Int} {tgt : Nat} (C : Cx p R s m args meth c cells slots n D A cc own Ts ret cI cO) (hd : decode cc pc = .ok (.ifCond .lt off, 3)) (ht : (pc : Int) + off = (tgt : Int)) (hp : pc + 3 = pc')
    (kt : x < 0 → J p l e R s m args below meth c cells slots Q n D A (tgt) (L) (S) (ws)) (kf : ¬ (x < 0) → J p l e R s m args below meth c cells slots Q n D A (pc') (L) (S) (ws)) : J p l e R s m args below meth c cells slots Q n D A (pc) (L) (.int x :: S) (ws) := by
  subst hp; intro H locs ls hl hP hD hS
  exact lv_if_lt C.1 C.2.1 hd ht (fun q => kt q H locs ls hl hP hD hS) (fun q => kf q H locs ls hl hP hD hS)
theorem j_icmp_lt {x y : Int32} {off : Int} {tgt : Nat} (C : Cx p R s m args meth c cells slots n D A cc own Ts ret cI cO) (hd : decode cc pc = .ok (.if_icmp .lt off, 3)) (ht : (pc : Int) + off = (tgt : Int)) (hp : pc + 3 = pc')
    (kt : x < y → J p l e R s m args below meth c cells slots Q n D A (tgt) (L) (S) (ws)) (kf : ¬ (x < y) → J p l e R s m args below meth c cells slots Q n D A (pc') (L) (S) (ws)) : J p l e R s m args below meth c cells slots Q n D A (pc) (L) (.int y :: .int x :: S) (ws) := by
  subst hp; intro H locs ls hl hP hD hS
  exact lv_icmp_lt C.1 C.2.1 hd ht (fun q => kt q H locs ls hl hP hD hS) (fun q => kf q H locs ls hl hP hD hS)
theorem j_if_ge {x : Int32} {off : Int} {tgt : Nat} (C : Cx p R s m args meth c cells slots n D A cc own Ts ret cI cO) (hd : decode cc pc = .ok (.ifCond .ge off, 3)) (ht : (pc : Int) + off = (tgt : Int)) (hp : pc + 3 = pc')
    (kt : 0 ≤ x → J p l e R s m args below meth c cells slots Q n D A (tgt) (L) (S) (ws)) (kf : ¬ (0 ≤ x) → J p l e R s m args below meth c cells slots Q n D A (pc') (L) (S) (ws)) : J p l e R s m args below meth c cells slots Q n D A (pc) (L) (.int x :: S) (ws) := by
  subst hp; intro H locs ls hl hP hD hS
  exact lv_if_ge C.1 C.2.1 hd ht (fun q => kt q H locs ls hl hP hD hS) (fun q => kf q H locs ls hl hP hD hS)
theorem j_icmp_ge {x y : Int32} {off : Int} {tgt : Nat} (C : Cx p R s m args meth c cells slots n D A cc own Ts ret cI cO) (hd : decode cc pc = .ok (.if_icmp .ge off, 3)) (ht : (pc : Int) + off = (tgt : Int)) (hp : pc + 3 = pc')
    (kt : y ≤ x → J p l e R s m args below meth c cells slots Q n D A (tgt) (L) (S) (ws)) (kf : ¬ (y ≤ x) → J p l e R s m args below meth c cells slots Q n D A (pc') (L) (S) (ws)) : J p l e R s m args below meth c cells slots Q n D A (pc) (L) (.int y :: .int x :: S) (ws) := by
  subst hp; intro H locs ls hl hP hD hS
  exact lv_icmp_ge C.1 C.2.1 hd ht (fun q => kt q H locs ls hl hP hD hS) (fun q => kf q H locs ls hl hP hD hS)
theorem j_if_gt {x : Int32} {off : Int} {tgt : Nat} (C : Cx p R s m args meth c cells slots n D A cc own Ts ret cI cO) (hd : decode cc pc = .ok (.ifCond .gt off, 3)) (ht : (pc : Int) + off = (tgt : Int)) (hp : pc + 3 = pc')
    (kt : 0 < x → J p l e R s m args below meth c cells slots Q n D A (tgt) (L) (S) (ws)) (kf : ¬ (0 < x) → J p l e R s m args below meth c cells slots Q n D A (pc') (L) (S) (ws)) : J p l e R s m args below meth c cells slots Q n D A (pc) (L) (.int x :: S) (ws) := by
  subst hp; intro H locs ls hl hP hD hS
  exact lv_if_gt C.1 C.2.1 hd ht (fun q => kt q H locs ls hl hP hD hS) (fun q => kf q H locs ls hl hP hD hS)
theorem j_icmp_gt {x y : Int32} {off : Int} {tgt : Nat} (C : Cx p R s m args meth c cells slots n D A cc own Ts ret cI cO) (hd : decode cc pc = .ok (.if_icmp .gt off, 3)) (ht : (pc : Int) + off = (tgt : Int)) (hp : pc + 3 = pc')
    (kt : y < x → J p l e R s m args below meth c cells slots Q n D A (tgt) (L) (S) (ws)) (kf : ¬ (y < x) → J p l e R s m args below meth c cells slots Q n D A (pc') (L) (S) (ws)) : J p l e R s m args below meth c cells slots Q n D A (pc) (L) (.int y :: .int x :: S) (ws) := by
  subst hp; intro H locs ls hl hP hD hS
  exact lv_icmp_gt C.1 C.2.1 hd ht (fun q => kt q H locs ls hl hP hD hS) (fun q => kf q H locs ls hl hP hD hS)
theorem j_if_le {x : Int32} {off : Int} {tgt : Nat} (C : Cx p R s m args meth c cells slots n D A cc own Ts ret cI cO) (hd : decode cc pc = .ok (.ifCond .le off, 3)) (ht : (pc : Int) + off = (tgt : Int)) (hp : pc + 3 = pc')
    (kt : x ≤ 0 → J p l e R s m args below meth c cells slots Q n D A (tgt) (L) (S) (ws)) (kf : ¬ (x ≤ 0) → J p l e R s m args below meth c cells slots Q n D A (pc') (L) (S) (ws)) : J p l e R s m args below meth c cells slots Q n D A (pc) (L) (.int x :: S) (ws) := by
  subst hp; intro H locs ls hl hP hD hS
  exact lv_if_le C.1 C.2.1 hd ht (fun q => kt q H locs ls hl hP hD hS) (fun q => kf q H locs ls hl hP hD hS)
theorem j_icmp_le {x y : Int32} {off : Int} {tgt : Nat} (C : Cx p R s m args meth c cells slots n D A cc own Ts ret cI cO) (hd : decode cc pc = .ok (.if_icmp .le off, 3)) (ht : (pc : Int) + off = (tgt : Int)) (hp : pc + 3 = pc')
    (kt : x ≤ y → J p l e R s m args below meth c cells slots Q n D A (tgt) (L) (S) (ws)) (kf : ¬ (x ≤ y) → J p l e R s m args below meth c cells slots Q n D A (pc') (L) (S) (ws)) : J p l e R s m args below meth c cells slots Q n D A (pc) (L) (.int y :: .int x :: S) (ws) := by
  subst hp; intro H locs ls hl hP hD hS
  exact lv_icmp_le C.1 C.2.1 hd ht (fun q => kt q H locs ls hl hP hD hS) (fun q => kf q H locs ls hl hP hD hS)
theorem j_goto {off : Int} (C : Cx p R s m args meth c cells slots n D A cc own Ts ret cI cO) (hd : decode cc pc = .ok (.goto off, 3)) (hp : (pc : Int) + off = (pc' : Int))
    (k : J p l e R s m args below meth c cells slots Q n D A (pc') (L) (S) (ws)) : J p l e R s m args below meth c cells slots Q n D A (pc) (L) (S) (ws) := by
  intro H locs ls hl hP hD hS; exact lv_goto C.1 C.2.1 hd hp (k H locs ls hl hP hD hS)
theorem j_ifnull {x : Nat} {off : Int} (C : Cx p R s m args meth c cells slots n D A cc own Ts ret cI cO) (hd : decode cc pc = .ok (.ifnull off, 3)) (hp : pc + 3 = pc')
    (k : J p l e R s m args below meth c cells slots Q n D A (pc') (L) (S) (ws)) : J p l e R s m args below meth c cells slots Q n D A (pc) (L) (.ref x :: S) (ws) := by
  subst hp; intro H locs ls hl hP hD hS; exact lv_ifnull C.1 C.2.1 hd (k H locs ls hl hP hD hS)
theorem j_ifnullN {off : Int} (C : Cx p R s m args meth c cells slots n D A cc own Ts ret cI cO) (hd : decode cc pc = .ok (.ifnull off, 3)) (hp : (pc : Int) + off = (pc' : Int))
    (k : J p l e R s m args below meth c cells slots Q n D A (pc') (L) (S) (ws)) : J p l e R s m args below meth c cells slots Q n D A (pc) (L) (.null :: S) (ws) := by
  intro H locs ls hl hP hD hS; exact lv_ifnullN C.1 C.2.1 hd hp (k H locs ls hl hP hD hS)
theorem j_ifnonnull {x : Nat} {off : Int} (C : Cx p R s m args meth c cells slots n D A cc own Ts ret cI cO) (hd : decode cc pc = .ok (.ifnonnull off, 3)) (hp : (pc : Int) + off = (pc' : Int))
    (k : J p l e R s m args below meth c cells slots Q n D A (pc') (L) (S) (ws)) : J p l e R s m args below meth c cells slots Q n D A (pc) (L) (.ref x :: S) (ws) := by
  intro H locs ls hl hP hD hS; exact lv_ifnonnull C.1 C.2.1 hd hp (k H locs ls hl hP hD hS)
theorem j_ifnonnullN {off : Int} (C : Cx p R s m args meth c cells slots n D A cc own Ts ret cI cO) (hd : decode cc pc = .ok (.ifnonnull off, 3)) (hp : pc + 3 = pc')
    (k : J p l e R s m args below meth c cells slots Q n D A (pc') (L) (S) (ws)) : J p l e R s m args below meth c cells slots Q n D A (pc) (L) (.null :: S) (ws) := by
  subst hp; intro H locs ls hl hP hD hS; exact lv_ifnonnullN C.1 C.2.1 hd (k H locs ls hl hP hD hS)
theorem j_swOut {dflt lo hi : Int} {offs : Array Int} {len : Nat} {x : Int32} (C : Cx p R s m args meth c cells slots n D A cc own Ts ret cI cO) (hd : decode cc pc = .ok (.tableswitch dflt lo hi offs, len)) (hp : (pc : Int) + dflt = (pc' : Int)) (h : x.toInt < lo ∨ hi < x.toInt)
    (k : J p l e R s m args below meth c cells slots Q n D A (pc') (L) (S) (ws)) : J p l e R s m args below meth c cells slots Q n D A (pc) (L) (.int x :: S) (ws) := by
  intro H locs ls hl hP hD hS; exact lv_tableOut C.1 C.2.1 hd h hp (k H locs ls hl hP hD hS)
theorem j_swIn {dflt lo hi : Int} {offs : Array Int} {len : Nat} {x : Int32} {off : Int} (C : Cx p R s m args meth c cells slots n D A cc own Ts ret cI cO) (hd : decode cc pc = .ok (.tableswitch dflt lo hi offs, len)) (hp : (pc : Int) + off = (pc' : Int)) (h1 : ¬ x.toInt < lo) (h2 : ¬ hi < x.toInt) (ho : offs[(x.toInt - lo).toNat]? = some off)
    (k : J p l e R s m args below meth c cells slots Q n D A (pc') (L) (S) (ws)) : J p l e R s m args below meth c cells slots Q n D A (pc) (L) (.int x :: S) (ws) := by
  intro H locs ls hl hP hD hS; exact lv_tableIn C.1 C.2.1 hd h1 h2 ho hp (k H locs ls hl hP hD hS)
/-! fields and arrays of the world -/
theorem j_get {ix : Nat} {a ci N : Nat} {Cn : String} {T : u_T} {fs : List Value} {v : Value} (C : Cx p R s m args meth c cells slots n D A cc own Ts ret cI cO) (hd : decode cc pc = .ok (.getfield ix, 3)) (hp : pc + 3 = pc') (q0 k : Nat) (he : ws[q0]? = some (a, .inr (ci, fs))) (hc : vwCl[ci]? = some (Cn, T, N)) (hin : ∀ w ∈ u_ws Cn T N, w ∈ Ts) (hk : k < N) (hm : Cond.fieldLink own ix (T k).1 (T k).2.1 (T k).2.2.1 ∈ Ts) (hv : fs[k]? = some v)
    (kk : J p l e R s m args below meth c cells slots Q n D A (pc') (L) (v :: S) (ws)) : J p l e R s m args below meth c cells slots Q n D A (pc) (L) (.ref a :: S) (ws) := by
  subst hp; intro H locs ls hl hP hD hS
  exact va_get C.1 C.2.1 C.2.2.2.2.1 hin C.2.2.2.1 C.2.2.2.2.2.2.1 hP q0 he hc k hk (C.2.2.2.2.1 _ hm) (fun _ h => h) hv hd (kk H locs ls hl hP hD hS)
theorem j_put {ix : Nat} {a ci N : Nat} {Cn : String} {T : u_T} {fs : List Value} {v : Value} {ty : FieldType} {ws' : va_W} (C : Cx p R s m args meth c cells slots n D A cc own Ts ret cI cO) (hd : decode cc pc = .ok (.putfield ix, 3)) (hp : pc + 3 = pc') (q0 k : Nat) (ty0 : Nat → FieldType) (hty : ∀ k, k < N → parseFieldDescriptor (T k).2.2.1 = some (ty0 k)) (hnm : ∀ a, a < N → ∀ b, b < N → a ≠ b → (T a).2.1 ≠ (T b).2.1) (he : ws[q0]? = some (a, .inr (ci, fs))) (hc : vwCl[ci]? = some (Cn, T, N)) (hin : ∀ w ∈ u_ws Cn T N, w ∈ Ts) (hk : k < N) (hm : Cond.fieldLink own ix (T k).1 (T k).2.1 (T k).2.2.1 ∈ Ts) (hfin : (T k).2.2.2 = false) (hty1 : parseFieldDescriptor (T k).2.2.1 = some ty) (hn : narrow ty v = v) (hfit : fits ty v = true) (hl0 : k < fs.length) (hw : ws.set q0 (a, .inr (ci, fs.set k v)) = ws')
    (kk : J p l e R s m args below meth c cells slots Q n D A (pc') (L) (S) (ws')) : J p l e R s m args below meth c cells slots Q n D A (pc) (L) (v :: .ref a :: S) (ws) := by
  subst hp; subst hw; intro H locs ls hl hP hD hS
  exact va_put C.1 C.2.1 C.2.2.2.2.1 hin ty0 hty hnm C.2.2.2.1 C.2.2.2.2.2.2.1 hP hD hS q0 he hc k hk (C.2.2.2.2.1 _ hm) (fun _ h => h) hfin hty1 hn hfit hl0 hd (fun H1 locs1 hP1 hD1 hS1 => kk H1 locs1 ls hl hP1 hD1 hS1)
theorem j_ald {a len : Nat} {f : Nat → Int32} {i : Int32} (C : Cx p R s m args meth c cells slots n D A cc own Ts ret cI cO) (hd : decode cc pc = .ok (.iaload, 1)) (hp : pc + 1 = pc') (q0 : Nat) (he : ws[q0]? = some (a, .inl (cI, len, .inl f))) (hi : vp_in i len)
    (kk : J p l e R s m args below meth c cells slots Q n D A (pc') (L) (.int (f i.toNatClampNeg) :: S) (ws)) : J p l e R s m args below meth c cells slots Q n D A (pc) (L) (.int i :: .ref a :: S) (ws) := by
  subst hp; intro H locs ls hl hP hD hS
  exact va_iald C.1 C.2.1 C.2.2.2.2.2.2.1 hP q0 0 he rfl hi hd (kk H locs ls hl hP hD hS)
theorem j_ast {a len : Nat} {f : Nat → Int32} {i x : Int32} {ws' : va_W} (C : Cx p R s m args meth c cells slots n D A cc own Ts ret cI cO) (hd : decode cc pc = .ok (.iastore, 1)) (hp : pc + 1 = pc') (q0 : Nat) (he : ws[q0]? = some (a, .inl (cI, len, .inl f))) (hi : vp_in i len) (hw : ws.set q0 (a, .inl (cI, len, .inl (upd f i.toNatClampNeg x))) = ws')
    (kk : J p l e R s m args below meth c cells slots Q n D A (pc') (L) (S) (ws')) : J p l e R s m args below meth c cells slots Q n D A (pc) (L) (.int x :: .int i :: .ref a :: S) (ws) := by
  subst hp; subst hw; intro H locs ls hl hP hD hS
  exact va_iast C.1 C.2.1 C.2.2.2.2.2.2.1 hP hD hS q0 0 he rfl hi hd (fun H1 locs1 hP1 hD1 hS1 => kk H1 locs1 ls hl hP1 hD1 hS1)
theorem j_aald {a len : Nat} {f : Nat → Option Nat} {i : Int32} {b : Nat} (C : Cx p R s m args meth c cells slots n D A cc own Ts ret cI cO) (hd : decode cc pc = .ok (.aaload, 1)) (hp : pc + 1 = pc') (q0 : Nat) (he : ws[q0]? = some (a, .inl (cO, len, .inr (.inr (.inr (.inr f)))))) (hi : vp_in i len) (hb : f i.toNatClampNeg = some b)
    (kk : J p l e R s m args below meth c cells slots Q n D A (pc') (L) (.ref b :: S) (ws)) : J p l e R s m args below meth c cells slots Q n D A (pc) (L) (.int i :: .ref a :: S) (ws) := by
  subst hp; intro H locs ls hl hP hD hS
  refine va_aldq C.1 C.2.1 C.2.2.2.2.2.2.1 hP q0 1 he rfl hi hd ?_
  rw [hb]
  exact kk H locs ls hl hP hD hS
/-! the end of a method -/
theorem j_ret {σ : Type} {wf : σ → va_W} {post : Option Value → σ → Prop} {u : σ} {H : Heap} {locs : List Loc} {v : Option Value} (hpo : post v u) (hP : va_P D vwCl (wf u) H) (hS : va_S A s.heap H locs) : ∀ t : State, t.heap = H → s.WarmedH t.vm → Qg D wf post A args s (.returned v) t := fun t ht _ => ⟨⟨v, u, rfl, hpo, by rw [ht]; exact hP⟩, hS.F ht⟩
theorem j_ireturn {σ : Type} {wf : σ → va_W} {post : Option Value → σ → Prop} (u : σ) {x : Int32} (C : Cx p R s m args meth c 0 0 n D A cc own Ts (some .int) cI cO) (hd : decode cc pc = .ok (.ireturn, 1)) (hpo : post (some (.int x)) u) : J p l e R s m args below meth c 0 0 (RQ below args s D wf post A) n D A pc L (.int x :: []) (wf u) := by
  intro H locs ls hl hP hD hS
  exact W.iret C.1 C.2.1 C.2.2.2.2.2.2.2.1 (j_ret hpo hP hS) hS.2.2 hd (hlocks := C.2.2.2.2.2.1)
theorem j_lreturn {σ : Type} {wf : σ → va_W} {post : Option Value → σ → Prop} (u : σ) {x : Int64} (C : Cx p R s m args meth c 0 0 n D A cc own Ts (some .long) cI cO) (hd : decode cc pc = .ok (.lreturn, 1)) (hpo : post (some (.long x)) u) : J p l e R s m args below meth c 0 0 (RQ below args s D wf post A) n D A pc L (.long x :: []) (wf u) := by
  intro H locs ls hl hP hD hS
  exact W.lret C.1 C.2.1 C.2.2.2.2.2.2.2.1 (j_ret hpo hP hS) hS.2.2 hd (hlocks := C.2.2.2.2.2.1)
theorem j_return {σ : Type} {wf : σ → va_W} {post : Option Value → σ → Prop} (u : σ) (C : Cx p R s m args meth c 0 0 n D A cc own Ts none cI cO) (hd : decode cc pc = .ok (.return_, 1)) (hpo : post (none) u) : J p l e R s m args below meth c 0 0 (RQ below args s D wf post A) n D A pc L ([]) (wf u) := by
  intro H locs ls hl hP hD hS
  exact W.vret C.1 C.2.1 C.2.2.2.2.2.2.2.1 (j_ret hpo hP hS) hS.2.2 hd (hlocks := C.2.2.2.2.2.1)
theorem j_zreturn {σ : Type} {wf : σ → va_W} {post : Option Value → σ → Prop} (u : σ) {x : Int32} (C : Cx p R s m args meth c 0 0 n D A cc own Ts (some .boolean) cI cO) (hd : decode cc pc = .ok (.ireturn, 1)) (hx : x = 0 ∨ x = 1) (hpo : post (some (.int x)) u) : J p l e R s m args below meth c 0 0 (RQ below args s D wf post A) n D A pc L (.int x :: []) (wf u) := by
  intro H locs ls hl hP hD hS
  refine W.zret C.1 C.2.1 C.2.2.2.2.2.2.2.1 ?_ (j_ret hpo hP hS) hS.2.2 hd (hlocks := C.2.2.2.2.2.1)
  rcases hx with rfl | rfl <;> decide +kernel
theorem j_areturn {σ : Type} {wf : σ → va_W} {post : Option Value → σ → Prop} (u : σ) {v : Value} {cn : String} (C : Cx p R s m args meth c 0 0 n D A cc own Ts (some (.object cn)) cI cO) (hd : decode cc pc = .ok (.areturn, 1)) (hv : v = .null ∨ ∃ a, v = .ref a) (hpo : post (some v) u) : J p l e R s m args below meth c 0 0 (RQ below args s D wf post A) n D A pc L (v :: []) (wf u) := by
  intro H locs ls hl hP hD hS
  exact W.aret C.1 C.2.1 C.2.2.2.2.2.2.2.1 (Or.inl ⟨_, rfl⟩) hv (j_ret hpo hP hS) hS.2.2 hd (hlocks := C.2.2.2.2.2.1)
/-! calls -/
theorem va_D_same {B : Nat → Prop} {w w' : va_W} (h : w'.map Prod.fst = w.map Prod.fst) (hD : va_D B w) : va_D B w' := by
  have key : ∀ (k : Nat) (q : Nat × va_E), w'[k]? = some q → ∃ q0, w[k]? = some q0 ∧ q0.1 = q.1 := by
    intro k q hk
    have h1 : (w'.map Prod.fst)[k]? = some q.1 := by rw [List.getElem?_map, hk]; rfl
    rw [h, List.getElem?_map] at h1
    cases hw : w[k]? with
    | none => rw [hw] at h1; cases h1
    | some q0 => rw [hw] at h1; exact ⟨q0, rfl, Option.some.inj h1⟩
  refine ⟨fun i j p q hp hq hpq => ?_, fun k q hk => ?_⟩
  · obtain ⟨p0, a1, a2⟩ := key i p hp
    obtain ⟨q0, b1, b2⟩ := key j q hq
    exact hD.1 i j p0 q0 a1 b1 (by rw [a2, b2]; exact hpq)
  · obtain ⟨q0, a1, a2⟩ := key k q hk
    rw [← a2]
    exact hD.2 k q0 a1
theorem j_perm {ws' : va_W} (is : List Nat) (hn : va_nd is = true) (hs : is.map (fun i => ws[i]?) = ws'.map some) (k : J p l e R s m args below meth c cells slots Q n D A (pc) (L) (S) (ws')) : J p l e R s m args below meth c cells slots Q n D A (pc) (L) (S) (ws) := by
  intro H locs ls hl hP hD hS
  refine k H locs ls hl (hP.sub is ?_) (hD.sub is hn hs) hS
  have : ∀ (is : List Nat) (w : va_W), is.map (fun i => ws[i]?) = w.map some → is.filterMap (fun i => ws[i]?) = w := by
    intro is
    induction is with
    | nil => intro w h; cases w with
      | nil => rfl
      | cons a w => simp at h
    | cons i is ih =>
      intro w h
      cases w with
      | nil => simp at h
      | cons a w =>
        simp only [List.map_cons, List.cons.injEq] at h
        rw [List.filterMap_cons_some h.1, ih w h.2]
  exact this is ws' hs
theorem j_tail {σ : Type} {wfc : σ → va_W} {uc : σ} {post : Option Value → σ → Prop} {rest : List Value} {wr : va_W} {aL : Array Value} (C : Cx p R s m args meth c cells slots n D A cc own Ts ret cI cO) (isC isR : List Nat) (hC : isC.map (fun i => ws[i]?) = (wfc uc).map some) (hR : isR.map (fun i => ws[i]?) = wr.map some) (hnC : va_nd isC = true) (hn : va_nd isR = true) (hdis : ∀ i ∈ isR, i ∉ isC)
    (haddr : ∀ u, (wfc u).map Prod.fst = (wfc uc).map Prod.fst)
    (run : ∀ (H : Heap) (locs : List Loc) (ls : Array Slot), lvh ls n L → va_P D vwCl (wfc uc) H → va_D A (wfc uc) → va_S A s.heap H locs → va_Run p l e R s m args below meth c H locs cells slots 0 0 (F0 m pc ls S) rest (Qg D wfc post (va_A (wfc uc) H.size) aL) (va_A (wfc uc) H.size))
    (kk : ∀ (v : Option Value) (u : σ), post v u → J p l e R s m args below meth c cells slots Q n D A (pc + 3) (L) (v.toList ++ rest) (wr ++ wfc u)) : J p l e R s m args below meth c cells slots Q n D A (pc) (L) (S) (ws) := by
  intro H locs ls hl hP hD hS
  have hPc : va_P D vwCl (wfc uc) H := by
    intro k q hk
    have h1 : (isC.map (fun i => ws[i]?))[k]? = some (some q) := by rw [hC, List.getElem?_map, hk]; rfl
    rw [List.getElem?_map] at h1
    cases hi : isC[k]? with
    | none => rw [hi] at h1; cases h1
    | some i => rw [hi] at h1; exact hP i q (Option.some.inj h1)
  have hDc : va_D A (wfc uc) := hD.sub isC hnC hC
  have hFc := va_free (wc := wfc uc) hD hS C.2.2.2.2.2.2.2.2.2.2 isC hC
  intro T hT X
  obtain ⟨v, st₀, t, T', L2, h0, X', hL, e1, e2, ⟨⟨v', u, hv, hp, hb⟩, hz, hk⟩, st⟩ := run H locs ls hl hPc hDc hS T hT X
  cases hv
  rw [h0] at hz hk
  have hP1 : va_P D vwCl (wfc u) T'.heap := by rw [e1]; exact hb
  have hD1 : va_D (va_A (wfc uc) H.size) (wfc u) := va_D_same (haddr u) hDc.self
  obtain ⟨hP2, hD2⟩ := va_join (wr := wr) (w1 := wfc u) hP hD isC isR hC hR hn hdis (fun q h1 h2 => by rw [e1]; exact hk q h1 h2) hFc hP1 hD1
  obtain ⟨t2, a1, b1⟩ := kk v u hp T'.heap (locs ++ L2) ls hl hP2 hD2
    ⟨Nat.le_trans hS.1 (by rw [e1]; exact hz), fun q h1 h2 => by rw [e1, hk q (Nat.lt_of_lt_of_le h1 hS.1) (fun z => h2 (hFc q z))]; exact hS.2.1 q h1 h2, fun q hq => by
      rcases List.mem_append.mp hq with h | h
      · exact hS.2.2 q h
      · exact hFc _ (hL q h)⟩ T' rfl X'
  exact ⟨t2, st t2 a1, b1⟩
theorem j_pre {σ : Type} {wfc : σ → va_W} {uc : σ} {X : State → Prop} {vs : List Value} {H : Heap} {locs : List Loc} (C : Cx p R s m args meth c cells slots n D A cc own Ts ret cI cO) (hXb : ∀ (a : Array Value) (U : State) (g : JFrame) (mk : MethodId), X U → X (U.calling g mk a)) (hX : ∀ (H : Heap) (locs : List Loc) (U : State), va_S A s.heap H locs → U.heap = H → s.WarmedH U.vm → X U) (hP : va_P D vwCl (wfc uc) H) (hD : va_D A (wfc uc)) (hS : va_S A s.heap H locs) : PreS s H (va_Pc vs (fun U => U.heap.size = H.size ∧ va_P D vwCl (wfc uc) U.heap ∧ va_K D vwCl (tyA cI cO) U ∧ va_D (fun _ => True) (wfc uc) ∧ X U)) vs :=
  ⟨fun a U g mk q => by obtain ⟨q0, q1, qP, qK, qD, qX⟩ := q; exact ⟨q0, q1, qP, va_K.moved (u := U) (U := U.calling g mk a) (Vm.Alike.refl U.vm) qK, qD, hXb a U g mk qX⟩, fun U hU hW => ⟨rfl, by rw [hU], by rw [hU]; exact hP, va_K.moved hW.alike C.2.2.2.2.2.2.1, hD.weaken (fun _ _ _ _ => trivial), hX H locs U hS hU hW⟩⟩
theorem j_callV {σ : Type} {wfc : σ → va_W} {uc : σ} {post : Option Value → σ → Prop} {X : State → Prop} {rest : List Value} {wr : va_W} {y : MethodName} {wsd ws' : List Cond} {h maxL ix : Nat} {bytes : ByteArray} {rt : Option FieldType} {b : Nat} {As : List Value} (C : Cx p R s m args meth c cells slots n D A cc own Ts ret cI cO) (hM : Kt l y wsd h wfc D cI cO X (.ref b :: As) uc post)
    (nA : Nat) (hG : GoodIn Ts (wsV own ix y.cls y wsd)) (hw : wsd = Cond.code y bytes maxL rt :: ws') (hd : y.cls ≠ "java/lang/invoke/MethodHandle" ∧ y.cls ≠ "java/lang/invoke/VarHandle" ∧ (parseMethodDescriptor y.desc).map (fun d => d.parameters.length) = some nA) (hR0 : h + 1 ≤ R.frames ∧ 8 + (maxL + 11) + 34 * h ≤ R.locals) (hnA : As.length = nA) (hst : S = As.reverse ++ .ref b :: rest) (hrs : (rest.map fun v => v.category).sum ≤ 8)
    (hXb : ∀ (a : Array Value) (U : State) (g : JFrame) (mk : MethodId), X U → X (U.calling g mk a)) (hX : ∀ (H : Heap) (locs : List Loc) (U : State), va_S A s.heap H locs → U.heap = H → s.WarmedH U.vm → X U)
    (ci q0 : Nat) {cl0 : vw_C} {fs : List Value} (hcl : vwCl[ci]? = some cl0) (hcn : cl0.1 = y.cls) (hob : (wfc uc)[q0]? = some (b, .inr (ci, fs)))
    (isC isR : List Nat) (hC : isC.map (fun i => ws[i]?) = (wfc uc).map some) (hR : isR.map (fun i => ws[i]?) = wr.map some) (hnC : va_nd isC = true) (hn : va_nd isR = true) (hdis : ∀ i ∈ isR, i ∉ isC)
    (haddr : ∀ u, (wfc u).map Prod.fst = (wfc uc).map Prod.fst) (hdec : decode cc pc = .ok (.invokevirtual ix, 3))
    (kk : ∀ (v : Option Value) (u : σ), post v u → J p l e R s m args below meth c cells slots Q n D A (pc + 3) (L) (v.toList ++ rest) (wr ++ wfc u)) : J p l e R s m args below meth c cells slots Q n D A (pc) (L) (S) (ws) := by
  refine j_tail C isC isR hC hR hnC hn hdis haddr (aL := (Value.ref b :: As).toArray) (fun H locs ls hl hP hD hS => ?_) kk
  have hpre := j_pre (vs := .ref b :: As) C hXb hX hP hD hS
  refine va_runV (As := As) (rest := rest) (b := b) (C := y.cls) ⟨C.1, C.2.1, C.2.2.1, C.2.2.2.1, C.2.2.2.2.1⟩ (hM H.size) (cwV nA C.2.2.2.2.1 hG hw rfl rfl ⟨rfl, hd⟩ hR0) ⟨hpre.1, ?_, hpre.2⟩ rfl hnA hl.1 hst (lv_room hrs) hdec ⟨C.2.2.2.2.2.2.2.2.1, C.2.2.2.2.2.2.2.2.2.1⟩
  have := va_recv C.2.2.2.2.2.2.1 hP hcl hob
  rw [hcn] at this
  exact this
theorem j_callS {σ : Type} {wfc : σ → va_W} {uc : σ} {post : Option Value → σ → Prop} {X : State → Prop} {rest : List Value} {wr : va_W} {y : MethodName} {wsd ws' : List Cond} {h maxL ix : Nat} {bytes : ByteArray} {rt : Option FieldType} {As : List Value} (C : Cx p R s m args meth c cells slots n D A cc own Ts ret cI cO) (hM : Kt l y wsd h wfc D cI cO X As uc post)
    (nA : Nat) (hG : GoodIn Ts (va_wsS own ix y wsd)) (hw : wsd = Cond.code y bytes maxL rt :: ws') (hd : y.cls ≠ "java/lang/invoke/MethodHandle" ∧ y.cls ≠ "java/lang/invoke/VarHandle" ∧ (parseMethodDescriptor y.desc).map (fun d => d.parameters.length) = some nA) (hR0 : h + 1 ≤ R.frames ∧ 8 + (maxL + 11) + 34 * h ≤ R.locals) (hnA : As.length = nA) (hst : S = As.reverse ++ rest) (hrs : (rest.map fun v => v.category).sum ≤ 8)
    (hXb : ∀ (a : Array Value) (U : State) (g : JFrame) (mk : MethodId), X U → X (U.calling g mk a)) (hX : ∀ (H : Heap) (locs : List Loc) (U : State), va_S A s.heap H locs → U.heap = H → s.WarmedH U.vm → X U)
    (isC isR : List Nat) (hC : isC.map (fun i => ws[i]?) = (wfc uc).map some) (hR : isR.map (fun i => ws[i]?) = wr.map some) (hnC : va_nd isC = true) (hn : va_nd isR = true) (hdis : ∀ i ∈ isR, i ∉ isC)
    (haddr : ∀ u, (wfc u).map Prod.fst = (wfc uc).map Prod.fst) (hdec : decode cc pc = .ok (.invokestatic ix, 3))
    (kk : ∀ (v : Option Value) (u : σ), post v u → J p l e R s m args below meth c cells slots Q n D A (pc + 3) (L) (v.toList ++ rest) (wr ++ wfc u)) : J p l e R s m args below meth c cells slots Q n D A (pc) (L) (S) (ws) := by
  refine j_tail C isC isR hC hR hnC hn hdis haddr (aL := As.toArray) (fun H locs ls hl hP hD hS => ?_) kk
  have ok : ∀ w ∈ va_wsS own ix y wsd, w.before args s = true := fun w h => C.2.2.2.2.1 w (hG w h).1
  refine va_runS (As := As) (rest := rest) ⟨C.1, C.2.1, C.2.2.1, C.2.2.2.1, C.2.2.2.2.1⟩ (hM H.size) ⟨callB_of nA C.2.2.2.2.1 (fun w h => hG w (by unfold va_wsS; exact List.mem_append_right _ h)) hw rfl rfl (ok _ (by simp [va_wsS])) (ok _ (by simp [va_wsS])) hd hR0, ok _ (by simp [va_wsS])⟩ (j_pre (vs := As) C hXb hX hP hD hS) rfl hnA hl.1 hst (lv_room hrs) hdec ⟨C.2.2.2.2.2.2.2.2.1, C.2.2.2.2.2.2.2.2.2.1⟩
theorem j_max {ix : Nat} {x y : Int32} (C : Cx p R s m args meth c cells slots n D A cc own Ts ret cI cO) (hd : decode cc pc = .ok (.invokestatic ix, 3)) (hp : pc + 3 = pc') (h1 : Cond.methodLink own ix Lib.Math.max.name ∈ Ts) (h2 : Cond.static Lib.Math.max.name ∈ Ts) (h3 : Cond.initialized "java/lang/Math" ∈ Ts) (h4 : Cond.code Lib.Math.max.name Lib.Math.max.code 2 (some .int) ∈ Ts) (h5 : 1 ≤ R.frames) (h6 : (S.map fun v => v.category).sum + 13 ≤ R.locals)
    (k : J p l e R s m args below meth c cells slots Q n D A (pc') (L) (.int (if x < y then y else x) :: S) (ws)) : J p l e R s m args below meth c cells slots Q n D A (pc) (L) (.int y :: .int x :: S) (ws) := by
  subst hp; intro H locs ls hl hP hD hS
  exact va_mmax C.1 C.2.1 (C.2.2.1.trans hl.1.symm) C.2.2.2.1 (C.2.2.2.2.1 _ h1) (C.2.2.2.2.1 _ h2) (C.2.2.2.2.1 _ h3) (C.2.2.2.2.1 _ h4) h5 h6 C.2.2.2.2.2.2.2.2.1 C.2.2.2.2.2.2.2.2.2.1 hd (k H locs ls hl hP hD hS)
theorem j_min {ix : Nat} {x y : Int32} (C : Cx p R s m args meth c cells slots n D A cc own Ts ret cI cO) (hd : decode cc pc = .ok (.invokestatic ix, 3)) (hp : pc + 3 = pc') (h1 : Cond.methodLink own ix Lib.Math.min.name ∈ Ts) (h2 : Cond.static Lib.Math.min.name ∈ Ts) (h3 : Cond.initialized "java/lang/Math" ∈ Ts) (h4 : Cond.code Lib.Math.min.name Lib.Math.min.code 2 (some .int) ∈ Ts) (h5 : 1 ≤ R.frames) (h6 : (S.map fun v => v.category).sum + 13 ≤ R.locals)
    (k : J p l e R s m args below meth c cells slots Q n D A (pc') (L) (.int (if y < x then y else x) :: S) (ws)) : J p l e R s m args below meth c cells slots Q n D A (pc) (L) (.int y :: .int x :: S) (ws) := by
  subst hp; intro H locs ls hl hP hD hS
  exact va_mmin C.1 C.2.1 (C.2.2.1.trans hl.1.symm) C.2.2.2.1 (C.2.2.2.2.1 _ h1) (C.2.2.2.2.1 _ h2) (C.2.2.2.2.1 _ h3) (C.2.2.2.2.1 _ h4) h5 h6 C.2.2.2.2.2.2.2.2.1 C.2.2.2.2.2.2.2.2.2.1 hd (k H locs ls hl hP hD hS)
theorem j_copy {ix : Nat} {a0 a1 n0 n1 : Nat} {f g : Nat → Int32} {ws' : va_W} {k : Int32} (C : Cx p R s m args meth c cells slots n D A cc own Ts ret cI cO) (hd : decode cc pc = .ok (.invokestatic ix, 3)) (hp : pc + 3 = pc') (q0 q1 : Nat) (h1 : Cond.methodLink own ix arraycopyName ∈ Ts) (h2 : Cond.native arraycopyName ∈ Ts) (h3 : Cond.static arraycopyName ∈ Ts) (h4 : Cond.initialized "java/lang/System" ∈ Ts) (ha0 : ws[q0]? = some (a0, .inl (cI, n0, .inl f))) (ha1 : ws[q1]? = some (a1, .inl (cI, n1, .inl g))) (hk : ¬ k < 0) (hk0 : k.toNatClampNeg ≤ n0) (hk1 : k.toNatClampNeg ≤ n1) (hw : ws.set q1 (a1, .inl (cI, n1, .inl (va_cpy f g 0 0 k.toNatClampNeg))) = ws') (h5 : 1 ≤ R.frames) (h6 : (S.map fun v => v.category).sum + (nativeFrameWords "java/lang/System" "arraycopy" 5 + 11) ≤ R.locals)
    (kk : J p l e R s m args below meth c cells slots Q n D A (pc') (L) (S) (ws')) : J p l e R s m args below meth c cells slots Q n D A (pc) (L) (.int k :: .int 0 :: .ref a1 :: .int 0 :: .ref a0 :: S) (ws) := by
  subst hp; subst hw; intro H locs ls hl hP hD hS
  exact va_copyi C.1 C.2.1 (C.2.2.1.trans hl.1.symm) C.2.2.2.1 (C.2.2.2.2.1 _ h1) (C.2.2.2.2.1 _ h2) (C.2.2.2.2.1 _ h3) (C.2.2.2.2.1 _ h4) C.2.2.2.2.2.2.1 hP hD hS q0 q1 0 0 ha0 ha1 rfl rfl rfl (by decide) (by decide) hk (by rw [sb_cl0]; omega) (by rw [sb_cl0]; omega) (fun _ _ => rfl) h5 h6 hd (fun H1 locs1 hP1 hD1 hS1 => kk H1 locs1 ls hl hP1 hD1 hS1)
end ENG
theorem Kt_of {l : Launch} {y : MethodName} {wsd ws' : List Cond} {h n : Nat} {σ : Type} {wf : σ → va_W} {D : va_G} {cI cO : ClassId} {X : State → Prop} {vs : List Value} {u : σ} {post : Option Value → σ → Prop} {cc : ByteArray} {ret : Option FieldType} (hw : wsd = Cond.code y cc n ret :: ws') (hy : plainName y.cls = true) (hlen : vs.length ≤ n) (hcat0 : (vs.all fun v => v.category == 1) = true) (L : List (Option Value)) (hL : L = vs.map some ++ List.replicate (n - vs.length) none)
    (body : ∀ (p : Program) (e : Env) (s : State) (m : MethodId) (args : Array Value) (below : List Frame) (meth : Method) (c : Code) (A : Nat → Prop), Cx p (rmH h) s m args meth c 0 0 n D A cc y.cls wsd ret cI cO → X s → (∀ q : Nat, A q → va_A (wf u) s.heap.size q) → J p l e (rmH h) s m args below meth c 0 0 (RQ below args s D wf post A) n D A 0 L [] (wf u)) : Kt l y wsd h wf D cI cO X vs u post := by
  intro sz
  have hcat : ∀ v ∈ vs, v.category = 1 := fun v hv => by have := List.all_eq_true.mp hcat0 v hv; simpa using this
  refine Met.ofW (cc := cc) (maxL := n) (ret := ret) hy hw ?_
  intro p e s m args below meth c s₁ B hml hv
  obtain ⟨rfl, hsz, hP, hK, hD0, hX⟩ := hv
  subst hsz
  have hown : s.vm.findClass y.cls = some m.cls := findClass_of_methodNamed B.named
  have hts := atoms_spec (ws := wsd) B.pre
  have hl := lv_entry vs (n := n) (by rw [lg_sl_len vs hcat]; exact hlen)
  rw [lg_entry_eq]
  refine body p e s m vs.toArray below meth c (va_A (wf u) s.heap.size) ⟨B.exec, B.bytes, hml, hown, hts, B.notSynchronized, hK, B.returns, Nat.zero_le _, Nat.zero_le _, fun q hq => Or.inr hq⟩ hX (fun _ h => h) s.heap [] _ ?_ hP hD0.self va_S.rf
  refine ⟨hl.1, hl.2.1, fun q hq => ?_⟩
  obtain ⟨k, v⟩ := q
  rw [lvT_mem, hL] at hq
  have hv : vs[k]? = some v := by
    rcases Nat.lt_or_ge k vs.length with hk | hk
    · rw [List.getElem?_append_left (by simpa using hk), List.getElem?_map] at hq
      cases hvk : vs[k]? with
      | none => rw [hvk] at hq; cases hq
      | some w => rw [hvk] at hq; simpa using hq
    · rw [List.getElem?_append_right (by simpa using hk)] at hq
      have := List.eq_of_mem_replicate (List.mem_of_getElem? hq)
      cases this
  have := lv_args_mem vs 0 k v hcat hv
  rw [Nat.zero_add] at this
  exact hl.2.2 (k, v) this
end
section

/-! the worlds: a Table (object at B 0, arrays at B 3 .. B 11), the Model (object at B 10, arrays at B 0 .. B 9, B 11), one array, nothing -/
abbrev TS : Type := (Nat → Int32) × (Nat → Nat → Int32)
def ua (f : Nat → Nat → Int32) (k : Nat) (g : Nat → Int32) : Nat → Nat → Int32 := fun j => if j = k then g else f j
theorem ua_s (f : Nat → Nat → Int32) (k : Nat) (g : Nat → Int32) : ua f k g k = g := if_pos rfl
theorem ua_n (f : Nat → Nat → Int32) {k j : Nat} (g : Nat → Int32) (h : j ≠ k) : ua f k g j = f j := if_neg h
def lenT (k : Nat) : Nat := if k ≤ 7 then 40 else if k = 8 then 64 else 65
def fldT (B : Nat → Nat) (t : TS) : List Value := [.int (t.1 0), .int (t.1 1), .int (t.1 2), .ref (B 3), .ref (B 4), .ref (B 5), .ref (B 6), .ref (B 7), .ref (B 8), .ref (B 9), .ref (B 10), .ref (B 11), .int (t.1 12), .int (t.1 13)]
def wT (cI : ClassId) (B : Nat → Nat) (t : TS) : va_W := [(B 0, .inr (0, fldT B t)), (B 3, .inl (cI, 40, .inl (t.2 3))), (B 4, .inl (cI, 40, .inl (t.2 4))), (B 5, .inl (cI, 40, .inl (t.2 5))), (B 6, .inl (cI, 40, .inl (t.2 6))), (B 7, .inl (cI, 40, .inl (t.2 7))), (B 8, .inl (cI, 64, .inl (t.2 8))), (B 9, .inl (cI, 65, .inl (t.2 9))), (B 10, .inl (cI, 65, .inl (t.2 10))), (B 11, .inl (cI, 65, .inl (t.2 11)))]
def lenM (k : Nat) : Nat := if k ≤ 2 then 3 else if k ≤ 7 then 120 else if k = 8 then 192 else if k = 9 then 4225 else 195
def fldM (B : Nat → Nat) (t : TS) : List Value := [.ref (B 0), .ref (B 1), .ref (B 2), .ref (B 3), .ref (B 4), .ref (B 5), .ref (B 6), .ref (B 7), .ref (B 8), .ref (B 9), .int (t.1 10), .ref (B 11)]
def wM (cI : ClassId) (B : Nat → Nat) (t : TS) : va_W := [(B 0, .inl (cI, 3, .inl (t.2 0))), (B 1, .inl (cI, 3, .inl (t.2 1))), (B 2, .inl (cI, 3, .inl (t.2 2))), (B 3, .inl (cI, 120, .inl (t.2 3))), (B 4, .inl (cI, 120, .inl (t.2 4))), (B 5, .inl (cI, 120, .inl (t.2 5))), (B 6, .inl (cI, 120, .inl (t.2 6))), (B 7, .inl (cI, 120, .inl (t.2 7))), (B 8, .inl (cI, 192, .inl (t.2 8))), (B 9, .inl (cI, 4225, .inl (t.2 9))), (B 10, .inr (2, fldM B t)), (B 11, .inl (cI, 195, .inl (t.2 11)))]
def wA (cI : ClassId) (a len : Nat) (f : Nat → Int32) : va_W := [(a, .inl (cI, len, .inl f))]
def wN (_ : Unit) : va_W := []
theorem wT_obj (cI : ClassId) (B : Nat → Nat) (t : TS) : (wT cI B t)[0]? = some (B 0, .inr (0, fldT B t)) := rfl
theorem wM_obj (cI : ClassId) (B : Nat → Nat) (t : TS) : (wM cI B t)[10]? = some (B 10, .inr (2, fldM B t)) := rfl
theorem wT_arr (cI : ClassId) (B : Nat → Nat) (t : TS) {k : Nat} (hk : 3 ≤ k ∧ k ≤ 11) : (wT cI B t)[k - 2]? = some (B k, .inl (cI, lenT k, .inl (t.2 k))) := by
  rcases (show k = 3 ∨ k = 4 ∨ k = 5 ∨ k = 6 ∨ k = 7 ∨ k = 8 ∨ k = 9 ∨ k = 10 ∨ k = 11 by omega) with rfl | rfl | rfl | rfl | rfl | rfl | rfl | rfl | rfl <;> rfl
theorem wT_setA (cI : ClassId) (B : Nat → Nat) (t : TS) {k : Nat} (hk : 3 ≤ k ∧ k ≤ 11) (g : Nat → Int32) : (wT cI B t).set (k - 2) (B k, .inl (cI, lenT k, .inl g)) = wT cI B (t.1, ua t.2 k g) := by
  rcases (show k = 3 ∨ k = 4 ∨ k = 5 ∨ k = 6 ∨ k = 7 ∨ k = 8 ∨ k = 9 ∨ k = 10 ∨ k = 11 by omega) with rfl | rfl | rfl | rfl | rfl | rfl | rfl | rfl | rfl <;> rfl
theorem wM_arr (cI : ClassId) (B : Nat → Nat) (t : TS) {k : Nat} (hk : k ≤ 11 ∧ k ≠ 10) : (wM cI B t)[k]? = some (B k, .inl (cI, lenM k, .inl (t.2 k))) := by
  rcases (show k = 0 ∨ k = 1 ∨ k = 2 ∨ k = 3 ∨ k = 4 ∨ k = 5 ∨ k = 6 ∨ k = 7 ∨ k = 8 ∨ k = 9 ∨ k = 11 by omega) with rfl | rfl | rfl | rfl | rfl | rfl | rfl | rfl | rfl | rfl | rfl <;> rfl
theorem wM_setA (cI : ClassId) (B : Nat → Nat) (t : TS) {k : Nat} (hk : k ≤ 11 ∧ k ≠ 10) (g : Nat → Int32) : (wM cI B t).set k (B k, .inl (cI, lenM k, .inl g)) = wM cI B (t.1, ua t.2 k g) := by
  rcases (show k = 0 ∨ k = 1 ∨ k = 2 ∨ k = 3 ∨ k = 4 ∨ k = 5 ∨ k = 6 ∨ k = 7 ∨ k = 8 ∨ k = 9 ∨ k = 11 by omega) with rfl | rfl | rfl | rfl | rfl | rfl | rfl | rfl | rfl | rfl | rfl <;> rfl
def isIT (k : Nat) : Prop := k = 0 ∨ k = 1 ∨ k = 2 ∨ k = 12 ∨ k = 13
theorem fldT_i (B : Nat → Nat) (t : TS) {k : Nat} (hk : isIT k) : (fldT B t)[k]? = some (.int (t.1 k)) := by
  rcases hk with rfl | rfl | rfl | rfl | rfl <;> rfl
theorem fldT_a (B : Nat → Nat) (t : TS) {k : Nat} (hk : 3 ≤ k ∧ k ≤ 11) : (fldT B t)[k]? = some (.ref (B k)) := by
  rcases (show k = 3 ∨ k = 4 ∨ k = 5 ∨ k = 6 ∨ k = 7 ∨ k = 8 ∨ k = 9 ∨ k = 10 ∨ k = 11 by omega) with rfl | rfl | rfl | rfl | rfl | rfl | rfl | rfl | rfl <;> rfl
theorem fldM_a (B : Nat → Nat) (t : TS) {k : Nat} (hk : k ≤ 11 ∧ k ≠ 10) : (fldM B t)[k]? = some (.ref (B k)) := by
  rcases (show k = 0 ∨ k = 1 ∨ k = 2 ∨ k = 3 ∨ k = 4 ∨ k = 5 ∨ k = 6 ∨ k = 7 ∨ k = 8 ∨ k = 9 ∨ k = 11 by omega) with rfl | rfl | rfl | rfl | rfl | rfl | rfl | rfl | rfl | rfl | rfl <;> rfl
theorem wT_setF (cI : ClassId) (B : Nat → Nat) (t : TS) {k : Nat} (hk : isIT k) (v : Int32) : (wT cI B t).set 0 (B 0, .inr (0, (fldT B t).set k (.int v))) = wT cI B (upd t.1 k v, t.2) := by
  rcases hk with rfl | rfl | rfl | rfl | rfl <;> rfl
theorem wM_setF (cI : ClassId) (B : Nat → Nat) (t : TS) (v : Int32) : (wM cI B t).set 10 (B 10, .inr (2, (fldM B t).set 10 (.int v))) = wM cI B (upd t.1 10 v, t.2) := rfl
section ENW
variable {p : Program} {l : Launch} {e : Env} {R : Room} {s : State} {m : MethodId} {args : Array Value} {below : List Frame} {meth : Method} {c : Code} {cells slots : Nat} {Q : State → Prop} {n : Nat} {D : va_G} {A : Nat → Prop} {cc : ByteArray} {own : String} {Ts : List Cond} {ret : Option FieldType} {cI cO : ClassId} {pc pc' : Nat} {L : List (Option Value)} {S : List Value} {ws : va_W} {B : Nat → Nat} {t : TS}
theorem jTi {ix : Nat} (C : Cx p R s m args meth c cells slots n D A cc own Ts ret cI cO) (hd : decode cc pc = .ok (.getfield ix, 3)) (hp : pc + 3 = pc') (k : Nat) (hk : isIT k) (hin : ∀ w ∈ wsX00, w ∈ Ts) (hm : Cond.fieldLink own ix (TX0 k).1 (TX0 k).2.1 (TX0 k).2.2.1 ∈ Ts)
    (kk : J p l e R s m args below meth c cells slots Q n D A (pc') (L) (.int (t.1 k) :: S) (wT cI B t)) : J p l e R s m args below meth c cells slots Q n D A (pc) (L) (.ref (B 0) :: S) (wT cI B t) := j_get C hd hp 0 k (wT_obj cI B t) rfl hin (by rcases hk with rfl | rfl | rfl | rfl | rfl <;> decide) hm (fldT_i B t hk) kk
theorem jTa {ix : Nat} (C : Cx p R s m args meth c cells slots n D A cc own Ts ret cI cO) (hd : decode cc pc = .ok (.getfield ix, 3)) (hp : pc + 3 = pc') (k : Nat) (hk : 3 ≤ k ∧ k ≤ 11) (hin : ∀ w ∈ wsX00, w ∈ Ts) (hm : Cond.fieldLink own ix (TX0 k).1 (TX0 k).2.1 (TX0 k).2.2.1 ∈ Ts)
    (kk : J p l e R s m args below meth c cells slots Q n D A (pc') (L) (.ref (B k) :: S) (wT cI B t)) : J p l e R s m args below meth c cells slots Q n D A (pc) (L) (.ref (B 0) :: S) (wT cI B t) := j_get C hd hp 0 k (wT_obj cI B t) rfl hin (by omega) hm (fldT_a B t hk) kk
theorem jTl {i : Int32} (C : Cx p R s m args meth c cells slots n D A cc own Ts ret cI cO) (hd : decode cc pc = .ok (.iaload, 1)) (hp : pc + 1 = pc') (k : Nat) (hk : 3 ≤ k ∧ k ≤ 11) (hi : vp_in i (lenT k))
    (kk : J p l e R s m args below meth c cells slots Q n D A (pc') (L) (.int (t.2 k i.toNatClampNeg) :: S) (wT cI B t)) : J p l e R s m args below meth c cells slots Q n D A (pc) (L) (.int i :: .ref (B k) :: S) (wT cI B t) := j_ald C hd hp _ (wT_arr cI B t hk) hi kk
theorem jTs {i x : Int32} (C : Cx p R s m args meth c cells slots n D A cc own Ts ret cI cO) (hd : decode cc pc = .ok (.iastore, 1)) (hp : pc + 1 = pc') (k : Nat) (hk : 3 ≤ k ∧ k ≤ 11) (hi : vp_in i (lenT k))
    (kk : J p l e R s m args below meth c cells slots Q n D A (pc') (L) (S) (wT cI B (t.1, ua t.2 k (upd (t.2 k) i.toNatClampNeg x)))) : J p l e R s m args below meth c cells slots Q n D A (pc) (L) (.int x :: .int i :: .ref (B k) :: S) (wT cI B t) := j_ast C hd hp _ (wT_arr cI B t hk) hi (wT_setA cI B t hk _) kk
theorem jTlN {i : Int32} (C : Cx p R s m args meth c cells slots n D A cc own Ts ret cI cO) (hd : decode cc pc = .ok (.iaload, 1)) (hp : pc + 1 = pc') (k : Nat) (hk : 3 ≤ k ∧ k ≤ 11) (j : Nat) (hj : i = nI j) (hi : j < lenT k)
    (kk : J p l e R s m args below meth c cells slots Q n D A (pc') (L) (.int (t.2 k j) :: S) (wT cI B t)) : J p l e R s m args below meth c cells slots Q n D A (pc) (L) (.int i :: .ref (B k) :: S) (wT cI B t) := by
  subst hj
  have hb : lenT k < 2 ^ 31 := by unfold lenT; (repeat' split) <;> decide
  refine jTl C hd hp k hk (vp_in_nI hi hb) ?_
  rw [nI_clamp (by omega)]
  exact kk
theorem jTsN {i x : Int32} (C : Cx p R s m args meth c cells slots n D A cc own Ts ret cI cO) (hd : decode cc pc = .ok (.iastore, 1)) (hp : pc + 1 = pc') (k : Nat) (hk : 3 ≤ k ∧ k ≤ 11) (j : Nat) (hj : i = nI j) (hi : j < lenT k)
    (kk : J p l e R s m args below meth c cells slots Q n D A (pc') (L) (S) (wT cI B (t.1, ua t.2 k (upd (t.2 k) j x)))) : J p l e R s m args below meth c cells slots Q n D A (pc) (L) (.int x :: .int i :: .ref (B k) :: S) (wT cI B t) := by
  subst hj
  have hb : lenT k < 2 ^ 31 := by unfold lenT; (repeat' split) <;> decide
  refine jTs C hd hp k hk (vp_in_nI hi hb) ?_
  rw [nI_clamp (by omega)]
  exact kk
theorem jTp {ix : Nat} {v : Int32} (C : Cx p R s m args meth c cells slots n D A cc own Ts ret cI cO) (hd : decode cc pc = .ok (.putfield ix, 3)) (hp : pc + 3 = pc') (k : Nat) (hk : k = 0 ∨ k = 1 ∨ k = 2) (hin : ∀ w ∈ wsX00, w ∈ Ts) (hm : Cond.fieldLink own ix (TX0 k).1 (TX0 k).2.1 (TX0 k).2.2.1 ∈ Ts)
    (kk : J p l e R s m args below meth c cells slots Q n D A (pc') (L) (S) (wT cI B (upd t.1 k v, t.2))) : J p l e R s m args below meth c cells slots Q n D A (pc) (L) (.int v :: .ref (B 0) :: S) (wT cI B t) := by
  have hk2 : isIT k := by unfold isIT; omega
  refine j_put C hd hp 0 k tyX0 tyX0_ok nmX0 (ty := .int) (wT_obj cI B t) rfl hin (by omega) hm ?_ ?_ (vp_nar_int v) rfl ?_ (wT_setF cI B t hk2 v) kk
  · rcases hk with rfl | rfl | rfl <;> rfl
  · rcases hk with rfl | rfl | rfl <;> decide +kernel
  · rcases hk with rfl | rfl | rfl <;> (simp [fldT])
theorem jTpZ {ix : Nat} {v : Int32} (C : Cx p R s m args meth c cells slots n D A cc own Ts ret cI cO) (hd : decode cc pc = .ok (.putfield ix, 3)) (hp : pc + 3 = pc') (k : Nat) (hk : k = 12 ∨ k = 13) (hin : ∀ w ∈ wsX00, w ∈ Ts) (hm : Cond.fieldLink own ix (TX0 k).1 (TX0 k).2.1 (TX0 k).2.2.1 ∈ Ts) (hv : v = 0 ∨ v = 1)
    (kk : J p l e R s m args below meth c cells slots Q n D A (pc') (L) (S) (wT cI B (upd t.1 k v, t.2))) : J p l e R s m args below meth c cells slots Q n D A (pc) (L) (.int v :: .ref (B 0) :: S) (wT cI B t) := by
  have hk2 : isIT k := by unfold isIT; omega
  refine j_put C hd hp 0 k tyX0 tyX0_ok nmX0 (ty := .boolean) (wT_obj cI B t) rfl hin (by omega) hm ?_ ?_ ?_ ?_ ?_ (wT_setF cI B t hk2 v) kk
  · rcases hk with rfl | rfl <;> rfl
  · rcases hk with rfl | rfl <;> decide +kernel
  · rcases hv with rfl | rfl <;> decide +kernel
  · rcases hv with rfl | rfl <;> decide +kernel
  · rcases hk with rfl | rfl <;> (simp [fldT])
theorem jMi {ix : Nat} (C : Cx p R s m args meth c cells slots n D A cc own Ts ret cI cO) (hd : decode cc pc = .ok (.getfield ix, 3)) (hp : pc + 3 = pc') (hin : ∀ w ∈ wsX20, w ∈ Ts) (hm : Cond.fieldLink own ix (TX2 10).1 (TX2 10).2.1 (TX2 10).2.2.1 ∈ Ts)
    (kk : J p l e R s m args below meth c cells slots Q n D A (pc') (L) (.int (t.1 10) :: S) (wM cI B t)) : J p l e R s m args below meth c cells slots Q n D A (pc) (L) (.ref (B 10) :: S) (wM cI B t) := j_get C hd hp 10 10 (wM_obj cI B t) rfl hin (by decide) hm (rfl) kk
theorem jMa {ix : Nat} (C : Cx p R s m args meth c cells slots n D A cc own Ts ret cI cO) (hd : decode cc pc = .ok (.getfield ix, 3)) (hp : pc + 3 = pc') (k : Nat) (hk : k ≤ 11 ∧ k ≠ 10) (hin : ∀ w ∈ wsX20, w ∈ Ts) (hm : Cond.fieldLink own ix (TX2 k).1 (TX2 k).2.1 (TX2 k).2.2.1 ∈ Ts)
    (kk : J p l e R s m args below meth c cells slots Q n D A (pc') (L) (.ref (B k) :: S) (wM cI B t)) : J p l e R s m args below meth c cells slots Q n D A (pc) (L) (.ref (B 10) :: S) (wM cI B t) := j_get C hd hp 10 k (wM_obj cI B t) rfl hin (by omega) hm (fldM_a B t hk) kk
theorem jMl {i : Int32} (C : Cx p R s m args meth c cells slots n D A cc own Ts ret cI cO) (hd : decode cc pc = .ok (.iaload, 1)) (hp : pc + 1 = pc') (k : Nat) (hk : k ≤ 11 ∧ k ≠ 10) (hi : vp_in i (lenM k))
    (kk : J p l e R s m args below meth c cells slots Q n D A (pc') (L) (.int (t.2 k i.toNatClampNeg) :: S) (wM cI B t)) : J p l e R s m args below meth c cells slots Q n D A (pc) (L) (.int i :: .ref (B k) :: S) (wM cI B t) := j_ald C hd hp _ (wM_arr cI B t hk) hi kk
theorem jMs {i x : Int32} (C : Cx p R s m args meth c cells slots n D A cc own Ts ret cI cO) (hd : decode cc pc = .ok (.iastore, 1)) (hp : pc + 1 = pc') (k : Nat) (hk : k ≤ 11 ∧ k ≠ 10) (hi : vp_in i (lenM k))
    (kk : J p l e R s m args below meth c cells slots Q n D A (pc') (L) (S) (wM cI B (t.1, ua t.2 k (upd (t.2 k) i.toNatClampNeg x)))) : J p l e R s m args below meth c cells slots Q n D A (pc) (L) (.int x :: .int i :: .ref (B k) :: S) (wM cI B t) := j_ast C hd hp _ (wM_arr cI B t hk) hi (wM_setA cI B t hk _) kk
theorem jMlN {i : Int32} (C : Cx p R s m args meth c cells slots n D A cc own Ts ret cI cO) (hd : decode cc pc = .ok (.iaload, 1)) (hp : pc + 1 = pc') (k : Nat) (hk : k ≤ 11 ∧ k ≠ 10) (j : Nat) (hj : i = nI j) (hi : j < lenM k)
    (kk : J p l e R s m args below meth c cells slots Q n D A (pc') (L) (.int (t.2 k j) :: S) (wM cI B t)) : J p l e R s m args below meth c cells slots Q n D A (pc) (L) (.int i :: .ref (B k) :: S) (wM cI B t) := by
  subst hj
  have hb : lenM k < 2 ^ 31 := by unfold lenM; (repeat' split) <;> decide
  refine jMl C hd hp k hk (vp_in_nI hi hb) ?_
  rw [nI_clamp (by omega)]
  exact kk
theorem jMsN {i x : Int32} (C : Cx p R s m args meth c cells slots n D A cc own Ts ret cI cO) (hd : decode cc pc = .ok (.iastore, 1)) (hp : pc + 1 = pc') (k : Nat) (hk : k ≤ 11 ∧ k ≠ 10) (j : Nat) (hj : i = nI j) (hi : j < lenM k)
    (kk : J p l e R s m args below meth c cells slots Q n D A (pc') (L) (S) (wM cI B (t.1, ua t.2 k (upd (t.2 k) j x)))) : J p l e R s m args below meth c cells slots Q n D A (pc) (L) (.int x :: .int i :: .ref (B k) :: S) (wM cI B t) := by
  subst hj
  have hb : lenM k < 2 ^ 31 := by unfold lenM; (repeat' split) <;> decide
  refine jMs C hd hp k hk (vp_in_nI hi hb) ?_
  rw [nI_clamp (by omega)]
  exact kk
theorem jMp {ix : Nat} {v : Int32} (C : Cx p R s m args meth c cells slots n D A cc own Ts ret cI cO) (hd : decode cc pc = .ok (.putfield ix, 3)) (hp : pc + 3 = pc') (hin : ∀ w ∈ wsX20, w ∈ Ts) (hm : Cond.fieldLink own ix (TX2 10).1 (TX2 10).2.1 (TX2 10).2.2.1 ∈ Ts)
    (kk : J p l e R s m args below meth c cells slots Q n D A (pc') (L) (S) (wM cI B (upd t.1 10 v, t.2))) : J p l e R s m args below meth c cells slots Q n D A (pc) (L) (.int v :: .ref (B 10) :: S) (wM cI B t) :=
  j_put C hd hp 10 10 tyX2 tyX2_ok nmX2 (ty := .int) (wM_obj cI B t) rfl hin (by decide) hm rfl (by decide +kernel) (vp_nar_int v) rfl (by simp [fldM]) (wM_setF cI B t v) kk

/-! an array alone -/
theorem jAl {a len : Nat} {f : Nat → Int32} {i : Int32} (C : Cx p R s m args meth c cells slots n D A cc own Ts ret cI cO) (hd : decode cc pc = .ok (.iaload, 1)) (hp : pc + 1 = pc') (j : Nat) (hb : len < 2 ^ 31) (hj : i = nI j) (hi : j < len)
    (kk : J p l e R s m args below meth c cells slots Q n D A (pc') (L) (.int (f j) :: S) (wA cI a len f)) : J p l e R s m args below meth c cells slots Q n D A (pc) (L) (.int i :: .ref a :: S) (wA cI a len f) := by
  subst hj
  refine j_ald C hd hp 0 (len := len) (f := f) rfl (vp_in_nI hi hb) ?_
  rw [nI_clamp (by omega)]
  exact kk
theorem jAs {a len : Nat} {f : Nat → Int32} {i x : Int32} (C : Cx p R s m args meth c cells slots n D A cc own Ts ret cI cO) (hd : decode cc pc = .ok (.iastore, 1)) (hp : pc + 1 = pc') (j : Nat) (hb : len < 2 ^ 31) (hj : i = nI j) (hi : j < len)
    (kk : J p l e R s m args below meth c cells slots Q n D A (pc') (L) (S) (wA cI a len (upd f j x))) : J p l e R s m args below meth c cells slots Q n D A (pc) (L) (.int x :: .int i :: .ref a :: S) (wA cI a len f) := by
  subst hj
  refine j_ast C hd hp 0 (len := len) (f := f) rfl (vp_in_nI hi hb) rfl ?_
  rw [nI_clamp (by omega)]
  exact kk
theorem jAn {a len : Nat} {f : Nat → Int32} (C : Cx p R s m args meth c cells slots n D A cc own Ts ret cI cO) (hd : decode cc pc = .ok (.arraylength, 1)) (hp : pc + 1 = pc')
    (kk : J p l e R s m args below meth c cells slots Q n D A (pc') (L) (.int (nI len) :: S) (wA cI a len f)) : J p l e R s m args below meth c cells slots Q n D A (pc) (L) (.ref a :: S) (wA cI a len f) := by
  subst hp; intro H locs ls hl hP hD hS
  exact va_alen C.1 C.2.1 C.2.2.2.2.2.2.1 hP 0 0 rfl rfl rfl hd (kk H locs ls hl hP hD hS)
/-! calls: on the same world; of a static method that asks for nothing; of a static method on one array of a Table -/
theorem rng_self (w : va_W) : (List.range w.length).map (fun i => w[i]?) = w.map some := by
  apply List.ext_getElem?
  intro i
  by_cases hi : i < w.length
  · simp [hi]
  · simp [hi]
def nd_le : Nat → List Nat → Bool
  | _, [] => true
  | a, b :: l => decide (a < b) && nd_le b l
theorem nd_of : ∀ (k s : Nat), va_nd ((List.range k).map (fun i => s + i)) = true := by
  intro k
  induction k with
  | zero => intro s; rfl
  | succ k ih =>
    intro s
    rw [List.range_succ_eq_map]
    simp only [List.map_cons, List.map_map, va_nd, Bool.and_eq_true, decide_eq_true_eq]
    constructor
    · intro h
      obtain ⟨i, hi, e⟩ := List.mem_map.mp h
      simp at e
    · have := ih (s + 1)
      rw [← this]
      congr 1
      apply List.map_congr_left
      intro i _
      simp
      omega
theorem nd_range (k : Nat) : va_nd (List.range k) = true := by
  have := nd_of k 0
  simpa using this
theorem jc_same {σ : Type} {wfc : σ → va_W} {uc : σ} {post : Option Value → σ → Prop} {rest : List Value} {y : MethodName} {wsd ws' : List Cond} {h maxL ix : Nat} {bytes : ByteArray} {rt : Option FieldType} {b : Nat} {As : List Value} (C : Cx p R s m args meth c cells slots n D A cc own Ts ret cI cO) (hM : Kt l y wsd h wfc D cI cO (fun _ => True) (.ref b :: As) uc post)
    (nA : Nat) (hG : GoodIn Ts (wsV own ix y.cls y wsd)) (hw : wsd = Cond.code y bytes maxL rt :: ws') (hd : y.cls ≠ "java/lang/invoke/MethodHandle" ∧ y.cls ≠ "java/lang/invoke/VarHandle" ∧ (parseMethodDescriptor y.desc).map (fun d => d.parameters.length) = some nA) (hR0 : h + 1 ≤ R.frames ∧ 8 + (maxL + 11) + 34 * h ≤ R.locals) (hnA : As.length = nA) (hst : S = As.reverse ++ .ref b :: rest) (hrs : (rest.map fun v => v.category).sum ≤ 8)
    (ci q0 : Nat) {cl0 : vw_C} {fs : List Value} (hcl : vwCl[ci]? = some cl0) (hcn : cl0.1 = y.cls) (hob : (wfc uc)[q0]? = some (b, .inr (ci, fs)))
    (haddr : ∀ u, (wfc u).map Prod.fst = (wfc uc).map Prod.fst) (hdec : decode cc pc = .ok (.invokevirtual ix, 3)) (hp : pc + 3 = pc')
    (kk : ∀ (v : Option Value) (u : σ), post v u → J p l e R s m args below meth c cells slots Q n D A (pc') (L) (v.toList ++ rest) (wfc u)) : J p l e R s m args below meth c cells slots Q n D A (pc) (L) (S) (wfc uc) := by
  subst hp
  exact j_callV (wr := []) C hM nA hG hw hd hR0 hnA hst hrs (fun _ _ _ _ _ => trivial) (fun _ _ _ _ _ _ => trivial) ci q0 hcl hcn hob (List.range (wfc uc).length) [] (rng_self _) rfl (nd_range _) rfl (fun i h => by cases h) haddr hdec kk
theorem jc_nil {post : Option Value → Unit → Prop} {rest : List Value} {y : MethodName} {wsd ws' : List Cond} {h maxL ix : Nat} {bytes : ByteArray} {rt : Option FieldType} {As : List Value} (C : Cx p R s m args meth c cells slots n D A cc own Ts ret cI cO) (hM : Kt l y wsd h wN D cI cO (fun _ => True) As () post)
    (nA : Nat) (hG : GoodIn Ts (va_wsS own ix y wsd)) (hw : wsd = Cond.code y bytes maxL rt :: ws') (hd : y.cls ≠ "java/lang/invoke/MethodHandle" ∧ y.cls ≠ "java/lang/invoke/VarHandle" ∧ (parseMethodDescriptor y.desc).map (fun d => d.parameters.length) = some nA) (hR0 : h + 1 ≤ R.frames ∧ 8 + (maxL + 11) + 34 * h ≤ R.locals) (hnA : As.length = nA) (hst : S = As.reverse ++ rest) (hrs : (rest.map fun v => v.category).sum ≤ 8) (hdec : decode cc pc = .ok (.invokestatic ix, 3)) (hp : pc + 3 = pc')
    (kk : ∀ (v : Option Value), post v () → J p l e R s m args below meth c cells slots Q n D A (pc') (L) (v.toList ++ rest) (ws)) : J p l e R s m args below meth c cells slots Q n D A (pc) (L) (S) (ws) := by
  subst hp
  refine j_callS (wr := ws) C hM nA hG hw hd hR0 hnA hst hrs (fun _ _ _ _ _ => trivial) (fun _ _ _ _ _ _ => trivial) [] (List.range ws.length) rfl (rng_self _) rfl (nd_range _) (fun i _ h => by cases h) (fun _ => rfl) hdec (fun v u hp => ?_)
  rw [show ws ++ wN u = ws from List.append_nil ws]
  exact kk v hp
theorem jT_callA {post : Option Value → (Nat → Int32) → Prop} {rest : List Value} {y : MethodName} {wsd ws' : List Cond} {h maxL ix : Nat} {bytes : ByteArray} {rt : Option FieldType} {As : List Value} (C : Cx p R s m args meth c cells slots n D A cc own Ts ret cI cO) (k : Nat) (hk : 3 ≤ k ∧ k ≤ 11) (hM : Kt l y wsd h (wA cI (B k) (lenT k)) D cI cO (fun _ => True) As (t.2 k) post)
    (nA : Nat) (hG : GoodIn Ts (va_wsS own ix y wsd)) (hw : wsd = Cond.code y bytes maxL rt :: ws') (hd : y.cls ≠ "java/lang/invoke/MethodHandle" ∧ y.cls ≠ "java/lang/invoke/VarHandle" ∧ (parseMethodDescriptor y.desc).map (fun d => d.parameters.length) = some nA) (hR0 : h + 1 ≤ R.frames ∧ 8 + (maxL + 11) + 34 * h ≤ R.locals) (hnA : As.length = nA) (hst : S = As.reverse ++ rest) (hrs : (rest.map fun v => v.category).sum ≤ 8) (hdec : decode cc pc = .ok (.invokestatic ix, 3)) (hp : pc + 3 = pc')
    (kk : ∀ (v : Option Value) (g : Nat → Int32), post v g → J p l e R s m args below meth c cells slots Q n D A (pc') (L) (v.toList ++ rest) (wT cI B (t.1, ua t.2 k g))) : J p l e R s m args below meth c cells slots Q n D A (pc) (L) (S) (wT cI B t) := by
  subst hp
  rcases (show k = 3 ∨ k = 4 ∨ k = 5 ∨ k = 6 ∨ k = 7 ∨ k = 8 ∨ k = 9 ∨ k = 10 ∨ k = 11 by omega) with rfl | rfl | rfl | rfl | rfl | rfl | rfl | rfl | rfl
  · exact j_callS (wr := [(B 0, .inr (0, fldT B t)), (B 4, .inl (cI, 40, .inl (t.2 4))), (B 5, .inl (cI, 40, .inl (t.2 5))), (B 6, .inl (cI, 40, .inl (t.2 6))), (B 7, .inl (cI, 40, .inl (t.2 7))), (B 8, .inl (cI, 64, .inl (t.2 8))), (B 9, .inl (cI, 65, .inl (t.2 9))), (B 10, .inl (cI, 65, .inl (t.2 10))), (B 11, .inl (cI, 65, .inl (t.2 11)))]) C hM nA hG hw hd hR0 hnA hst hrs (fun _ _ _ _ _ => trivial) (fun _ _ _ _ _ _ => trivial) [1] [0, 2, 3, 4, 5, 6, 7, 8, 9] rfl rfl rfl (by decide) (by decide) (fun _ => rfl) hdec (fun v g hp => j_perm [0, 9, 1, 2, 3, 4, 5, 6, 7, 8] (by decide) rfl (kk v g hp))
  · exact j_callS (wr := [(B 0, .inr (0, fldT B t)), (B 3, .inl (cI, 40, .inl (t.2 3))), (B 5, .inl (cI, 40, .inl (t.2 5))), (B 6, .inl (cI, 40, .inl (t.2 6))), (B 7, .inl (cI, 40, .inl (t.2 7))), (B 8, .inl (cI, 64, .inl (t.2 8))), (B 9, .inl (cI, 65, .inl (t.2 9))), (B 10, .inl (cI, 65, .inl (t.2 10))), (B 11, .inl (cI, 65, .inl (t.2 11)))]) C hM nA hG hw hd hR0 hnA hst hrs (fun _ _ _ _ _ => trivial) (fun _ _ _ _ _ _ => trivial) [2] [0, 1, 3, 4, 5, 6, 7, 8, 9] rfl rfl rfl (by decide) (by decide) (fun _ => rfl) hdec (fun v g hp => j_perm [0, 1, 9, 2, 3, 4, 5, 6, 7, 8] (by decide) rfl (kk v g hp))
  · exact j_callS (wr := [(B 0, .inr (0, fldT B t)), (B 3, .inl (cI, 40, .inl (t.2 3))), (B 4, .inl (cI, 40, .inl (t.2 4))), (B 6, .inl (cI, 40, .inl (t.2 6))), (B 7, .inl (cI, 40, .inl (t.2 7))), (B 8, .inl (cI, 64, .inl (t.2 8))), (B 9, .inl (cI, 65, .inl (t.2 9))), (B 10, .inl (cI, 65, .inl (t.2 10))), (B 11, .inl (cI, 65, .inl (t.2 11)))]) C hM nA hG hw hd hR0 hnA hst hrs (fun _ _ _ _ _ => trivial) (fun _ _ _ _ _ _ => trivial) [3] [0, 1, 2, 4, 5, 6, 7, 8, 9] rfl rfl rfl (by decide) (by decide) (fun _ => rfl) hdec (fun v g hp => j_perm [0, 1, 2, 9, 3, 4, 5, 6, 7, 8] (by decide) rfl (kk v g hp))
  · exact j_callS (wr := [(B 0, .inr (0, fldT B t)), (B 3, .inl (cI, 40, .inl (t.2 3))), (B 4, .inl (cI, 40, .inl (t.2 4))), (B 5, .inl (cI, 40, .inl (t.2 5))), (B 7, .inl (cI, 40, .inl (t.2 7))), (B 8, .inl (cI, 64, .inl (t.2 8))), (B 9, .inl (cI, 65, .inl (t.2 9))), (B 10, .inl (cI, 65, .inl (t.2 10))), (B 11, .inl (cI, 65, .inl (t.2 11)))]) C hM nA hG hw hd hR0 hnA hst hrs (fun _ _ _ _ _ => trivial) (fun _ _ _ _ _ _ => trivial) [4] [0, 1, 2, 3, 5, 6, 7, 8, 9] rfl rfl rfl (by decide) (by decide) (fun _ => rfl) hdec (fun v g hp => j_perm [0, 1, 2, 3, 9, 4, 5, 6, 7, 8] (by decide) rfl (kk v g hp))
  · exact j_callS (wr := [(B 0, .inr (0, fldT B t)), (B 3, .inl (cI, 40, .inl (t.2 3))), (B 4, .inl (cI, 40, .inl (t.2 4))), (B 5, .inl (cI, 40, .inl (t.2 5))), (B 6, .inl (cI, 40, .inl (t.2 6))), (B 8, .inl (cI, 64, .inl (t.2 8))), (B 9, .inl (cI, 65, .inl (t.2 9))), (B 10, .inl (cI, 65, .inl (t.2 10))), (B 11, .inl (cI, 65, .inl (t.2 11)))]) C hM nA hG hw hd hR0 hnA hst hrs (fun _ _ _ _ _ => trivial) (fun _ _ _ _ _ _ => trivial) [5] [0, 1, 2, 3, 4, 6, 7, 8, 9] rfl rfl rfl (by decide) (by decide) (fun _ => rfl) hdec (fun v g hp => j_perm [0, 1, 2, 3, 4, 9, 5, 6, 7, 8] (by decide) rfl (kk v g hp))
  · exact j_callS (wr := [(B 0, .inr (0, fldT B t)), (B 3, .inl (cI, 40, .inl (t.2 3))), (B 4, .inl (cI, 40, .inl (t.2 4))), (B 5, .inl (cI, 40, .inl (t.2 5))), (B 6, .inl (cI, 40, .inl (t.2 6))), (B 7, .inl (cI, 40, .inl (t.2 7))), (B 9, .inl (cI, 65, .inl (t.2 9))), (B 10, .inl (cI, 65, .inl (t.2 10))), (B 11, .inl (cI, 65, .inl (t.2 11)))]) C hM nA hG hw hd hR0 hnA hst hrs (fun _ _ _ _ _ => trivial) (fun _ _ _ _ _ _ => trivial) [6] [0, 1, 2, 3, 4, 5, 7, 8, 9] rfl rfl rfl (by decide) (by decide) (fun _ => rfl) hdec (fun v g hp => j_perm [0, 1, 2, 3, 4, 5, 9, 6, 7, 8] (by decide) rfl (kk v g hp))
  · exact j_callS (wr := [(B 0, .inr (0, fldT B t)), (B 3, .inl (cI, 40, .inl (t.2 3))), (B 4, .inl (cI, 40, .inl (t.2 4))), (B 5, .inl (cI, 40, .inl (t.2 5))), (B 6, .inl (cI, 40, .inl (t.2 6))), (B 7, .inl (cI, 40, .inl (t.2 7))), (B 8, .inl (cI, 64, .inl (t.2 8))), (B 10, .inl (cI, 65, .inl (t.2 10))), (B 11, .inl (cI, 65, .inl (t.2 11)))]) C hM nA hG hw hd hR0 hnA hst hrs (fun _ _ _ _ _ => trivial) (fun _ _ _ _ _ _ => trivial) [7] [0, 1, 2, 3, 4, 5, 6, 8, 9] rfl rfl rfl (by decide) (by decide) (fun _ => rfl) hdec (fun v g hp => j_perm [0, 1, 2, 3, 4, 5, 6, 9, 7, 8] (by decide) rfl (kk v g hp))
  · exact j_callS (wr := [(B 0, .inr (0, fldT B t)), (B 3, .inl (cI, 40, .inl (t.2 3))), (B 4, .inl (cI, 40, .inl (t.2 4))), (B 5, .inl (cI, 40, .inl (t.2 5))), (B 6, .inl (cI, 40, .inl (t.2 6))), (B 7, .inl (cI, 40, .inl (t.2 7))), (B 8, .inl (cI, 64, .inl (t.2 8))), (B 9, .inl (cI, 65, .inl (t.2 9))), (B 11, .inl (cI, 65, .inl (t.2 11)))]) C hM nA hG hw hd hR0 hnA hst hrs (fun _ _ _ _ _ => trivial) (fun _ _ _ _ _ _ => trivial) [8] [0, 1, 2, 3, 4, 5, 6, 7, 9] rfl rfl rfl (by decide) (by decide) (fun _ => rfl) hdec (fun v g hp => j_perm [0, 1, 2, 3, 4, 5, 6, 7, 9, 8] (by decide) rfl (kk v g hp))
  · exact j_callS (wr := [(B 0, .inr (0, fldT B t)), (B 3, .inl (cI, 40, .inl (t.2 3))), (B 4, .inl (cI, 40, .inl (t.2 4))), (B 5, .inl (cI, 40, .inl (t.2 5))), (B 6, .inl (cI, 40, .inl (t.2 6))), (B 7, .inl (cI, 40, .inl (t.2 7))), (B 8, .inl (cI, 64, .inl (t.2 8))), (B 9, .inl (cI, 65, .inl (t.2 9))), (B 10, .inl (cI, 65, .inl (t.2 10)))]) C hM nA hG hw hd hR0 hnA hst hrs (fun _ _ _ _ _ => trivial) (fun _ _ _ _ _ _ => trivial) [9] [0, 1, 2, 3, 4, 5, 6, 7, 8] rfl rfl rfl (by decide) (by decide) (fun _ => rfl) hdec (fun v g hp => j_perm [0, 1, 2, 3, 4, 5, 6, 7, 8, 9] (by decide) rfl (kk v g hp))
end ENW
end
section
/-! raise, lower, fill, forget -/
def raiseF (h : Int32) : Nat → Nat → (Nat → Int32) → Int32 → (Nat → Int32) × Int32
  | 0, _, f, c => (f, c)
  | k + 1, i, f, c => if f i < h then raiseF h k (i + 1) (upd f i h) 1 else (f, c)
def lowerF (h : Int32) : Nat → (Nat → Int32) → Int32 → (Nat → Int32) × Int32
  | 0, f, c => (f, c)
  | i + 1, f, c => if h < f i then lowerF h i (upd f i h) 1 else (f, c)
def P_arr (r : (Nat → Int32) × Int32) (v : Option Value) (g : Nat → Int32) : Prop := g = r.1 ∧ v = some (.int r.2) ∧ (r.2 = 0 ∨ r.2 = 1)
theorem raiseF_01 (h : Int32) : ∀ (k i : Nat) (f : Nat → Int32) (c : Int32), (c = 0 ∨ c = 1) → ((raiseF h k i f c).2 = 0 ∨ (raiseF h k i f c).2 = 1)
  | 0, _, _, _, hc => hc
  | k + 1, i, f, c, hc => by
    unfold raiseF
    split
    · exact raiseF_01 h k _ _ _ (Or.inr rfl)
    · exact hc
theorem lowerF_01 (h : Int32) : ∀ (i : Nat) (f : Nat → Int32) (c : Int32), (c = 0 ∨ c = 1) → ((lowerF h i f c).2 = 0 ∨ (lowerF h i f c).2 = 1)
  | 0, _, _, hc => hc
  | i + 1, f, c, hc => by
    unfold lowerF
    split
    · exact lowerF_01 h i _ _ (Or.inr rfl)
    · exact hc
theorem i32_nle {x y : Int32} (h : ¬ x ≤ y) : y < x := by
  rw [Int32.le_iff_toInt_le] at h
  rw [Int32.lt_iff_toInt_lt]
  omega
theorem i32_nlt {x y : Int32} (h : ¬ x < y) : y ≤ x := by
  rw [Int32.lt_iff_toInt_lt] at h
  rw [Int32.le_iff_toInt_le]
  omega
theorem i32_le_nlt {x y : Int32} (h : x ≤ y) : ¬ y < x := by
  rw [Int32.le_iff_toInt_le] at h
  rw [Int32.lt_iff_toInt_lt]
  omega
set_option maxRecDepth 100000 in
set_option maxHeartbeats 4000000 in
theorem c_raise (l : Launch) (D : va_G) (cI cO : ClassId) (a : Nat) (f : Nat → Int32) (mk : Nat) (hmk : mk ≤ 65) (h : Int32) : Kt l yX0_raise wsX0_raise 0 (wA cI a 65) D cI cO (fun _ => True) [.ref a, .int (nI mk), .int h] f (P_arr (raiseF h (65 - mk) mk f 0)) := by
  refine Kt_of (cc := cX0_raise) (n := 5) (ret := some .boolean) rfl (by decide +kernel) (Nat.le_of_ble_eq_true rfl) rfl [some (.ref a), some (.int (nI mk)), some (.int h), none, none] rfl ?_
  intro p e s m args below meth c A C _ _
  have loop : ∀ (k i : Nat) (g : Nat → Int32) (ch : Int32), i + k = 65 → (ch = 0 ∨ ch = 1) → raiseF h k i g ch = raiseF h (65 - mk) mk f 0 → J p l e (rmH 0) s m args below meth c 0 0 (RQ below args s D (wA cI a 65) (P_arr (raiseF h (65 - mk) mk f 0)) A) 5 D A 5 [some (.ref a), some (.int (nI mk)), some (.int h), some (.int ch), some (.int (nI i))] [] (wA cI a 65 g) := by
    intro k
    induction k with
    | zero =>
      intro i g ch hi hc hr
      have hi2 : i = 65 := by omega
      subst hi2
      refine j_iload (pc' := 7) C dX0_raise_5 rfl rfl ?_
      refine j_bipush (pc' := 9) C dX0_raise_7 rfl 64 (by decide) ?_
      refine j_icmp_gt (tgt := 33) (pc' := 12) C dX0_raise_9 (by decide) rfl (fun h9 => ?_) (fun h9 => ?_)
      · skip
        refine j_iload_n (pc' := 34) C dX0_raise_33 rfl rfl ?_
        refine j_zreturn _ C dX0_raise_34 ?_ ?_
        · first | exact Or.inl rfl | exact Or.inr rfl | exact hc
        · first | exact ⟨by rw [← hr]; rfl, by rw [← hr]; rfl, by rw [← hr]; exact hc⟩ | exact ⟨by rw [← hr, raiseF, if_neg (i32_le_nlt h17)], by rw [← hr, raiseF, if_neg (i32_le_nlt h17)], by rw [← hr, raiseF, if_neg (i32_le_nlt h17)]; exact hc⟩
      · skip
        exact absurd (by decide) h9 -- done
    | succ k ih =>
      intro i g ch hi hc hr
      refine j_iload (pc' := 7) C dX0_raise_5 rfl rfl ?_
      refine j_bipush (pc' := 9) C dX0_raise_7 rfl 64 (by decide) ?_
      refine j_icmp_gt (tgt := 33) (pc' := 12) C dX0_raise_9 (by decide) rfl (fun h9 => ?_) (fun h9 => ?_)
      · skip
        exact absurd h9 (nI_nlt (a := 64) (by omega) (by decide)) -- done
      · skip
        refine j_aload_n (pc' := 13) C dX0_raise_12 rfl rfl ?_
        refine j_iload (pc' := 15) C dX0_raise_13 rfl rfl ?_
        refine jAl (pc' := 16) C dX0_raise_15 rfl i (by decide) rfl (by omega) ?_
        refine j_iload_n (pc' := 17) C dX0_raise_16 rfl rfl ?_
        refine j_icmp_ge (tgt := 33) (pc' := 20) C dX0_raise_17 (by decide) rfl (fun h17 => ?_) (fun h17 => ?_)
        · skip
          refine j_iload_n (pc' := 34) C dX0_raise_33 rfl rfl ?_
          refine j_zreturn _ C dX0_raise_34 ?_ ?_
          · first | exact Or.inl rfl | exact Or.inr rfl | exact hc
          · first | exact ⟨by rw [← hr]; rfl, by rw [← hr]; rfl, by rw [← hr]; exact hc⟩ | exact ⟨by rw [← hr, raiseF, if_neg (i32_le_nlt h17)], by rw [← hr, raiseF, if_neg (i32_le_nlt h17)], by rw [← hr, raiseF, if_neg (i32_le_nlt h17)]; exact hc⟩
        · skip
          refine j_aload_n (pc' := 21) C dX0_raise_20 rfl rfl ?_
          refine j_iload (pc' := 23) C dX0_raise_21 rfl rfl ?_
          refine j_iload_n (pc' := 24) C dX0_raise_23 rfl rfl ?_
          refine jAs (pc' := 25) C dX0_raise_24 rfl i (by decide) rfl (by omega) ?_
          refine j_iconst (pc' := 26) C dX0_raise_25 rfl 1 (by decide) ?_
          refine j_istore_n (pc' := 27) C dX0_raise_26 rfl (by decide) rfl ?_
          refine j_iinc (pc' := 30) C dX0_raise_27 rfl 1 (by decide) rfl (by decide) rfl ?_
          refine j_goto (pc' := 5) C dX0_raise_30 (by decide) ?_
          rw [nI_1]
          exact ih (i + 1) _ 1 (by omega) (Or.inr rfl) (by rw [← hr, raiseF, if_pos (i32_nle h17)])
  refine j_iconst (pc' := 1) C dX0_raise_0 rfl 0 (by decide) ?_
  refine j_istore_n (pc' := 2) C dX0_raise_1 rfl (by decide) rfl ?_
  refine j_iload_n (pc' := 3) C dX0_raise_2 rfl rfl ?_
  refine j_istore (pc' := 5) C dX0_raise_3 rfl (by decide) rfl ?_
  exact loop (65 - mk) mk f 0 (by omega) (Or.inl rfl) rfl
set_option maxRecDepth 100000 in
set_option maxHeartbeats 4000000 in
theorem c_lower (l : Launch) (D : va_G) (cI cO : ClassId) (a : Nat) (f : Nat → Int32) (mk : Nat) (hmk : mk ≤ 64) (h : Int32) : Kt l yX0_lower wsX0_lower 0 (wA cI a 65) D cI cO (fun _ => True) [.ref a, .int (nI mk), .int h] f (P_arr (lowerF h (mk + 1) f 0)) := by
  refine Kt_of (cc := cX0_lower) (n := 5) (ret := some .boolean) rfl (by decide +kernel) (Nat.le_of_ble_eq_true rfl) rfl [some (.ref a), some (.int (nI mk)), some (.int h), none, none] rfl ?_
  intro p e s m args below meth c A C _ _
  have loop : ∀ (i : Nat) (g : Nat → Int32) (ch : Int32), i ≤ 65 → (ch = 0 ∨ ch = 1) → lowerF h i g ch = lowerF h (mk + 1) f 0 → J p l e (rmH 0) s m args below meth c 0 0 (RQ below args s D (wA cI a 65) (P_arr (lowerF h (mk + 1) f 0)) A) 5 D A 5 [some (.ref a), some (.int (nI mk)), some (.int h), some (.int ch), some (.int (nI i + (-1)))] [] (wA cI a 65 g) := by
    intro i
    induction i with
    | zero =>
      intro g ch hi hc hr
      refine j_iload (pc' := 7) C dX0_lower_5 rfl rfl ?_
      refine j_if_lt (tgt := 31) (pc' := 10) C dX0_lower_7 (by decide) rfl (fun h7 => ?_) (fun h7 => ?_)
      · skip
        refine j_iload_n (pc' := 32) C dX0_lower_31 rfl rfl ?_
        refine j_zreturn _ C dX0_lower_32 ?_ ?_
        · first | exact Or.inl rfl | exact Or.inr rfl | exact hc
        · first | exact ⟨by rw [← hr]; rfl, by rw [← hr]; rfl, by rw [← hr]; exact hc⟩ | exact ⟨by rw [← hr, lowerF, if_neg (i32_le_nlt h15)], by rw [← hr, lowerF, if_neg (i32_le_nlt h15)], by rw [← hr, lowerF, if_neg (i32_le_nlt h15)]; exact hc⟩
      · skip
        exact absurd (by decide) h7 -- done
    | succ i ih =>
      intro g ch hi hc hr
      rw [pk_m1]
      refine j_iload (pc' := 7) C dX0_lower_5 rfl rfl ?_
      refine j_if_lt (tgt := 31) (pc' := 10) C dX0_lower_7 (by decide) rfl (fun h7 => ?_) (fun h7 => ?_)
      · skip
        exact absurd h7 (nI_pos (by omega)) -- done
      · skip
        refine j_aload_n (pc' := 11) C dX0_lower_10 rfl rfl ?_
        refine j_iload (pc' := 13) C dX0_lower_11 rfl rfl ?_
        refine jAl (pc' := 14) C dX0_lower_13 rfl i (by decide) rfl (by omega) ?_
        refine j_iload_n (pc' := 15) C dX0_lower_14 rfl rfl ?_
        refine j_icmp_le (tgt := 31) (pc' := 18) C dX0_lower_15 (by decide) rfl (fun h15 => ?_) (fun h15 => ?_)
        · skip
          refine j_iload_n (pc' := 32) C dX0_lower_31 rfl rfl ?_
          refine j_zreturn _ C dX0_lower_32 ?_ ?_
          · first | exact Or.inl rfl | exact Or.inr rfl | exact hc
          · first | exact ⟨by rw [← hr]; rfl, by rw [← hr]; rfl, by rw [← hr]; exact hc⟩ | exact ⟨by rw [← hr, lowerF, if_neg (i32_le_nlt h15)], by rw [← hr, lowerF, if_neg (i32_le_nlt h15)], by rw [← hr, lowerF, if_neg (i32_le_nlt h15)]; exact hc⟩
        · skip
          refine j_aload_n (pc' := 19) C dX0_lower_18 rfl rfl ?_
          refine j_iload (pc' := 21) C dX0_lower_19 rfl rfl ?_
          refine j_iload_n (pc' := 22) C dX0_lower_21 rfl rfl ?_
          refine jAs (pc' := 23) C dX0_lower_22 rfl i (by decide) rfl (by omega) ?_
          refine j_iconst (pc' := 24) C dX0_lower_23 rfl 1 (by decide) ?_
          refine j_istore_n (pc' := 25) C dX0_lower_24 rfl (by decide) rfl ?_
          refine j_iinc (pc' := 28) C dX0_lower_25 rfl (-1) (by decide) rfl (by decide) rfl ?_
          refine j_goto (pc' := 5) C dX0_lower_28 (by decide) ?_
          exact ih _ 1 (by omega) (Or.inr rfl) (by rw [← hr, lowerF, if_pos (i32_nle h15)])
  refine j_iconst (pc' := 1) C dX0_lower_0 rfl 0 (by decide) ?_
  refine j_istore_n (pc' := 2) C dX0_lower_1 rfl (by decide) rfl ?_
  refine j_iload_n (pc' := 3) C dX0_lower_2 rfl rfl ?_
  refine j_istore (pc' := 5) C dX0_lower_3 rfl (by decide) rfl ?_
  have := loop (mk + 1) f 0 (by omega) (Or.inl rfl) rfl
  rw [pk_m1] at this
  exact this
def fillF (v : Int32) (n : Nat) (f : Nat → Int32) : Nat → Int32 := fun j => if j < n then v else f j
theorem fillF_s (v : Int32) (i : Nat) (f : Nat → Int32) : upd (fillF v i f) i v = fillF v (i + 1) f := by
  funext j
  unfold upd fillF
  by_cases h : j = i
  · subst h; simp
  · by_cases h2 : j < i
    · rw [if_neg h, if_pos h2, if_pos (by omega)]
    · rw [if_neg h, if_neg h2, if_neg (by omega)]
theorem fillF_0 (v : Int32) (f : Nat → Int32) : fillF v 0 f = f := by
  funext j; simp [fillF]
set_option maxRecDepth 100000 in
set_option maxHeartbeats 4000000 in
theorem c_fill (l : Launch) (D : va_G) (cI cO : ClassId) (a len : Nat) (hlen : len < 2 ^ 31) (f : Nat → Int32) (v : Int32) : Kt l yJ7_fill_53178 wsJ7_fill_53178 0 (wA cI a len) D cI cO (fun _ => True) [.ref a, .int v] f (fun (r : Option Value) g => r = none ∧ g = fillF v len f) := by
  refine Kt_of (cc := cJ7_fill_53178) (n := 4) (ret := none) rfl (by decide +kernel) (Nat.le_of_ble_eq_true rfl) rfl [some (.ref a), some (.int v), none, none] rfl ?_
  intro p e s m args below meth c A C _ _
  have loop : ∀ (k i : Nat), i + k = len → J p l e (rmH 0) s m args below meth c 0 0 (RQ below args s D (wA cI a len) (fun (r : Option Value) g => r = none ∧ g = fillF v len f) A) 4 D A 5 [some (.ref a), some (.int v), some (.int (nI i)), some (.int (nI len))] [] (wA cI a len (fillF v i f)) := by
    intro k
    induction k with
    | zero =>
      intro i hi
      have hi2 : i = len := by omega
      subst hi2
      refine j_iload_n (pc' := 6) C dJ7_fill_53178_5 rfl rfl ?_
      refine j_iload_n (pc' := 7) C dJ7_fill_53178_6 rfl rfl ?_
      refine j_icmp_ge (tgt := 20) (pc' := 10) C dJ7_fill_53178_7 (by decide) rfl (fun h7 => ?_) (fun h7 => ?_)
      · skip
        refine j_return _ C dJ7_fill_53178_20 ?_
        exact ⟨rfl, rfl⟩
      · skip
        exact absurd (nI_le (Nat.le_refl _) hlen) h7 -- done
    | succ k ih =>
      intro i hi
      refine j_iload_n (pc' := 6) C dJ7_fill_53178_5 rfl rfl ?_
      refine j_iload_n (pc' := 7) C dJ7_fill_53178_6 rfl rfl ?_
      refine j_icmp_ge (tgt := 20) (pc' := 10) C dJ7_fill_53178_7 (by decide) rfl (fun h7 => ?_) (fun h7 => ?_)
      · skip
        exact absurd h7 (nI_ge (by omega) hlen) -- done
      · skip
        refine j_aload_n (pc' := 11) C dJ7_fill_53178_10 rfl rfl ?_
        refine j_iload_n (pc' := 12) C dJ7_fill_53178_11 rfl rfl ?_
        refine j_iload_n (pc' := 13) C dJ7_fill_53178_12 rfl rfl ?_
        refine jAs (pc' := 14) C dJ7_fill_53178_13 rfl i hlen rfl (by omega) ?_
        refine j_iinc (pc' := 17) C dJ7_fill_53178_14 rfl 1 (by decide) rfl (by decide) rfl ?_
        refine j_goto (pc' := 5) C dJ7_fill_53178_17 (by decide) ?_
        rw [nI_1, fillF_s]
        exact ih (i + 1) (by omega)
  refine j_iconst (pc' := 1) C dJ7_fill_53178_0 rfl 0 (by decide) ?_
  refine j_istore_n (pc' := 2) C dJ7_fill_53178_1 rfl (by decide) rfl ?_
  refine j_aload_n (pc' := 3) C dJ7_fill_53178_2 rfl rfl ?_
  refine jAn (pc' := 4) C dJ7_fill_53178_3 rfl ?_
  refine j_istore_n (pc' := 5) C dJ7_fill_53178_4 rfl (by decide) rfl ?_
  have := loop len 0 (by omega)
  rw [fillF_0] at this
  exact this
set_option maxRecDepth 100000 in
set_option maxHeartbeats 4000000 in
theorem c_forget (l : Launch) (D : va_G) (cI cO : ClassId) (B : Nat → Nat) (t : TS) : Kt l yX0_forget wsX0_forget 0 (wT cI B) D cI cO (fun _ => True) [.ref (B 0)] t (fun r u => r = none ∧ u = (upd (upd t.1 12 0) 13 0, t.2)) := by
  refine Kt_of (cc := cX0_forget) (n := 1) (ret := none) rfl (by decide +kernel) (Nat.le_of_ble_eq_true rfl) rfl [some (.ref (B 0))] rfl ?_
  intro p e s m args below meth c A C _ _
  have hinT : ∀ w ∈ wsX00, w ∈ wsX0_forget := by decide +kernel
  refine j_aload_n (pc' := 1) C dX0_forget_0 rfl rfl ?_
  refine j_iconst (pc' := 2) C dX0_forget_1 rfl 0 (by decide) ?_
  refine jTpZ (pc' := 5) C dX0_forget_2 rfl 12 (by decide) hinT (by decide +kernel) (by decide) ?_
  refine j_aload_n (pc' := 6) C dX0_forget_5 rfl rfl ?_
  refine j_iconst (pc' := 7) C dX0_forget_6 rfl 0 (by decide) ?_
  refine jTpZ (pc' := 10) C dX0_forget_7 rfl 13 (by decide) hinT (by decide +kernel) (by decide) ?_
  refine j_return _ C dX0_forget_10 ?_
  exact ⟨rfl, rfl⟩
end
section

/-! a Table of which one array (number w) is worked on: its contents g -/
theorem ua_ua (f : Nat → Nat → Int32) (k : Nat) (g g' : Nat → Int32) : ua (ua f k g) k g' = ua f k g' := by
  funext j; unfold ua; by_cases h : j = k
  · rw [if_pos h, if_pos h]
  · rw [if_neg h, if_neg h, if_neg h]
theorem ua_self (f : Nat → Nat → Int32) (k : Nat) : ua f k (f k) = f := by
  funext j; unfold ua; by_cases h : j = k
  · rw [if_pos h, h]
  · rw [if_neg h]
theorem vp_in_c {x : Int32} {n : Nat} (h : vp_in x n) (hn : n < 2 ^ 31) : x = nI x.toNatClampNeg ∧ x.toNatClampNeg < n := by
  obtain ⟨j, hj, rfl⟩ := vp_in_of h hn
  rw [nI_clamp (by omega)]
  exact ⟨rfl, hj⟩
def wTW (cI : ClassId) (B : Nat → Nat) (t : TS) (w : Nat) (g : Nat → Int32) : va_W := wT cI B (t.1, ua t.2 w g)
section ENW2
variable {p : Program} {l : Launch} {e : Env} {R : Room} {s : State} {m : MethodId} {args : Array Value} {below : List Frame} {meth : Method} {c : Code} {cells slots : Nat} {Q : State → Prop} {n : Nat} {D : va_G} {A : Nat → Prop} {cc : ByteArray} {own : String} {Ts : List Cond} {ret : Option FieldType} {cI cO : ClassId} {pc pc' : Nat} {L : List (Option Value)} {S : List Value} {ws : va_W} {B : Nat → Nat} {t : TS} {w : Nat} {g : Nat → Int32}
theorem jWi {ix : Nat} (C : Cx p R s m args meth c cells slots n D A cc own Ts ret cI cO) (hd : decode cc pc = .ok (.getfield ix, 3)) (hp : pc + 3 = pc') (k : Nat) (hk : isIT k) (hin : ∀ w ∈ wsX00, w ∈ Ts) (hm : Cond.fieldLink own ix (TX0 k).1 (TX0 k).2.1 (TX0 k).2.2.1 ∈ Ts)
    (kk : J p l e R s m args below meth c cells slots Q n D A (pc') (L) (.int (t.1 k) :: S) (wTW cI B t w g)) : J p l e R s m args below meth c cells slots Q n D A (pc) (L) (.ref (B 0) :: S) (wTW cI B t w g) := jTi C hd hp k hk hin hm kk
theorem jWa {ix : Nat} (C : Cx p R s m args meth c cells slots n D A cc own Ts ret cI cO) (hd : decode cc pc = .ok (.getfield ix, 3)) (hp : pc + 3 = pc') (k : Nat) (hk : 3 ≤ k ∧ k ≤ 11) (hin : ∀ w ∈ wsX00, w ∈ Ts) (hm : Cond.fieldLink own ix (TX0 k).1 (TX0 k).2.1 (TX0 k).2.2.1 ∈ Ts)
    (kk : J p l e R s m args below meth c cells slots Q n D A (pc') (L) (.ref (B k) :: S) (wTW cI B t w g)) : J p l e R s m args below meth c cells slots Q n D A (pc) (L) (.ref (B 0) :: S) (wTW cI B t w g) := jTa C hd hp k hk hin hm kk
theorem jWl {i : Int32} (C : Cx p R s m args meth c cells slots n D A cc own Ts ret cI cO) (hd : decode cc pc = .ok (.iaload, 1)) (hp : pc + 1 = pc') (k : Nat) (hk : 3 ≤ k ∧ k ≤ 11) (hkw : k ≠ w) (hi : vp_in i (lenT k))
    (kk : J p l e R s m args below meth c cells slots Q n D A (pc') (L) (.int (t.2 k i.toNatClampNeg) :: S) (wTW cI B t w g)) : J p l e R s m args below meth c cells slots Q n D A (pc) (L) (.int i :: .ref (B k) :: S) (wTW cI B t w g) := by
  refine jTl C hd hp k hk hi ?_
  have e0 : (t.1, ua t.2 w g).2 k = t.2 k := ua_n t.2 g hkw
  rw [e0]
  exact kk
theorem jWlN {i : Int32} (C : Cx p R s m args meth c cells slots n D A cc own Ts ret cI cO) (hd : decode cc pc = .ok (.iaload, 1)) (hp : pc + 1 = pc') (k : Nat) (hk : 3 ≤ k ∧ k ≤ 11) (hkw : k ≠ w) (j : Nat) (hj : i = nI j) (hi : j < lenT k)
    (kk : J p l e R s m args below meth c cells slots Q n D A (pc') (L) (.int (t.2 k j) :: S) (wTW cI B t w g)) : J p l e R s m args below meth c cells slots Q n D A (pc) (L) (.int i :: .ref (B k) :: S) (wTW cI B t w g) := by
  refine jTlN C hd hp k hk j hj hi ?_
  have e0 : (t.1, ua t.2 w g).2 k = t.2 k := ua_n t.2 g hkw
  rw [e0]
  exact kk
theorem jWg {i : Int32} (C : Cx p R s m args meth c cells slots n D A cc own Ts ret cI cO) (hd : decode cc pc = .ok (.iaload, 1)) (hp : pc + 1 = pc') (hk : 3 ≤ w ∧ w ≤ 11) (hi : vp_in i (lenT w))
    (kk : J p l e R s m args below meth c cells slots Q n D A (pc') (L) (.int (g i.toNatClampNeg) :: S) (wTW cI B t w g)) : J p l e R s m args below meth c cells slots Q n D A (pc) (L) (.int i :: .ref (B w) :: S) (wTW cI B t w g) := by
  refine jTl C hd hp w hk hi ?_
  have e0 : (t.1, ua t.2 w g).2 w = g := ua_s t.2 w g
  rw [e0]
  exact kk
theorem jWgN {i : Int32} (C : Cx p R s m args meth c cells slots n D A cc own Ts ret cI cO) (hd : decode cc pc = .ok (.iaload, 1)) (hp : pc + 1 = pc') (hk : 3 ≤ w ∧ w ≤ 11) (j : Nat) (hj : i = nI j) (hi : j < lenT w)
    (kk : J p l e R s m args below meth c cells slots Q n D A (pc') (L) (.int (g j) :: S) (wTW cI B t w g)) : J p l e R s m args below meth c cells slots Q n D A (pc) (L) (.int i :: .ref (B w) :: S) (wTW cI B t w g) := by
  refine jTlN C hd hp w hk j hj hi ?_
  have e0 : (t.1, ua t.2 w g).2 w = g := ua_s t.2 w g
  rw [e0]
  exact kk
theorem jWsN {i x : Int32} (C : Cx p R s m args meth c cells slots n D A cc own Ts ret cI cO) (hd : decode cc pc = .ok (.iastore, 1)) (hp : pc + 1 = pc') (hk : 3 ≤ w ∧ w ≤ 11) (j : Nat) (hj : i = nI j) (hi : j < lenT w)
    (kk : J p l e R s m args below meth c cells slots Q n D A (pc') (L) (S) (wTW cI B t w (upd g j x))) : J p l e R s m args below meth c cells slots Q n D A (pc) (L) (.int x :: .int i :: .ref (B w) :: S) (wTW cI B t w g) := by
  refine jTsN C hd hp w hk j hj hi ?_
  have e0 : (t.1, ua t.2 w g).2 w = g := ua_s t.2 w g
  rw [e0]
  show J p l e R s m args below meth c cells slots Q n D A pc' L S (wT cI B (t.1, ua (ua t.2 w g) w _))
  rw [ua_ua]
  exact kk
theorem jW_call {post : Option Value → (Nat → Int32) → Prop} {rest : List Value} {y : MethodName} {wsd ws' : List Cond} {h maxL ix : Nat} {bytes : ByteArray} {rt : Option FieldType} {As : List Value} (C : Cx p R s m args meth c cells slots n D A cc own Ts ret cI cO) (hk : 3 ≤ w ∧ w ≤ 11) (hM : Kt l y wsd h (wA cI (B w) (lenT w)) D cI cO (fun _ => True) As g post)
    (nA : Nat) (hG : GoodIn Ts (va_wsS own ix y wsd)) (hw : wsd = Cond.code y bytes maxL rt :: ws') (hd : y.cls ≠ "java/lang/invoke/MethodHandle" ∧ y.cls ≠ "java/lang/invoke/VarHandle" ∧ (parseMethodDescriptor y.desc).map (fun d => d.parameters.length) = some nA) (hR0 : h + 1 ≤ R.frames ∧ 8 + (maxL + 11) + 34 * h ≤ R.locals) (hnA : As.length = nA) (hst : S = As.reverse ++ rest) (hrs : (rest.map fun v => v.category).sum ≤ 8) (hdec : decode cc pc = .ok (.invokestatic ix, 3)) (hp : pc + 3 = pc')
    (kk : ∀ (v : Option Value) (g' : Nat → Int32), post v g' → J p l e R s m args below meth c cells slots Q n D A (pc') (L) (v.toList ++ rest) (wTW cI B t w g')) : J p l e R s m args below meth c cells slots Q n D A (pc) (L) (S) (wTW cI B t w g) := by
  have e0 : (t.1, ua t.2 w g).2 w = g := ua_s t.2 w g
  refine jT_callA (t := (t.1, ua t.2 w g)) C w hk (by rw [e0]; exact hM) nA hG hw hd hR0 hnA hst hrs hdec hp (fun v g' hp => ?_)
  have := kk v g' hp
  unfold wTW at this
  show J p l e R s m args below meth c cells slots Q n D A pc' L _ (wT cI B (t.1, ua (ua t.2 w g) w g'))
  rw [ua_ua]
  exact this
end ENW2
end
section
/-! climb and sink: raising and lowering marks until all bounds hold, pass by pass -/
def raiseAt (f : Nat → Int32) (i : Nat) (h : Int32) : (Nat → Int32) × Int32 := raiseF h (65 - i) i f 0
def lowerAt (f : Nat → Int32) (i : Nat) (h : Int32) : (Nat → Int32) × Int32 := lowerF h (i + 1) f 0
theorem c_raiseW (l : Launch) (D : va_G) (cI cO : ClassId) (a len : Nat) (hl : len = 65) (f : Nat → Int32) (x : Int32) (hx : vp_in x 65) (h : Int32) : Kt l yX0_raise wsX0_raise 0 (wA cI a len) D cI cO (fun _ => True) [.ref a, .int x, .int h] f (P_arr (raiseAt f x.toNatClampNeg h)) := by
  subst hl
  obtain ⟨e, hlt⟩ := vp_in_c hx (by decide)
  have := c_raise l D cI cO a f x.toNatClampNeg (by omega) h
  rw [← e] at this
  exact this
theorem c_lowerW (l : Launch) (D : va_G) (cI cO : ClassId) (a len : Nat) (hl : len = 65) (f : Nat → Int32) (x : Int32) (hx : vp_in x 65) (h : Int32) : Kt l yX0_lower wsX0_lower 0 (wA cI a len) D cI cO (fun _ => True) [.ref a, .int x, .int h] f (P_arr (lowerAt f x.toNatClampNeg h)) := by
  subst hl
  obtain ⟨e, hlt⟩ := vp_in_c hx (by decide)
  have := c_lower l D cI cO a f x.toNatClampNeg (by omega) h
  rw [← e] at this
  exact this
theorem c_raiseN (l : Launch) (D : va_G) (cI cO : ClassId) (a len : Nat) (hl : len = 65) (f : Nat → Int32) (x : Int32) (mk : Nat) (hx : x = nI mk) (hm : mk ≤ 64) (h : Int32) : Kt l yX0_raise wsX0_raise 0 (wA cI a len) D cI cO (fun _ => True) [.ref a, .int x, .int h] f (P_arr (raiseAt f mk h)) := by
  subst hl; subst hx
  exact c_raise l D cI cO a f mk (by omega) h
theorem c_lowerN (l : Launch) (D : va_G) (cI cO : ClassId) (a len : Nat) (hl : len = 65) (f : Nat → Int32) (x : Int32) (mk : Nat) (hx : x = nI mk) (hm : mk ≤ 64) (h : Int32) : Kt l yX0_lower wsX0_lower 0 (wA cI a len) D cI cO (fun _ => True) [.ref a, .int x, .int h] f (P_arr (lowerAt f mk h)) := by
  subst hl; subst hx
  exact c_lower l D cI cO a f mk hm h
def orI (a b : Int32) : Int32 := if a = 0 then b else 1
theorem orI_01 {a b : Int32} (h : b = 0 ∨ b = 1) : orI a b = 0 ∨ orI a b = 1 := by
  unfold orI; split
  · exact h
  · exact Or.inr rfl
def climbS (t : TS) (s : Nat) (r : (Nat → Int32) × Int32) : (Nat → Int32) × Int32 :=
  if t.2 7 s = 0 then
    ((raiseAt (raiseAt r.1 (t.2 4 s).toNatClampNeg (r.1 (t.2 3 s).toNatClampNeg + t.2 5 s)).1 (t.2 3 s).toNatClampNeg ((raiseAt r.1 (t.2 4 s).toNatClampNeg (r.1 (t.2 3 s).toNatClampNeg + t.2 5 s)).1 (t.2 4 s).toNatClampNeg - t.2 6 s)).1,
     orI (raiseAt (raiseAt r.1 (t.2 4 s).toNatClampNeg (r.1 (t.2 3 s).toNatClampNeg + t.2 5 s)).1 (t.2 3 s).toNatClampNeg ((raiseAt r.1 (t.2 4 s).toNatClampNeg (r.1 (t.2 3 s).toNatClampNeg + t.2 5 s)).1 (t.2 4 s).toNatClampNeg - t.2 6 s)).2 (orI (raiseAt r.1 (t.2 4 s).toNatClampNeg (r.1 (t.2 3 s).toNatClampNeg + t.2 5 s)).2 r.2))
  else r
def climbIn (t : TS) : Nat → Nat → (Nat → Int32) × Int32 → (Nat → Int32) × Int32
  | 0, _, r => r
  | k + 1, s, r => climbIn t k (s + 1) (climbS t s r)
def climbPass (t : TS) (g : Nat → Int32) : (Nat → Int32) × Int32 :=
  climbIn t (t.1 1).toNatClampNeg 0 ((raiseAt (raiseAt g 0 (g 64 - t.1 0)).1 64 ((raiseAt g 0 (g 64 - t.1 0)).1 0 + t.1 0)).1, orI (raiseAt (raiseAt g 0 (g 64 - t.1 0)).1 64 ((raiseAt g 0 (g 64 - t.1 0)).1 0 + t.1 0)).2 (raiseAt g 0 (g 64 - t.1 0)).2)
def climbF (t : TS) (fx : Nat) (ht : Int32) : Nat → (Nat → Int32) → Int32 → (Nat → Int32)
  | 0, g, _ => g
  | k + 1, g, ch => if ch = 0 then g else if ht < g fx then g else climbF t fx ht k (climbPass t g).1 (climbPass t g).2
def sinkS (t : TS) (s : Nat) (r : (Nat → Int32) × Int32) : (Nat → Int32) × Int32 :=
  if t.2 7 s = 0 then
    ((lowerAt (lowerAt r.1 (t.2 3 s).toNatClampNeg (r.1 (t.2 4 s).toNatClampNeg - t.2 5 s)).1 (t.2 4 s).toNatClampNeg ((lowerAt r.1 (t.2 3 s).toNatClampNeg (r.1 (t.2 4 s).toNatClampNeg - t.2 5 s)).1 (t.2 3 s).toNatClampNeg + t.2 6 s)).1,
     orI (lowerAt (lowerAt r.1 (t.2 3 s).toNatClampNeg (r.1 (t.2 4 s).toNatClampNeg - t.2 5 s)).1 (t.2 4 s).toNatClampNeg ((lowerAt r.1 (t.2 3 s).toNatClampNeg (r.1 (t.2 4 s).toNatClampNeg - t.2 5 s)).1 (t.2 3 s).toNatClampNeg + t.2 6 s)).2 (orI (lowerAt r.1 (t.2 3 s).toNatClampNeg (r.1 (t.2 4 s).toNatClampNeg - t.2 5 s)).2 r.2))
  else r
def sinkIn (t : TS) : Nat → Nat → (Nat → Int32) × Int32 → (Nat → Int32) × Int32
  | 0, _, r => r
  | k + 1, s, r => sinkIn t k (s + 1) (sinkS t s r)
def sinkF (t : TS) : Nat → (Nat → Int32) → Int32 → (Nat → Int32)
  | 0, g, _ => g
  | k + 1, g, ch => if ch = 0 then g else sinkF t k (sinkIn t (t.1 1).toNatClampNeg 0 (g, 0)).1 (sinkIn t (t.1 1).toNatClampNeg 0 (g, 0)).2
def okT (t : TS) : Prop := vp_in (t.1 1) 41 ∧ ∀ s, s < (t.1 1).toNatClampNeg → vp_in (t.2 3 s) 65 ∧ vp_in (t.2 4 s) 65
theorem b_if0 {x : Int32} (h : x = 0 ∨ x = 1) {ch : Int32} : (x = 0 → orI x ch = ch) ∧ (¬ x = 0 → orI x ch = 1) := ⟨fun e => by rw [orI, if_pos e], fun e => by rw [orI, if_neg e]⟩
set_option maxRecDepth 100000 in
set_option maxHeartbeats 4000000 in
theorem c_climb (l : Launch) (D : va_G) (cI cO : ClassId) (B : Nat → Nat) (t : TS) (hok : okT t) (w : Nat) (hw : 9 ≤ w ∧ w ≤ 11) (fx : Nat) (hfx : fx ≤ 64) (ht : Int32) : Kt l yX0_climb wsX0_climb 1 (wT cI B) D cI cO (fun _ => True) [.ref (B 0), .ref (B w), .int (nI fx), .int ht] t (fun r u => u = (t.1, ua t.2 w (climbF t fx ht 66 (t.2 w) 1)) ∧ r = some (.int (if ht < climbF t fx ht 66 (t.2 w) 1 fx then 0 else 1))) := by
  refine Kt_of (cc := cX0_climb) (n := 7) (ret := some .boolean) rfl (by decide +kernel) (Nat.le_of_ble_eq_true rfl) rfl [some (.ref (B 0)), some (.ref (B w)), some (.int (nI fx)), some (.int ht), none, none, none] rfl ?_
  intro p e s m args below meth c A C _ _
  have hinT : ∀ w ∈ wsX00, w ∈ wsX0_climb := by decide +kernel
  have hw3 : 3 ≤ w ∧ w ≤ 11 := by omega
  have hlw : lenT w = 65 := by unfold lenT; rw [if_neg (by omega), if_neg (by omega)]
  obtain ⟨hn, hft⟩ := hok
  obtain ⟨en, hn41⟩ := vp_in_c hn (by decide)
  generalize hN : (t.1 1).toNatClampNeg = N at en hn41 hft
  have hret : ∀ (g : Nat → Int32) (x4 x5 x6 : Option Value), g = climbF t fx ht 66 (t.2 w) 1 → J p l e (rmH 1) s m args below meth c 0 0 (RQ below args s D (wT cI B) (fun r u => u = (t.1, ua t.2 w (climbF t fx ht 66 (t.2 w) 1)) ∧ r = some (.int (if ht < climbF t fx ht 66 (t.2 w) 1 fx then 0 else 1))) A) 7 D A 166 [some (.ref (B 0)), some (.ref (B w)), some (.int (nI fx)), some (.int ht), x4, x5, x6] [] (wTW cI B t w g) := by
    intro g x4 x5 x6 hg
    refine j_aload_n (pc' := 167) C dX0_climb_166 rfl rfl ?_
    refine j_iload_n (pc' := 168) C dX0_climb_167 rfl rfl ?_
    refine jWgN (pc' := 169) C dX0_climb_168 rfl hw3 fx rfl (by rw [hlw]; omega) ?_
    refine j_iload_n (pc' := 170) C dX0_climb_169 rfl rfl ?_
    refine j_icmp_gt (tgt := 177) (pc' := 173) C dX0_climb_170 (by decide) rfl (fun h170 => ?_) (fun h170 => ?_)
    · skip
      refine j_iconst (pc' := 178) C dX0_climb_177 rfl 0 (by decide) ?_
      refine j_zreturn _ C dX0_climb_178 ?_ ?_
      · first | exact Or.inl rfl | exact Or.inr rfl
      · first | exact ⟨by rw [← hg], by rw [← hg, if_pos h170]⟩ | exact ⟨by rw [← hg], by rw [← hg, if_neg h170]⟩
    · skip
      refine j_iconst (pc' := 174) C dX0_climb_173 rfl 1 (by decide) ?_
      refine j_goto (pc' := 178) C dX0_climb_174 (by decide) ?_
      refine j_zreturn _ C dX0_climb_178 ?_ ?_
      · first | exact Or.inl rfl | exact Or.inr rfl
      · first | exact ⟨by rw [← hg], by rw [← hg, if_pos h170]⟩ | exact ⟨by rw [← hg], by rw [← hg, if_neg h170]⟩
  have outer : ∀ (k pas : Nat) (g : Nat → Int32) (ch : Int32) (x6 : Option Value), pas + k = 66 → (ch = 0 ∨ ch = 1) → climbF t fx ht k g ch = climbF t fx ht 66 (t.2 w) 1 → J p l e (rmH 1) s m args below meth c 0 0 (RQ below args s D (wT cI B) (fun r u => u = (t.1, ua t.2 w (climbF t fx ht 66 (t.2 w) 1)) ∧ r = some (.int (if ht < climbF t fx ht 66 (t.2 w) 1 fx then 0 else 1))) A) 7 D A 6 [some (.ref (B 0)), some (.ref (B w)), some (.int (nI fx)), some (.int ht), some (.int ch), some (.int (nI pas)), x6] [] (wTW cI B t w g) := by
    intro k
    induction k with
    | zero =>
      intro pas g ch x6 hk hc hr
      have hp2 : pas = 66 := by omega
      subst hp2
      refine j_iload (pc' := 8) C dX0_climb_6 rfl rfl ?_
      refine j_bipush (pc' := 10) C dX0_climb_8 rfl 66 (by decide) ?_
      refine j_icmp_ge (tgt := 166) (pc' := 13) C dX0_climb_10 (by decide) rfl (fun h10 => ?_) (fun h10 => ?_)
      · skip
        exact hret _ _ _ _ hr
      · skip
        exact absurd (by decide) h10 -- done
    | succ k ih =>
      intro pas g ch x6 hk hc hr
      have h160 : ∀ (g1 : Nat → Int32) (ch1 : Int32) (x6 : Option Value), (ch1 = 0 ∨ ch1 = 1) → climbF t fx ht k g1 ch1 = climbF t fx ht 66 (t.2 w) 1 → J p l e (rmH 1) s m args below meth c 0 0 (RQ below args s D (wT cI B) (fun r u => u = (t.1, ua t.2 w (climbF t fx ht 66 (t.2 w) 1)) ∧ r = some (.int (if ht < climbF t fx ht 66 (t.2 w) 1 fx then 0 else 1))) A) 7 D A 160 [some (.ref (B 0)), some (.ref (B w)), some (.int (nI fx)), some (.int ht), some (.int ch1), some (.int (nI pas)), x6] [] (wTW cI B t w g1) := by
        intro g1 ch1 x6 hc1 hr1
        refine j_iinc (pc' := 163) C dX0_climb_160 rfl 1 (by decide) rfl (by decide) rfl ?_
        refine j_goto (pc' := 6) C dX0_climb_163 (by decide) ?_
        rw [nI_1]
        exact ih (pas + 1) g1 ch1 x6 (by omega) hc1 hr1
      have inner : ∀ (j i : Nat) (g1 : Nat → Int32) (ch1 : Int32), i + j = N → (ch1 = 0 ∨ ch1 = 1) → climbF t fx ht k (climbIn t j i (g1, ch1)).1 (climbIn t j i (g1, ch1)).2 = climbF t fx ht 66 (t.2 w) 1 → J p l e (rmH 1) s m args below meth c 0 0 (RQ below args s D (wT cI B) (fun r u => u = (t.1, ua t.2 w (climbF t fx ht 66 (t.2 w) 1)) ∧ r = some (.int (if ht < climbF t fx ht 66 (t.2 w) 1 fx then 0 else 1))) A) 7 D A 64 [some (.ref (B 0)), some (.ref (B w)), some (.int (nI fx)), some (.int ht), some (.int ch1), some (.int (nI pas)), some (.int (nI i))] [] (wTW cI B t w g1) := by
        intro j
        induction j with
        | zero =>
          intro i g1 ch1 hij hc1 hr1
          have hi2 : i = N := by omega
          subst hi2
          refine j_iload (pc' := 66) C dX0_climb_64 rfl rfl ?_
          refine j_aload_n (pc' := 67) C dX0_climb_66 rfl rfl ?_
          refine jWi (pc' := 70) C dX0_climb_67 rfl 1 (by unfold isIT; decide) hinT (by decide +kernel) ?_
          refine j_icmp_ge (tgt := 160) (pc' := 73) C dX0_climb_70 (by decide) rfl (fun h70 => ?_) (fun h70 => ?_)
          · skip
            exact h160 _ _ _ hc1 hr1
          · skip
            exact absurd (by rw [en]; exact nI_le (Nat.le_refl _) (by omega)) h70 -- done
        | succ j jh =>
          intro i g1 ch1 hij hc1 hr1
          have hi1 : i < N := by omega
          have h154 : ∀ (g2 : Nat → Int32) (ch2 : Int32), (ch2 = 0 ∨ ch2 = 1) → (g2, ch2) = climbS t i (g1, ch1) → J p l e (rmH 1) s m args below meth c 0 0 (RQ below args s D (wT cI B) (fun r u => u = (t.1, ua t.2 w (climbF t fx ht 66 (t.2 w) 1)) ∧ r = some (.int (if ht < climbF t fx ht 66 (t.2 w) 1 fx then 0 else 1))) A) 7 D A 154 [some (.ref (B 0)), some (.ref (B w)), some (.int (nI fx)), some (.int ht), some (.int ch2), some (.int (nI pas)), some (.int (nI i))] [] (wTW cI B t w g2) := by
            intro g2 ch2 hc2 e2
            refine j_iinc (pc' := 157) C dX0_climb_154 rfl 1 (by decide) rfl (by decide) rfl ?_
            refine j_goto (pc' := 64) C dX0_climb_157 (by decide) ?_
            rw [nI_1]
            exact jh (i + 1) g2 ch2 (by omega) hc2 (by rw [e2]; exact hr1)
          have h7 : ∀ (x : Int32), x = t.2 7 i → x = x := fun _ _ => rfl
          refine j_iload (pc' := 66) C dX0_climb_64 rfl rfl ?_
          refine j_aload_n (pc' := 67) C dX0_climb_66 rfl rfl ?_
          refine jWi (pc' := 70) C dX0_climb_67 rfl 1 (by unfold isIT; decide) hinT (by decide +kernel) ?_
          refine j_icmp_ge (tgt := 160) (pc' := 73) C dX0_climb_70 (by decide) rfl (fun h70 => ?_) (fun h70 => ?_)
          · skip
            exact absurd h70 (by rw [en]; exact nI_ge hi1 (by omega)) -- done
          · skip
            refine j_aload_n (pc' := 74) C dX0_climb_73 rfl rfl ?_
            refine jWa (pc' := 77) C dX0_climb_74 rfl 7 (by decide) hinT (by decide +kernel) ?_
            refine j_iload (pc' := 79) C dX0_climb_77 rfl rfl ?_
            refine jWlN (pc' := 80) C dX0_climb_79 rfl 7 (by decide) (by omega) i rfl (by unfold lenT; simp; omega) ?_
            refine j_if_eq (tgt := 86) (pc' := 83) C dX0_climb_80 (by decide) rfl (fun h80 => ?_) (fun h80 => ?_)
            · skip
              refine j_aload_n (pc' := 87) C dX0_climb_86 rfl rfl ?_
              refine j_aload_n (pc' := 88) C dX0_climb_87 rfl rfl ?_
              refine jWa (pc' := 91) C dX0_climb_88 rfl 4 (by decide) hinT (by decide +kernel) ?_
              refine j_iload (pc' := 93) C dX0_climb_91 rfl rfl ?_
              refine jWlN (pc' := 94) C dX0_climb_93 rfl 4 (by decide) (by omega) i rfl (by unfold lenT; simp; omega) ?_
              refine j_aload_n (pc' := 95) C dX0_climb_94 rfl rfl ?_
              refine j_aload_n (pc' := 96) C dX0_climb_95 rfl rfl ?_
              refine jWa (pc' := 99) C dX0_climb_96 rfl 3 (by decide) hinT (by decide +kernel) ?_
              refine j_iload (pc' := 101) C dX0_climb_99 rfl rfl ?_
              refine jWlN (pc' := 102) C dX0_climb_101 rfl 3 (by decide) (by omega) i rfl (by unfold lenT; simp; omega) ?_
              refine jWg (pc' := 103) C dX0_climb_102 rfl hw3 (by rw [hlw]; exact (hft i hi1).1) ?_
              refine j_aload_n (pc' := 104) C dX0_climb_103 rfl rfl ?_
              refine jWa (pc' := 107) C dX0_climb_104 rfl 5 (by decide) hinT (by decide +kernel) ?_
              refine j_iload (pc' := 109) C dX0_climb_107 rfl rfl ?_
              refine jWlN (pc' := 110) C dX0_climb_109 rfl 5 (by decide) (by omega) i rfl (by unfold lenT; simp; omega) ?_
              refine j_iadd (pc' := 111) C dX0_climb_110 rfl ?_
              refine jW_call (pc' := 114) C hw3 (c_raiseW l D cI cO (B w) (lenT w) hlw g1 (t.2 4 i) (hft i hi1).2 _) 3 gX0_climb_X0_raise rfl (by decide +kernel) (by decide) rfl rfl (by decide) dX0_climb_111 rfl (fun v1 g1 hp1 => ?_)
              obtain ⟨rfl, rfl, h01⟩ := hp1
              show J p l e _ s m args below meth c 0 0 _ _ D A _ _ [_] _
              have h120 : ∀ (ch2 : Int32), ch2 = orI (raiseAt g1 (t.2 4 i).toNatClampNeg (g1 (t.2 3 i).toNatClampNeg + t.2 5 i)).2 ch1 → J p l e (rmH 1) s m args below meth c 0 0 (RQ below args s D (wT cI B) (fun r u => u = (t.1, ua t.2 w (climbF t fx ht 66 (t.2 w) 1)) ∧ r = some (.int (if ht < climbF t fx ht 66 (t.2 w) 1 fx then 0 else 1))) A) 7 D A 120 [some (.ref (B 0)), some (.ref (B w)), some (.int (nI fx)), some (.int ht), some (.int ch2), some (.int (nI pas)), some (.int (nI i))] [] (wTW cI B t w (raiseAt g1 (t.2 4 i).toNatClampNeg (g1 (t.2 3 i).toNatClampNeg + t.2 5 i)).1) := by
                intro ch2 ec2
                have hc2 : ch2 = 0 ∨ ch2 = 1 := by rw [ec2]; exact orI_01 hc1
                refine j_aload_n (pc' := 121) C dX0_climb_120 rfl rfl ?_
                refine j_aload_n (pc' := 122) C dX0_climb_121 rfl rfl ?_
                refine jWa (pc' := 125) C dX0_climb_122 rfl 3 (by decide) hinT (by decide +kernel) ?_
                refine j_iload (pc' := 127) C dX0_climb_125 rfl rfl ?_
                refine jWlN (pc' := 128) C dX0_climb_127 rfl 3 (by decide) (by omega) i rfl (by unfold lenT; simp; omega) ?_
                refine j_aload_n (pc' := 129) C dX0_climb_128 rfl rfl ?_
                refine j_aload_n (pc' := 130) C dX0_climb_129 rfl rfl ?_
                refine jWa (pc' := 133) C dX0_climb_130 rfl 4 (by decide) hinT (by decide +kernel) ?_
                refine j_iload (pc' := 135) C dX0_climb_133 rfl rfl ?_
                refine jWlN (pc' := 136) C dX0_climb_135 rfl 4 (by decide) (by omega) i rfl (by unfold lenT; simp; omega) ?_
                refine jWg (pc' := 137) C dX0_climb_136 rfl hw3 (by rw [hlw]; exact (hft i hi1).2) ?_
                refine j_aload_n (pc' := 138) C dX0_climb_137 rfl rfl ?_
                refine jWa (pc' := 141) C dX0_climb_138 rfl 6 (by decide) hinT (by decide +kernel) ?_
                refine j_iload (pc' := 143) C dX0_climb_141 rfl rfl ?_
                refine jWlN (pc' := 144) C dX0_climb_143 rfl 6 (by decide) (by omega) i rfl (by unfold lenT; simp; omega) ?_
                refine j_isub (pc' := 145) C dX0_climb_144 rfl ?_
                refine jW_call (pc' := 148) C hw3 (c_raiseW l D cI cO (B w) (lenT w) hlw _ (t.2 3 i) (hft i hi1).1 _) 3 gX0_climb_X0_raise rfl (by decide +kernel) (by decide) rfl rfl (by decide) dX0_climb_145 rfl (fun v1 g1 hp1 => ?_)
                obtain ⟨rfl, rfl, h02⟩ := hp1
                show J p l e _ s m args below meth c 0 0 _ _ D A _ _ [_] _
                refine j_if_eq (tgt := 154) (pc' := 151) C dX0_climb_148 (by decide) rfl (fun h148 => ?_) (fun h148 => ?_)
                · skip
                  first | exact h154 _ _ hc2 (by rw [climbS, if_pos h80, (b_if0 h02).1 h148, ← ec2]) | exact h154 _ _ (Or.inr rfl) (by rw [climbS, if_pos h80, (b_if0 h02).2 h148])
                · skip
                  refine j_iconst (pc' := 152) C dX0_climb_151 rfl 1 (by decide) ?_
                  refine j_istore (pc' := 154) C dX0_climb_152 rfl (by decide) rfl ?_
                  first | exact h154 _ _ hc2 (by rw [climbS, if_pos h80, (b_if0 h02).1 h148, ← ec2]) | exact h154 _ _ (Or.inr rfl) (by rw [climbS, if_pos h80, (b_if0 h02).2 h148])
                
              refine j_if_eq (tgt := 120) (pc' := 117) C dX0_climb_114 (by decide) rfl (fun h114 => ?_) (fun h114 => ?_)
              · skip
                first | exact h120 _ ((b_if0 h01).1 h114).symm | exact h120 _ ((b_if0 h01).2 h114).symm
              · skip
                refine j_iconst (pc' := 118) C dX0_climb_117 rfl 1 (by decide) ?_
                refine j_istore (pc' := 120) C dX0_climb_118 rfl (by decide) rfl ?_
                first | exact h120 _ ((b_if0 h01).1 h114).symm | exact h120 _ ((b_if0 h01).2 h114).symm
              
            · skip
              refine j_goto (pc' := 154) C dX0_climb_83 (by decide) ?_
              exact h154 _ _ hc1 (by rw [climbS, if_neg h80])
      refine j_iload (pc' := 8) C dX0_climb_6 rfl rfl ?_
      refine j_bipush (pc' := 10) C dX0_climb_8 rfl 66 (by decide) ?_
      refine j_icmp_ge (tgt := 166) (pc' := 13) C dX0_climb_10 (by decide) rfl (fun h10 => ?_) (fun h10 => ?_)
      · skip
        exact absurd h10 (nI_ge (b := 66) (by omega) (by decide)) -- done
      · skip
        refine j_iload (pc' := 15) C dX0_climb_13 rfl rfl ?_
        refine j_if_eq (tgt := 166) (pc' := 18) C dX0_climb_15 (by decide) rfl (fun h15 => ?_) (fun h15 => ?_)
        · skip
          first | exact hret _ _ _ _ (by rw [← hr, climbF, if_pos h15]) | exact hret _ _ _ _ (by rw [← hr, climbF, if_neg h15, if_pos h22])
        · skip
          refine j_aload_n (pc' := 19) C dX0_climb_18 rfl rfl ?_
          refine j_iload_n (pc' := 20) C dX0_climb_19 rfl rfl ?_
          refine jWgN (pc' := 21) C dX0_climb_20 rfl hw3 fx rfl (by rw [hlw]; omega) ?_
          refine j_iload_n (pc' := 22) C dX0_climb_21 rfl rfl ?_
          refine j_icmp_gt (tgt := 166) (pc' := 25) C dX0_climb_22 (by decide) rfl (fun h22 => ?_) (fun h22 => ?_)
          · skip
            first | exact hret _ _ _ _ (by rw [← hr, climbF, if_pos h15]) | exact hret _ _ _ _ (by rw [← hr, climbF, if_neg h15, if_pos h22])
          · skip
            refine j_aload_n (pc' := 26) C dX0_climb_25 rfl rfl ?_
            refine j_iconst (pc' := 27) C dX0_climb_26 rfl 0 (by decide) ?_
            refine j_aload_n (pc' := 28) C dX0_climb_27 rfl rfl ?_
            refine j_bipush (pc' := 30) C dX0_climb_28 rfl 64 (by decide) ?_
            refine jWgN (pc' := 31) C dX0_climb_30 rfl hw3 64 rfl (by rw [hlw]; decide) ?_
            refine j_aload_n (pc' := 32) C dX0_climb_31 rfl rfl ?_
            refine jWi (pc' := 35) C dX0_climb_32 rfl 0 (by unfold isIT; decide) hinT (by decide +kernel) ?_
            refine j_isub (pc' := 36) C dX0_climb_35 rfl ?_
            refine jW_call (pc' := 39) C hw3 (c_raiseN l D cI cO (B w) (lenT w) hlw g 0 0 rfl (by decide) _) 3 gX0_climb_X0_raise rfl (by decide +kernel) (by decide) rfl rfl (by decide) dX0_climb_36 rfl (fun v1 g1 hp1 => ?_)
            obtain ⟨rfl, rfl, h01⟩ := hp1
            show J p l e _ s m args below meth c 0 0 _ _ D A _ _ [_] _
            refine j_istore (pc' := 41) C dX0_climb_39 rfl (by decide) rfl ?_
            refine j_aload_n (pc' := 42) C dX0_climb_41 rfl rfl ?_
            refine j_bipush (pc' := 44) C dX0_climb_42 rfl 64 (by decide) ?_
            refine j_aload_n (pc' := 45) C dX0_climb_44 rfl rfl ?_
            refine j_iconst (pc' := 46) C dX0_climb_45 rfl 0 (by decide) ?_
            refine jWgN (pc' := 47) C dX0_climb_46 rfl hw3 0 rfl (by rw [hlw]; decide) ?_
            refine j_aload_n (pc' := 48) C dX0_climb_47 rfl rfl ?_
            refine jWi (pc' := 51) C dX0_climb_48 rfl 0 (by unfold isIT; decide) hinT (by decide +kernel) ?_
            refine j_iadd (pc' := 52) C dX0_climb_51 rfl ?_
            refine jW_call (pc' := 55) C hw3 (c_raiseN l D cI cO (B w) (lenT w) hlw _ 64 64 rfl (by decide) _) 3 gX0_climb_X0_raise rfl (by decide +kernel) (by decide) rfl rfl (by decide) dX0_climb_52 rfl (fun v1 g1 hp1 => ?_)
            obtain ⟨rfl, rfl, h02⟩ := hp1
            show J p l e _ s m args below meth c 0 0 _ _ D A _ _ [_] _
            have hr3 : climbF t fx ht k (climbPass t g).1 (climbPass t g).2 = climbF t fx ht 66 (t.2 w) 1 := by rw [← hr, climbF, if_neg h15, if_neg h22]
            unfold climbPass at hr3
            rw [hN] at hr3
            refine j_if_eq (tgt := 61) (pc' := 58) C dX0_climb_55 (by decide) rfl (fun h55 => ?_) (fun h55 => ?_)
            · skip
              refine j_iconst (pc' := 62) C dX0_climb_61 rfl 0 (by decide) ?_
              refine j_istore (pc' := 64) C dX0_climb_62 rfl (by decide) rfl ?_
              first | exact inner N 0 _ _ (by omega) h01 (by rw [(b_if0 h02).1 h55] at hr3; exact hr3) | exact inner N 0 _ _ (by omega) (Or.inr rfl) (by rw [(b_if0 h02).2 h55] at hr3; exact hr3)
            · skip
              refine j_iconst (pc' := 59) C dX0_climb_58 rfl 1 (by decide) ?_
              refine j_istore (pc' := 61) C dX0_climb_59 rfl (by decide) rfl ?_
              refine j_iconst (pc' := 62) C dX0_climb_61 rfl 0 (by decide) ?_
              refine j_istore (pc' := 64) C dX0_climb_62 rfl (by decide) rfl ?_
              first | exact inner N 0 _ _ (by omega) h01 (by rw [(b_if0 h02).1 h55] at hr3; exact hr3) | exact inner N 0 _ _ (by omega) (Or.inr rfl) (by rw [(b_if0 h02).2 h55] at hr3; exact hr3)
            
            
  refine j_iconst (pc' := 1) C dX0_climb_0 rfl 1 (by decide) ?_
  refine j_istore (pc' := 3) C dX0_climb_1 rfl (by decide) rfl ?_
  refine j_iconst (pc' := 4) C dX0_climb_3 rfl 0 (by decide) ?_
  refine j_istore (pc' := 6) C dX0_climb_4 rfl (by decide) rfl ?_
  have h0 := outer 66 0 (t.2 w) 1 none (by omega) (Or.inr rfl) rfl
  unfold wTW at h0
  rw [ua_self] at h0
  exact h0
end
section
set_option maxRecDepth 100000 in
set_option maxHeartbeats 4000000 in
theorem c_sink (l : Launch) (D : va_G) (cI cO : ClassId) (B : Nat → Nat) (t : TS) (hok : okT t) (w : Nat) (hw : 9 ≤ w ∧ w ≤ 11) : Kt l yX0_sink wsX0_sink 1 (wT cI B) D cI cO (fun _ => True) [.ref (B 0), .ref (B w)] t (fun r u => r = none ∧ u = (t.1, ua t.2 w (sinkF t 66 (t.2 w) 1))) := by
  refine Kt_of (cc := cX0_sink) (n := 5) (ret := none) rfl (by decide +kernel) (Nat.le_of_ble_eq_true rfl) rfl [some (.ref (B 0)), some (.ref (B w)), none, none, none] rfl ?_
  intro p e s m args below meth c A C _ _
  have hinT : ∀ w ∈ wsX00, w ∈ wsX0_sink := by decide +kernel
  have hw3 : 3 ≤ w ∧ w ≤ 11 := by omega
  have hlw : lenT w = 65 := by unfold lenT; rw [if_neg (by omega), if_neg (by omega)]
  obtain ⟨hn, hft⟩ := hok
  obtain ⟨en, hn41⟩ := vp_in_c hn (by decide)
  generalize hN : (t.1 1).toNatClampNeg = N at en hn41 hft
  have hret : ∀ (g : Nat → Int32) (x4 x5 x6 : Option Value), g = sinkF t 66 (t.2 w) 1 → J p l e (rmH 1) s m args below meth c 0 0 (RQ below args s D (wT cI B) (fun r u => r = none ∧ u = (t.1, ua t.2 w (sinkF t 66 (t.2 w) 1))) A) 5 D A 119 [some (.ref (B 0)), some (.ref (B w)), x4, x5, x6] [] (wTW cI B t w g) := by
    intro g x4 x5 x6 hg
    refine j_return _ C dX0_sink_119 ?_
    exact ⟨rfl, by rw [← hg]⟩
  have outer : ∀ (k pas : Nat) (g : Nat → Int32) (ch : Int32) (x6 : Option Value), pas + k = 66 → sinkF t k g ch = sinkF t 66 (t.2 w) 1 → J p l e (rmH 1) s m args below meth c 0 0 (RQ below args s D (wT cI B) (fun r u => r = none ∧ u = (t.1, ua t.2 w (sinkF t 66 (t.2 w) 1))) A) 5 D A 4 [some (.ref (B 0)), some (.ref (B w)), some (.int ch), some (.int (nI pas)), x6] [] (wTW cI B t w g) := by
    intro k
    induction k with
    | zero =>
      intro pas g ch x6 hk hr
      have hp2 : pas = 66 := by omega
      subst hp2
      refine j_iload_n (pc' := 5) C dX0_sink_4 rfl rfl ?_
      refine j_bipush (pc' := 7) C dX0_sink_5 rfl 66 (by decide) ?_
      refine j_icmp_ge (tgt := 119) (pc' := 10) C dX0_sink_7 (by decide) rfl (fun h7 => ?_) (fun h7 => ?_)
      · skip
        exact hret _ _ _ _ hr
      · skip
        exact absurd (by decide) h7 -- done
    | succ k ih =>
      intro pas g ch x6 hk hr
      have h113 : ∀ (g1 : Nat → Int32) (ch1 : Int32) (x6 : Option Value), sinkF t k g1 ch1 = sinkF t 66 (t.2 w) 1 → J p l e (rmH 1) s m args below meth c 0 0 (RQ below args s D (wT cI B) (fun r u => r = none ∧ u = (t.1, ua t.2 w (sinkF t 66 (t.2 w) 1))) A) 5 D A 113 [some (.ref (B 0)), some (.ref (B w)), some (.int ch1), some (.int (nI pas)), x6] [] (wTW cI B t w g1) := by
        intro g1 ch1 x6 hr1
        refine j_iinc (pc' := 116) C dX0_sink_113 rfl 1 (by decide) rfl (by decide) rfl ?_
        refine j_goto (pc' := 4) C dX0_sink_116 (by decide) ?_
        rw [nI_1]
        exact ih (pas + 1) g1 ch1 x6 (by omega) hr1
      have inner : ∀ (j i : Nat) (g1 : Nat → Int32) (ch1 : Int32), i + j = N → sinkF t k (sinkIn t j i (g1, ch1)).1 (sinkIn t j i (g1, ch1)).2 = sinkF t 66 (t.2 w) 1 → J p l e (rmH 1) s m args below meth c 0 0 (RQ below args s D (wT cI B) (fun r u => r = none ∧ u = (t.1, ua t.2 w (sinkF t 66 (t.2 w) 1))) A) 5 D A 19 [some (.ref (B 0)), some (.ref (B w)), some (.int ch1), some (.int (nI pas)), some (.int (nI i))] [] (wTW cI B t w g1) := by
        intro j
        induction j with
        | zero =>
          intro i g1 ch1 hij hr1
          have hi2 : i = N := by omega
          subst hi2
          refine j_iload (pc' := 21) C dX0_sink_19 rfl rfl ?_
          refine j_aload_n (pc' := 22) C dX0_sink_21 rfl rfl ?_
          refine jWi (pc' := 25) C dX0_sink_22 rfl 1 (by unfold isIT; decide) hinT (by decide +kernel) ?_
          refine j_icmp_ge (tgt := 113) (pc' := 28) C dX0_sink_25 (by decide) rfl (fun h25 => ?_) (fun h25 => ?_)
          · skip
            exact h113 _ _ _ hr1
          · skip
            exact absurd (by rw [en]; exact nI_le (Nat.le_refl _) (by omega)) h25 -- done
        | succ j jh =>
          intro i g1 ch1 hij hr1
          have hi1 : i < N := by omega
          have h107 : ∀ (g2 : Nat → Int32) (ch2 : Int32), (g2, ch2) = sinkS t i (g1, ch1) → J p l e (rmH 1) s m args below meth c 0 0 (RQ below args s D (wT cI B) (fun r u => r = none ∧ u = (t.1, ua t.2 w (sinkF t 66 (t.2 w) 1))) A) 5 D A 107 [some (.ref (B 0)), some (.ref (B w)), some (.int ch2), some (.int (nI pas)), some (.int (nI i))] [] (wTW cI B t w g2) := by
            intro g2 ch2 e2
            refine j_iinc (pc' := 110) C dX0_sink_107 rfl 1 (by decide) rfl (by decide) rfl ?_
            refine j_goto (pc' := 19) C dX0_sink_110 (by decide) ?_
            rw [nI_1]
            exact jh (i + 1) g2 ch2 (by omega) (by rw [e2]; exact hr1)
          refine j_iload (pc' := 21) C dX0_sink_19 rfl rfl ?_
          refine j_aload_n (pc' := 22) C dX0_sink_21 rfl rfl ?_
          refine jWi (pc' := 25) C dX0_sink_22 rfl 1 (by unfold isIT; decide) hinT (by decide +kernel) ?_
          refine j_icmp_ge (tgt := 113) (pc' := 28) C dX0_sink_25 (by decide) rfl (fun h25 => ?_) (fun h25 => ?_)
          · skip
            exact absurd h25 (by rw [en]; exact nI_ge hi1 (by omega)) -- done
          · skip
            refine j_aload_n (pc' := 29) C dX0_sink_28 rfl rfl ?_
            refine jWa (pc' := 32) C dX0_sink_29 rfl 7 (by decide) hinT (by decide +kernel) ?_
            refine j_iload (pc' := 34) C dX0_sink_32 rfl rfl ?_
            refine jWlN (pc' := 35) C dX0_sink_34 rfl 7 (by decide) (by omega) i rfl (by unfold lenT; simp; omega) ?_
            refine j_if_eq (tgt := 41) (pc' := 38) C dX0_sink_35 (by decide) rfl (fun h35 => ?_) (fun h35 => ?_)
            · skip
              refine j_aload_n (pc' := 42) C dX0_sink_41 rfl rfl ?_
              refine j_aload_n (pc' := 43) C dX0_sink_42 rfl rfl ?_
              refine jWa (pc' := 46) C dX0_sink_43 rfl 3 (by decide) hinT (by decide +kernel) ?_
              refine j_iload (pc' := 48) C dX0_sink_46 rfl rfl ?_
              refine jWlN (pc' := 49) C dX0_sink_48 rfl 3 (by decide) (by omega) i rfl (by unfold lenT; simp; omega) ?_
              refine j_aload_n (pc' := 50) C dX0_sink_49 rfl rfl ?_
              refine j_aload_n (pc' := 51) C dX0_sink_50 rfl rfl ?_
              refine jWa (pc' := 54) C dX0_sink_51 rfl 4 (by decide) hinT (by decide +kernel) ?_
              refine j_iload (pc' := 56) C dX0_sink_54 rfl rfl ?_
              refine jWlN (pc' := 57) C dX0_sink_56 rfl 4 (by decide) (by omega) i rfl (by unfold lenT; simp; omega) ?_
              refine jWg (pc' := 58) C dX0_sink_57 rfl hw3 (by rw [hlw]; exact (hft i hi1).2) ?_
              refine j_aload_n (pc' := 59) C dX0_sink_58 rfl rfl ?_
              refine jWa (pc' := 62) C dX0_sink_59 rfl 5 (by decide) hinT (by decide +kernel) ?_
              refine j_iload (pc' := 64) C dX0_sink_62 rfl rfl ?_
              refine jWlN (pc' := 65) C dX0_sink_64 rfl 5 (by decide) (by omega) i rfl (by unfold lenT; simp; omega) ?_
              refine j_isub (pc' := 66) C dX0_sink_65 rfl ?_
              refine jW_call (pc' := 69) C hw3 (c_lowerW l D cI cO (B w) (lenT w) hlw g1 (t.2 3 i) (hft i hi1).1 _) 3 gX0_sink_X0_lower rfl (by decide +kernel) (by decide) rfl rfl (by decide) dX0_sink_66 rfl (fun v1 g1 hp1 => ?_)
              obtain ⟨rfl, rfl, h01⟩ := hp1
              show J p l e _ s m args below meth c 0 0 _ _ D A _ _ [_] _
              have h74 : ∀ (ch2 : Int32), ch2 = orI (lowerAt g1 (t.2 3 i).toNatClampNeg (g1 (t.2 4 i).toNatClampNeg - t.2 5 i)).2 ch1 → J p l e (rmH 1) s m args below meth c 0 0 (RQ below args s D (wT cI B) (fun r u => r = none ∧ u = (t.1, ua t.2 w (sinkF t 66 (t.2 w) 1))) A) 5 D A 74 [some (.ref (B 0)), some (.ref (B w)), some (.int ch2), some (.int (nI pas)), some (.int (nI i))] [] (wTW cI B t w (lowerAt g1 (t.2 3 i).toNatClampNeg (g1 (t.2 4 i).toNatClampNeg - t.2 5 i)).1) := by
                intro ch2 ec2
                refine j_aload_n (pc' := 75) C dX0_sink_74 rfl rfl ?_
                refine j_aload_n (pc' := 76) C dX0_sink_75 rfl rfl ?_
                refine jWa (pc' := 79) C dX0_sink_76 rfl 4 (by decide) hinT (by decide +kernel) ?_
                refine j_iload (pc' := 81) C dX0_sink_79 rfl rfl ?_
                refine jWlN (pc' := 82) C dX0_sink_81 rfl 4 (by decide) (by omega) i rfl (by unfold lenT; simp; omega) ?_
                refine j_aload_n (pc' := 83) C dX0_sink_82 rfl rfl ?_
                refine j_aload_n (pc' := 84) C dX0_sink_83 rfl rfl ?_
                refine jWa (pc' := 87) C dX0_sink_84 rfl 3 (by decide) hinT (by decide +kernel) ?_
                refine j_iload (pc' := 89) C dX0_sink_87 rfl rfl ?_
                refine jWlN (pc' := 90) C dX0_sink_89 rfl 3 (by decide) (by omega) i rfl (by unfold lenT; simp; omega) ?_
                refine jWg (pc' := 91) C dX0_sink_90 rfl hw3 (by rw [hlw]; exact (hft i hi1).1) ?_
                refine j_aload_n (pc' := 92) C dX0_sink_91 rfl rfl ?_
                refine jWa (pc' := 95) C dX0_sink_92 rfl 6 (by decide) hinT (by decide +kernel) ?_
                refine j_iload (pc' := 97) C dX0_sink_95 rfl rfl ?_
                refine jWlN (pc' := 98) C dX0_sink_97 rfl 6 (by decide) (by omega) i rfl (by unfold lenT; simp; omega) ?_
                refine j_iadd (pc' := 99) C dX0_sink_98 rfl ?_
                refine jW_call (pc' := 102) C hw3 (c_lowerW l D cI cO (B w) (lenT w) hlw _ (t.2 4 i) (hft i hi1).2 _) 3 gX0_sink_X0_lower rfl (by decide +kernel) (by decide) rfl rfl (by decide) dX0_sink_99 rfl (fun v1 g1 hp1 => ?_)
                obtain ⟨rfl, rfl, h02⟩ := hp1
                show J p l e _ s m args below meth c 0 0 _ _ D A _ _ [_] _
                refine j_if_eq (tgt := 107) (pc' := 105) C dX0_sink_102 (by decide) rfl (fun h102 => ?_) (fun h102 => ?_)
                · skip
                  first | exact h107 _ _ (by rw [sinkS, if_pos h35, (b_if0 h02).1 h102, ← ec2]) | exact h107 _ _ (by rw [sinkS, if_pos h35, (b_if0 h02).2 h102])
                · skip
                  refine j_iconst (pc' := 106) C dX0_sink_105 rfl 1 (by decide) ?_
                  refine j_istore_n (pc' := 107) C dX0_sink_106 rfl (by decide) rfl ?_
                  first | exact h107 _ _ (by rw [sinkS, if_pos h35, (b_if0 h02).1 h102, ← ec2]) | exact h107 _ _ (by rw [sinkS, if_pos h35, (b_if0 h02).2 h102])
                
              refine j_if_eq (tgt := 74) (pc' := 72) C dX0_sink_69 (by decide) rfl (fun h69 => ?_) (fun h69 => ?_)
              · skip
                first | exact h74 _ ((b_if0 h01).1 h69).symm | exact h74 _ ((b_if0 h01).2 h69).symm
              · skip
                refine j_iconst (pc' := 73) C dX0_sink_72 rfl 1 (by decide) ?_
                refine j_istore_n (pc' := 74) C dX0_sink_73 rfl (by decide) rfl ?_
                first | exact h74 _ ((b_if0 h01).1 h69).symm | exact h74 _ ((b_if0 h01).2 h69).symm
              
            · skip
              refine j_goto (pc' := 107) C dX0_sink_38 (by decide) ?_
              exact h107 _ _ (by rw [sinkS, if_neg h35])
      refine j_iload_n (pc' := 5) C dX0_sink_4 rfl rfl ?_
      refine j_bipush (pc' := 7) C dX0_sink_5 rfl 66 (by decide) ?_
      refine j_icmp_ge (tgt := 119) (pc' := 10) C dX0_sink_7 (by decide) rfl (fun h7 => ?_) (fun h7 => ?_)
      · skip
        exact absurd h7 (nI_ge (b := 66) (by omega) (by decide)) -- done
      · skip
        refine j_iload_n (pc' := 11) C dX0_sink_10 rfl rfl ?_
        refine j_if_eq (tgt := 119) (pc' := 14) C dX0_sink_11 (by decide) rfl (fun h11 => ?_) (fun h11 => ?_)
        · skip
          exact hret _ _ _ _ (by rw [← hr, sinkF, if_pos h11])
        · skip
          refine j_iconst (pc' := 15) C dX0_sink_14 rfl 0 (by decide) ?_
          refine j_istore_n (pc' := 16) C dX0_sink_15 rfl (by decide) rfl ?_
          refine j_iconst (pc' := 17) C dX0_sink_16 rfl 0 (by decide) ?_
          refine j_istore (pc' := 19) C dX0_sink_17 rfl (by decide) rfl ?_
          exact inner N 0 _ _ (by omega) (by rw [← hr, sinkF, if_neg h11, hN])
  refine j_iconst (pc' := 1) C dX0_sink_0 rfl 1 (by decide) ?_
  refine j_istore_n (pc' := 2) C dX0_sink_1 rfl (by decide) rfl ?_
  refine j_iconst (pc' := 3) C dX0_sink_2 rfl 0 (by decide) ?_
  refine j_istore_n (pc' := 4) C dX0_sink_3 rfl (by decide) rfl ?_
  have h0 := outer 66 0 (t.2 w) 1 none (by omega) rfl
  unfold wTW at h0
  rw [ua_self] at h0
  exact h0
/-! what climb and sink look at -/
def sameK (tt t : TS) : Prop := tt.1 0 = t.1 0 ∧ tt.1 1 = t.1 1 ∧ ∀ k, 3 ≤ k → k ≤ 7 → tt.2 k = t.2 k
theorem climbS_cong {tt t : TS} (h : sameK tt t) (s : Nat) (r : (Nat → Int32) × Int32) : climbS tt s r = climbS t s r := by
  unfold climbS
  rw [h.2.2 3 (by decide) (by decide), h.2.2 4 (by decide) (by decide), h.2.2 5 (by decide) (by decide), h.2.2 6 (by decide) (by decide), h.2.2 7 (by decide) (by decide)]
theorem climbIn_cong {tt t : TS} (h : sameK tt t) : ∀ (k s : Nat) (r : (Nat → Int32) × Int32), climbIn tt k s r = climbIn t k s r
  | 0, _, _ => rfl
  | k + 1, s, r => by rw [climbIn, climbIn, climbS_cong h, climbIn_cong h k]
theorem climbPass_cong {tt t : TS} (h : sameK tt t) (g : Nat → Int32) : climbPass tt g = climbPass t g := by
  unfold climbPass
  rw [h.1, h.2.1, climbIn_cong h]
theorem climbF_cong {tt t : TS} (h : sameK tt t) (fx : Nat) (ht : Int32) : ∀ (k : Nat) (g : Nat → Int32) (ch : Int32), climbF tt fx ht k g ch = climbF t fx ht k g ch
  | 0, _, _ => rfl
  | k + 1, g, ch => by rw [climbF, climbF, climbPass_cong h, climbF_cong h fx ht k]
theorem sinkS_cong {tt t : TS} (h : sameK tt t) (s : Nat) (r : (Nat → Int32) × Int32) : sinkS tt s r = sinkS t s r := by
  unfold sinkS
  rw [h.2.2 3 (by decide) (by decide), h.2.2 4 (by decide) (by decide), h.2.2 5 (by decide) (by decide), h.2.2 6 (by decide) (by decide), h.2.2 7 (by decide) (by decide)]
theorem sinkIn_cong {tt t : TS} (h : sameK tt t) : ∀ (k s : Nat) (r : (Nat → Int32) × Int32), sinkIn tt k s r = sinkIn t k s r
  | 0, _, _ => rfl
  | k + 1, s, r => by rw [sinkIn, sinkIn, sinkS_cong h, sinkIn_cong h k]
theorem sinkF_cong {tt t : TS} (h : sameK tt t) : ∀ (k : Nat) (g : Nat → Int32) (ch : Int32), sinkF tt k g ch = sinkF t k g ch
  | 0, _, _ => rfl
  | k + 1, g, ch => by rw [sinkF, sinkF, h.2.1, sinkIn_cong h, sinkF_cong h k]
theorem okT_cong {tt t : TS} (h : sameK tt t) (ho : okT t) : okT tt := by
  unfold okT at ho ⊢
  rw [h.2.1, h.2.2 3 (by decide) (by decide), h.2.2 4 (by decide) (by decide)]
  exact ho
theorem sameK.rf (t : TS) : sameK t t := ⟨rfl, rfl, fun _ _ _ => rfl⟩
theorem sameK_ua {tt t : TS} (h : sameK tt t) {w : Nat} (hw : 8 ≤ w) (g : Nat → Int32) : sameK (tt.1, ua tt.2 w g) t := ⟨h.1, h.2.1, fun k h1 h2 => by
  show ua tt.2 w g k = t.2 k
  rw [ua_n _ _ (by omega)]; exact h.2.2 k h1 h2⟩
theorem sameK.trans {a b c : TS} (h : sameK a b) (h2 : sameK b c) : sameK a c := ⟨h.1.trans h2.1, h.2.1.trans h2.2.1, fun k h1 h3 => (h.2.2 k h1 h3).trans (h2.2.2 k h1 h3)⟩
theorem c_climbG (l : Launch) (D : va_G) (cI cO : ClassId) (B : Nat → Nat) (tt t : TS) (hs : sameK tt t) (hok : okT t) (w : Nat) (hw : 9 ≤ w ∧ w ≤ 11) (x : Int32) (fx : Nat) (hx : x = nI fx) (hfx : fx ≤ 64) (ht : Int32) : Kt l yX0_climb wsX0_climb 1 (wT cI B) D cI cO (fun _ => True) [.ref (B 0), .ref (B w), .int x, .int ht] tt (fun r u => u = (tt.1, ua tt.2 w (climbF t fx ht 66 (tt.2 w) 1)) ∧ r = some (.int (if ht < climbF t fx ht 66 (tt.2 w) 1 fx then 0 else 1))) := by
  subst hx
  have := c_climb l D cI cO B tt (okT_cong hs hok) w hw fx hfx ht
  rw [climbF_cong hs] at this
  exact this
theorem c_sinkG (l : Launch) (D : va_G) (cI cO : ClassId) (B : Nat → Nat) (tt t : TS) (hs : sameK tt t) (hok : okT t) (w : Nat) (hw : 9 ≤ w ∧ w ≤ 11) : Kt l yX0_sink wsX0_sink 1 (wT cI B) D cI cO (fun _ => True) [.ref (B 0), .ref (B w)] tt (fun r u => r = none ∧ u = (tt.1, ua tt.2 w (sinkF t 66 (tt.2 w) 1))) := by
  have := c_sink l D cI cO B tt (okT_cong hs hok) w hw
  rw [sinkF_cong hs] at this
  exact this
end
section
/-! fits -/
section ENW3
variable {p : Program} {l : Launch} {e : Env} {R : Room} {s : State} {m : MethodId} {args : Array Value} {below : List Frame} {meth : Method} {c : Code} {cells slots : Nat} {Q : State → Prop} {n : Nat} {D : va_G} {A : Nat → Prop} {cc : ByteArray} {own : String} {Ts : List Cond} {ret : Option FieldType} {cI cO : ClassId} {pc pc' : Nat} {L : List (Option Value)} {S : List Value} {ws : va_W} {B : Nat → Nat} {t : TS}
theorem jT_copy {ix : Nat} (C : Cx p R s m args meth c cells slots n D A cc own Ts ret cI cO) (hd : decode cc pc = .ok (.invokestatic ix, 3)) (hp : pc + 3 = pc') (k1 k2 : Nat) (hk1 : 9 ≤ k1 ∧ k1 ≤ 11) (hk2 : 9 ≤ k2 ∧ k2 ≤ 11) (h1 : Cond.methodLink own ix arraycopyName ∈ Ts) (h2 : Cond.native arraycopyName ∈ Ts) (h3 : Cond.static arraycopyName ∈ Ts) (h4 : Cond.initialized "java/lang/System" ∈ Ts) (h5 : 1 ≤ R.frames) (h6 : (S.map fun v => v.category).sum + (nativeFrameWords "java/lang/System" "arraycopy" 5 + 11) ≤ R.locals)
    (kk : J p l e R s m args below meth c cells slots Q n D A (pc') (L) (S) (wT cI B (t.1, ua t.2 k2 (va_cpy (t.2 k1) (t.2 k2) 0 0 65)))) : J p l e R s m args below meth c cells slots Q n D A (pc) (L) (.int 65 :: .int 0 :: .ref (B k2) :: .int 0 :: .ref (B k1) :: S) (wT cI B t) := by
  have e1 : lenT k1 = 65 := by unfold lenT; rw [if_neg (by omega), if_neg (by omega)]
  have e2 : lenT k2 = 65 := by unfold lenT; rw [if_neg (by omega), if_neg (by omega)]
  have a1 := wT_arr cI B t (k := k1) (by omega)
  have a2 := wT_arr cI B t (k := k2) (by omega)
  have a3 := wT_setA cI B t (k := k2) (by omega) (va_cpy (t.2 k1) (t.2 k2) 0 0 65)
  rw [e1] at a1
  rw [e2] at a2 a3
  exact j_copy C hd hp (k1 - 2) (k2 - 2) h1 h2 h3 h4 a1 a2 (by decide) (by decide) (by decide) a3 h5 h6 kk
end ENW3
def cpyF (f g : Nat → Int32) : Nat → Int32 := va_cpy f g 0 0 65
def fitsT (t : TS) (mv fx : Nat) (goal : Int32) : Int32 × TS :=
  if t.2 10 fx < climbF t fx (t.2 10 fx) 66 (raiseAt (cpyF (t.2 10) (t.2 11)) mv goal).1 1 fx
  then (0, (t.1, ua t.2 11 (climbF t fx (t.2 10 fx) 66 (raiseAt (cpyF (t.2 10) (t.2 11)) mv goal).1 1)))
  else (1, (t.1, ua (ua t.2 11 (climbF t fx (t.2 10 fx) 66 (raiseAt (cpyF (t.2 10) (t.2 11)) mv goal).1 1)) 10 (cpyF (climbF t fx (t.2 10 fx) 66 (raiseAt (cpyF (t.2 10) (t.2 11)) mv goal).1 1) (t.2 10))))
def fitsF (t : TS) (i : Nat) : Int32 × TS :=
  if t.2 10 (t.2 4 i).toNatClampNeg - t.2 10 (t.2 3 i).toNatClampNeg < t.2 5 i then fitsT t (t.2 4 i).toNatClampNeg (t.2 3 i).toNatClampNeg (t.2 10 (t.2 3 i).toNatClampNeg + t.2 5 i)
  else if t.2 6 i < t.2 10 (t.2 4 i).toNatClampNeg - t.2 10 (t.2 3 i).toNatClampNeg then fitsT t (t.2 3 i).toNatClampNeg (t.2 4 i).toNatClampNeg (t.2 10 (t.2 4 i).toNatClampNeg - t.2 6 i)
  else (1, t)
set_option maxRecDepth 100000 in
set_option maxHeartbeats 4000000 in
theorem c_fits (l : Launch) (D : va_G) (cI cO : ClassId) (B : Nat → Nat) (t : TS) (hok : okT t) (i : Nat) (hi : i < (t.1 1).toNatClampNeg) : Kt l yX0_fits wsX0_fits 2 (wT cI B) D cI cO (fun _ => True) [.ref (B 0), .int (nI i)] t (fun r u => r = some (.int (fitsF t i).1) ∧ u = (fitsF t i).2) := by
  refine Kt_of (cc := cX0_fits) (n := 9) (ret := some .boolean) rfl (by decide +kernel) (Nat.le_of_ble_eq_true rfl) rfl [some (.ref (B 0)), some (.int (nI i)), none, none, none, none, none, none, none] rfl ?_
  intro p e s m args below meth c A C _ _
  have hinT : ∀ w ∈ wsX00, w ∈ wsX0_fits := by decide +kernel
  have hn41 := (vp_in_c hok.1 (by decide)).2
  obtain ⟨ha, hb⟩ := hok.2 i hi
  have h131 : ∀ (mx fxx goal : Int32) (mv fx : Nat) (x4 x5 : Option Value), mx = nI mv → fxx = nI fx → mv ≤ 64 → fx ≤ 64 → fitsF t i = fitsT t mv fx goal → J p l e (rmH 2) s m args below meth c 0 0 (RQ below args s D (wT cI B) (fun r u => r = some (.int (fitsF t i).1) ∧ u = (fitsF t i).2) A) 9 D A 131 [some (.ref (B 0)), some (.int (nI i)), some (.int (t.2 3 i)), some (.int (t.2 4 i)), x4, x5, some (.int mx), some (.int fxx), some (.int goal)] [] (wT cI B t) := by
    intro mx fxx goal mv fx x4 x5 emx efx hmv hfx hF
    refine j_aload_n (pc' := 132) C dX0_fits_131 rfl rfl ?_
    refine jTa (pc' := 135) C dX0_fits_132 rfl 10 (by decide) hinT (by decide +kernel) ?_
    refine j_iconst (pc' := 136) C dX0_fits_135 rfl 0 (by decide) ?_
    refine j_aload_n (pc' := 137) C dX0_fits_136 rfl rfl ?_
    refine jTa (pc' := 140) C dX0_fits_137 rfl 11 (by decide) hinT (by decide +kernel) ?_
    refine j_iconst (pc' := 141) C dX0_fits_140 rfl 0 (by decide) ?_
    refine j_bipush (pc' := 143) C dX0_fits_141 rfl 65 (by decide) ?_
    refine jT_copy (pc' := 146) C dX0_fits_143 rfl 10 11 (by decide) (by decide) (by decide +kernel) (by decide +kernel) (by decide +kernel) (by decide +kernel) (by decide) (by decide +kernel) ?_
    refine j_aload_n (pc' := 147) C dX0_fits_146 rfl rfl ?_
    refine jTa (pc' := 150) C dX0_fits_147 rfl 11 (by decide) hinT (by decide +kernel) ?_
    refine j_iload (pc' := 152) C dX0_fits_150 rfl rfl ?_
    refine j_iload (pc' := 154) C dX0_fits_152 rfl rfl ?_
    refine jW_call (t := t) (w := 11) (g := cpyF (t.2 10) (t.2 11)) (pc' := 157) C (by decide) (c_raiseN l D cI cO (B 11) (lenT 11) rfl (cpyF (t.2 10) (t.2 11)) mx mv emx hmv goal) 3 gX0_fits_X0_raise rfl (by decide +kernel) (by decide) rfl rfl (by decide) dX0_fits_154 rfl (fun v1 g1 hp1 => ?_)
    obtain ⟨rfl, rfl, h01⟩ := hp1
    show J p l e _ s m args below meth c 0 0 _ _ D A _ _ [_] (wT cI B (t.1, ua t.2 11 (raiseAt (cpyF (t.2 10) (t.2 11)) mv goal).1))
    refine j_pop (pc' := 158) C dX0_fits_157 rfl rfl ?_
    refine j_aload_n (pc' := 159) C dX0_fits_158 rfl rfl ?_
    refine j_aload_n (pc' := 160) C dX0_fits_159 rfl rfl ?_
    refine jTa (pc' := 163) C dX0_fits_160 rfl 11 (by decide) hinT (by decide +kernel) ?_
    refine j_iload (pc' := 165) C dX0_fits_163 rfl rfl ?_
    refine j_aload_n (pc' := 166) C dX0_fits_165 rfl rfl ?_
    refine jTa (pc' := 169) C dX0_fits_166 rfl 10 (by decide) hinT (by decide +kernel) ?_
    refine j_iload (pc' := 171) C dX0_fits_169 rfl rfl ?_
    refine jTlN (pc' := 172) C dX0_fits_171 rfl 10 (by decide) fx efx (by unfold lenT; simp; omega) ?_
    refine jc_same (pc' := 175) C (c_climbG l D cI cO B (t.1, ua t.2 11 (raiseAt (cpyF (t.2 10) (t.2 11)) mv goal).1) t (sameK_ua (sameK.rf t) (by decide) _) hok 11 (by decide) fxx fx efx hfx (t.2 10 fx)) 3 gX0_fits_X0_climb rfl (by decide +kernel) (by decide) rfl rfl (by decide) 0 0 rfl rfl (wT_obj cI B _) (fun _ => rfl) dX0_fits_172 rfl (fun v1 u1 hp1 => ?_)
    obtain ⟨e1, e2⟩ := hp1
    have e1 : u1 = (t.1, ua t.2 11 (climbF t fx (t.2 10 fx) 66 (raiseAt (cpyF (t.2 10) (t.2 11)) mv goal).1 1)) := by rw [e1]; show (t.1, ua (ua t.2 11 _) 11 _) = _; rw [ua_ua]; rfl
    subst e1
    subst e2
    show J p l e _ s m args below meth c 0 0 _ _ D A _ _ [.int (if t.2 10 fx < (climbF t fx (t.2 10 fx) 66 (raiseAt (cpyF (t.2 10) (t.2 11)) mv goal).1 1) fx then 0 else 1)] _
    by_cases hlt : t.2 10 fx < (climbF t fx (t.2 10 fx) 66 (raiseAt (cpyF (t.2 10) (t.2 11)) mv goal).1 1) fx
    · rw [if_pos hlt]
      refine j_if_ne (tgt := 180) (pc' := 178) C dX0_fits_175 (by decide) rfl (fun h175 => ?_) (fun h175 => ?_)
      · skip
        exact absurd rfl h175 -- done
      · skip
        refine j_iconst (pc' := 179) C dX0_fits_178 rfl 0 (by decide) ?_
        refine j_zreturn _ C dX0_fits_179 ?_ ?_
        · exact Or.inl rfl
        · exact ⟨by rw [hF, fitsT, if_pos hlt], by rw [hF, fitsT, if_pos hlt]⟩
    · rw [if_neg hlt]
      refine j_if_ne (tgt := 180) (pc' := 178) C dX0_fits_175 (by decide) rfl (fun h175 => ?_) (fun h175 => ?_)
      · skip
        refine j_aload_n (pc' := 181) C dX0_fits_180 rfl rfl ?_
        refine jTa (pc' := 184) C dX0_fits_181 rfl 11 (by decide) hinT (by decide +kernel) ?_
        refine j_iconst (pc' := 185) C dX0_fits_184 rfl 0 (by decide) ?_
        refine j_aload_n (pc' := 186) C dX0_fits_185 rfl rfl ?_
        refine jTa (pc' := 189) C dX0_fits_186 rfl 10 (by decide) hinT (by decide +kernel) ?_
        refine j_iconst (pc' := 190) C dX0_fits_189 rfl 0 (by decide) ?_
        refine j_bipush (pc' := 192) C dX0_fits_190 rfl 65 (by decide) ?_
        refine jT_copy (pc' := 195) C dX0_fits_192 rfl 11 10 (by decide) (by decide) (by decide +kernel) (by decide +kernel) (by decide +kernel) (by decide +kernel) (by decide) (by decide +kernel) ?_
        refine j_iconst (pc' := 196) C dX0_fits_195 rfl 1 (by decide) ?_
        refine j_zreturn _ C dX0_fits_196 ?_ ?_
        · exact Or.inr rfl
        · exact ⟨by rw [hF, fitsT, if_neg hlt], by rw [hF, fitsT, if_neg hlt]; rfl⟩
        
      · skip
        exact absurd h175 (by decide) -- done
    
    
    
  obtain ⟨ea, hal⟩ := vp_in_c ha (by decide)
  obtain ⟨eb, hbl⟩ := vp_in_c hb (by decide)
  refine j_aload_n (pc' := 1) C dX0_fits_0 rfl rfl ?_
  refine jTa (pc' := 4) C dX0_fits_1 rfl 3 (by decide) hinT (by decide +kernel) ?_
  refine j_iload_n (pc' := 5) C dX0_fits_4 rfl rfl ?_
  refine jTlN (pc' := 6) C dX0_fits_5 rfl 3 (by decide) i rfl (by unfold lenT; simp; omega) ?_
  refine j_istore_n (pc' := 7) C dX0_fits_6 rfl (by decide) rfl ?_
  refine j_aload_n (pc' := 8) C dX0_fits_7 rfl rfl ?_
  refine jTa (pc' := 11) C dX0_fits_8 rfl 4 (by decide) hinT (by decide +kernel) ?_
  refine j_iload_n (pc' := 12) C dX0_fits_11 rfl rfl ?_
  refine jTlN (pc' := 13) C dX0_fits_12 rfl 4 (by decide) i rfl (by unfold lenT; simp; omega) ?_
  refine j_istore_n (pc' := 14) C dX0_fits_13 rfl (by decide) rfl ?_
  refine j_aload_n (pc' := 15) C dX0_fits_14 rfl rfl ?_
  refine jTa (pc' := 18) C dX0_fits_15 rfl 10 (by decide) hinT (by decide +kernel) ?_
  refine j_iload_n (pc' := 19) C dX0_fits_18 rfl rfl ?_
  refine jTl (pc' := 20) C dX0_fits_19 rfl 10 (by decide) (by exact hb) ?_
  refine j_aload_n (pc' := 21) C dX0_fits_20 rfl rfl ?_
  refine jTa (pc' := 24) C dX0_fits_21 rfl 10 (by decide) hinT (by decide +kernel) ?_
  refine j_iload_n (pc' := 25) C dX0_fits_24 rfl rfl ?_
  refine jTl (pc' := 26) C dX0_fits_25 rfl 10 (by decide) (by exact ha) ?_
  refine j_isub (pc' := 27) C dX0_fits_26 rfl ?_
  refine j_istore (pc' := 29) C dX0_fits_27 rfl (by decide) rfl ?_
  refine j_iload (pc' := 31) C dX0_fits_29 rfl rfl ?_
  refine j_aload_n (pc' := 32) C dX0_fits_31 rfl rfl ?_
  refine jTa (pc' := 35) C dX0_fits_32 rfl 5 (by decide) hinT (by decide +kernel) ?_
  refine j_iload_n (pc' := 36) C dX0_fits_35 rfl rfl ?_
  refine jTlN (pc' := 37) C dX0_fits_36 rfl 5 (by decide) i rfl (by unfold lenT; simp; omega) ?_
  refine j_icmp_lt (tgt := 53) (pc' := 40) C dX0_fits_37 (by decide) rfl (fun h37 => ?_) (fun h37 => ?_)
  · skip
    have hF : fitsF t i = fitsT t (t.2 4 i).toNatClampNeg (t.2 3 i).toNatClampNeg (t.2 10 (t.2 3 i).toNatClampNeg + t.2 5 i) := by rw [fitsF, if_pos h37]
    refine j_iload (pc' := 55) C dX0_fits_53 rfl rfl ?_
    refine j_aload_n (pc' := 56) C dX0_fits_55 rfl rfl ?_
    refine jTa (pc' := 59) C dX0_fits_56 rfl 5 (by decide) hinT (by decide +kernel) ?_
    refine j_iload_n (pc' := 60) C dX0_fits_59 rfl rfl ?_
    refine jTlN (pc' := 61) C dX0_fits_60 rfl 5 (by decide) i rfl (by unfold lenT; simp; omega) ?_
    refine j_icmp_ge (tgt := 68) (pc' := 64) C dX0_fits_61 (by decide) rfl (fun h61 => ?_) (fun h61 => ?_)
    · skip
      exact absurd h37 (i32_le_nlt h61) -- done
    · skip
      refine j_iconst (pc' := 65) C dX0_fits_64 rfl 1 (by decide) ?_
      refine j_goto (pc' := 69) C dX0_fits_65 (by decide) ?_
      refine j_istore (pc' := 71) C dX0_fits_69 rfl (by decide) rfl ?_
      refine j_iload (pc' := 73) C dX0_fits_71 rfl rfl ?_
      refine j_if_eq (tgt := 80) (pc' := 76) C dX0_fits_73 (by decide) rfl (fun h73 => ?_) (fun h73 => ?_)
      · skip
        exact absurd h73 (by decide) -- done
      · skip
        refine j_iload_n (pc' := 77) C dX0_fits_76 rfl rfl ?_
        refine j_goto (pc' := 81) C dX0_fits_77 (by decide) ?_
        refine j_istore (pc' := 83) C dX0_fits_81 rfl (by decide) rfl ?_
        refine j_iload (pc' := 85) C dX0_fits_83 rfl rfl ?_
        refine j_if_eq (tgt := 92) (pc' := 88) C dX0_fits_85 (by decide) rfl (fun h85 => ?_) (fun h85 => ?_)
        · skip
          exact absurd h85 (by decide) -- done
        · skip
          refine j_iload_n (pc' := 89) C dX0_fits_88 rfl rfl ?_
          refine j_goto (pc' := 93) C dX0_fits_89 (by decide) ?_
          refine j_istore (pc' := 95) C dX0_fits_93 rfl (by decide) rfl ?_
          refine j_iload (pc' := 97) C dX0_fits_95 rfl rfl ?_
          refine j_if_eq (tgt := 116) (pc' := 100) C dX0_fits_97 (by decide) rfl (fun h97 => ?_) (fun h97 => ?_)
          · skip
            exact absurd h97 (by decide) -- done
          · skip
            refine j_aload_n (pc' := 101) C dX0_fits_100 rfl rfl ?_
            refine jTa (pc' := 104) C dX0_fits_101 rfl 10 (by decide) hinT (by decide +kernel) ?_
            refine j_iload_n (pc' := 105) C dX0_fits_104 rfl rfl ?_
            refine jTl (pc' := 106) C dX0_fits_105 rfl 10 (by decide) (by exact ha) ?_
            refine j_aload_n (pc' := 107) C dX0_fits_106 rfl rfl ?_
            refine jTa (pc' := 110) C dX0_fits_107 rfl 5 (by decide) hinT (by decide +kernel) ?_
            refine j_iload_n (pc' := 111) C dX0_fits_110 rfl rfl ?_
            refine jTlN (pc' := 112) C dX0_fits_111 rfl 5 (by decide) i rfl (by unfold lenT; simp; omega) ?_
            refine j_iadd (pc' := 113) C dX0_fits_112 rfl ?_
            refine j_goto (pc' := 129) C dX0_fits_113 (by decide) ?_
            refine j_istore (pc' := 131) C dX0_fits_129 rfl (by decide) rfl ?_
            exact h131 _ _ _ _ _ _ _ eb ea (by omega) (by omega) hF
    -- done
  · skip
    refine j_iload (pc' := 42) C dX0_fits_40 rfl rfl ?_
    refine j_aload_n (pc' := 43) C dX0_fits_42 rfl rfl ?_
    refine jTa (pc' := 46) C dX0_fits_43 rfl 6 (by decide) hinT (by decide +kernel) ?_
    refine j_iload_n (pc' := 47) C dX0_fits_46 rfl rfl ?_
    refine jTlN (pc' := 48) C dX0_fits_47 rfl 6 (by decide) i rfl (by unfold lenT; simp; omega) ?_
    refine j_icmp_gt (tgt := 53) (pc' := 51) C dX0_fits_48 (by decide) rfl (fun h48 => ?_) (fun h48 => ?_)
    · skip
      have hF : fitsF t i = fitsT t (t.2 3 i).toNatClampNeg (t.2 4 i).toNatClampNeg (t.2 10 (t.2 4 i).toNatClampNeg - t.2 6 i) := by rw [fitsF, if_neg h37, if_pos h48]
      refine j_iload (pc' := 55) C dX0_fits_53 rfl rfl ?_
      refine j_aload_n (pc' := 56) C dX0_fits_55 rfl rfl ?_
      refine jTa (pc' := 59) C dX0_fits_56 rfl 5 (by decide) hinT (by decide +kernel) ?_
      refine j_iload_n (pc' := 60) C dX0_fits_59 rfl rfl ?_
      refine jTlN (pc' := 61) C dX0_fits_60 rfl 5 (by decide) i rfl (by unfold lenT; simp; omega) ?_
      refine j_icmp_ge (tgt := 68) (pc' := 64) C dX0_fits_61 (by decide) rfl (fun h61 => ?_) (fun h61 => ?_)
      · skip
        refine j_iconst (pc' := 69) C dX0_fits_68 rfl 0 (by decide) ?_
        refine j_istore (pc' := 71) C dX0_fits_69 rfl (by decide) rfl ?_
        refine j_iload (pc' := 73) C dX0_fits_71 rfl rfl ?_
        refine j_if_eq (tgt := 80) (pc' := 76) C dX0_fits_73 (by decide) rfl (fun h73 => ?_) (fun h73 => ?_)
        · skip
          refine j_iload_n (pc' := 81) C dX0_fits_80 rfl rfl ?_
          refine j_istore (pc' := 83) C dX0_fits_81 rfl (by decide) rfl ?_
          refine j_iload (pc' := 85) C dX0_fits_83 rfl rfl ?_
          refine j_if_eq (tgt := 92) (pc' := 88) C dX0_fits_85 (by decide) rfl (fun h85 => ?_) (fun h85 => ?_)
          · skip
            refine j_iload_n (pc' := 93) C dX0_fits_92 rfl rfl ?_
            refine j_istore (pc' := 95) C dX0_fits_93 rfl (by decide) rfl ?_
            refine j_iload (pc' := 97) C dX0_fits_95 rfl rfl ?_
            refine j_if_eq (tgt := 116) (pc' := 100) C dX0_fits_97 (by decide) rfl (fun h97 => ?_) (fun h97 => ?_)
            · skip
              refine j_aload_n (pc' := 117) C dX0_fits_116 rfl rfl ?_
              refine jTa (pc' := 120) C dX0_fits_117 rfl 10 (by decide) hinT (by decide +kernel) ?_
              refine j_iload_n (pc' := 121) C dX0_fits_120 rfl rfl ?_
              refine jTl (pc' := 122) C dX0_fits_121 rfl 10 (by decide) (by exact hb) ?_
              refine j_aload_n (pc' := 123) C dX0_fits_122 rfl rfl ?_
              refine jTa (pc' := 126) C dX0_fits_123 rfl 6 (by decide) hinT (by decide +kernel) ?_
              refine j_iload_n (pc' := 127) C dX0_fits_126 rfl rfl ?_
              refine jTlN (pc' := 128) C dX0_fits_127 rfl 6 (by decide) i rfl (by unfold lenT; simp; omega) ?_
              refine j_isub (pc' := 129) C dX0_fits_128 rfl ?_
              refine j_istore (pc' := 131) C dX0_fits_129 rfl (by decide) rfl ?_
              exact h131 _ _ _ _ _ _ _ ea eb (by omega) (by omega) hF
            · skip
              exact absurd rfl h97 -- done
          · skip
            exact absurd rfl h85 -- done
        · skip
          exact absurd rfl h73 -- done
      · skip
        exact absurd (i32_nle h61) h37 -- done
      -- done
    · skip
      refine j_iconst (pc' := 52) C dX0_fits_51 rfl 1 (by decide) ?_
      refine j_zreturn _ C dX0_fits_52 ?_ ?_
      · exact Or.inr rfl
      · exact ⟨by rw [fitsF, if_neg h37, if_neg h48], by rw [fitsF, if_neg h37, if_neg h48]⟩
end
section
/-! settle -/
theorem j_ws {p : Program} {l : Launch} {e : Env} {R : Room} {s : State} {m : MethodId} {args : Array Value} {below : List Frame} {meth : Method} {c : Code} {cells slots : Nat} {Q : State → Prop} {n : Nat} {D : va_G} {A : Nat → Prop} {pc : Nat} {L : List (Option Value)} {S : List Value} {ws ws' : va_W} (h : ws = ws') (k : J p l e R s m args below meth c cells slots Q n D A pc L S ws') : J p l e R s m args below meth c cells slots Q n D A pc L S ws := h ▸ k
def setS (t : TS) (i : Nat) : TS := ((fitsF t i).2.1, ua (fitsF t i).2.2 7 (upd ((fitsF t i).2.2 7) i (if (fitsF t i).1 = 0 then 1 else 0)))
def setL (ol : Int32) : Nat → TS → TS
  | 0, t => t
  | i + 1, t => if nI i < ol then t else setL ol i (setS t i)
def set0 (t : TS) : TS := (t.1, ua (ua t.2 7 (fillF 2 40 (t.2 7))) 10 (upd (fillF 0 65 (t.2 10)) 64 (t.1 0)))
def oldF (t : TS) : Int32 := if t.1 1 - t.1 2 < 0 then 0 else t.1 1 - t.1 2
def settleF (t : TS) : TS := if t.1 12 = 0 then (upd (setL (oldF t) (t.1 1).toNatClampNeg (set0 t)).1 12 1, (setL (oldF t) (t.1 1).toNatClampNeg (set0 t)).2) else t
theorem fitsT_1 (t : TS) (mv fx : Nat) (goal : Int32) : (fitsT t mv fx goal).2.1 = t.1 := by
  unfold fitsT; split <;> rfl
theorem fitsT_k (t : TS) (mv fx : Nat) (goal : Int32) {k : Nat} (h : k ≠ 10) (h2 : k ≠ 11) : (fitsT t mv fx goal).2.2 k = t.2 k := by
  unfold fitsT; split
  · show ua t.2 11 _ k = _; rw [ua_n _ _ h2]
  · show ua (ua t.2 11 _) 10 _ k = _; rw [ua_n _ _ h, ua_n _ _ h2]
theorem fitsF_1 (t : TS) (i : Nat) : (fitsF t i).2.1 = t.1 := by
  unfold fitsF; split
  · exact fitsT_1 _ _ _ _
  · split
    · exact fitsT_1 _ _ _ _
    · rfl
theorem fitsF_k (t : TS) (i : Nat) {k : Nat} (h : k ≠ 10) (h2 : k ≠ 11) : (fitsF t i).2.2 k = t.2 k := by
  unfold fitsF; split
  · exact fitsT_k _ _ _ _ h h2
  · split
    · exact fitsT_k _ _ _ _ h h2
    · rfl
theorem fitsF_01 (t : TS) (i : Nat) : (fitsF t i).1 = 0 ∨ (fitsF t i).1 = 1 := by
  have h : ∀ mv fx goal, (fitsT t mv fx goal).1 = 0 ∨ (fitsT t mv fx goal).1 = 1 := by
    intro mv fx goal; unfold fitsT; split
    · exact Or.inl rfl
    · exact Or.inr rfl
  unfold fitsF; split
  · exact h _ _ _
  · split
    · exact h _ _ _
    · exact Or.inr rfl
def sameA (tt t : TS) : Prop := tt.1 = t.1 ∧ ∀ k, k ≠ 7 → k ≠ 10 → k ≠ 11 → tt.2 k = t.2 k
theorem sameA.ok {tt t : TS} (h : sameA tt t) (ho : okT t) : okT tt := by
  unfold okT at ho ⊢
  rw [h.1, h.2 3 (by decide) (by decide) (by decide), h.2 4 (by decide) (by decide) (by decide)]
  exact ho
theorem sameA.rf (t : TS) : sameA t t := ⟨rfl, fun _ _ _ _ => rfl⟩
theorem setS_same {tt t : TS} (i : Nat) (h : sameA tt t) : sameA (setS tt i) t := ⟨(fitsF_1 tt i).trans h.1, fun k h1 h2 h3 => by
  show ua (fitsF tt i).2.2 7 _ k = _
  rw [ua_n _ _ h1, fitsF_k _ _ h2 h3]
  exact h.2 k h1 h2 h3⟩
theorem set0_same (t : TS) : sameA (set0 t) t := ⟨rfl, fun k h1 h2 h3 => by
  show ua (ua t.2 7 _) 10 _ k = _
  rw [ua_n _ _ h2, ua_n _ _ h1]⟩
theorem setL_same (ol : Int32) : ∀ (i : Nat) (tt t : TS), sameA tt t → sameA (setL ol i tt) t
  | 0, _, _, h => h
  | i + 1, tt, t, h => by
    unfold setL; split
    · exact h
    · exact setL_same ol i _ _ (setS_same i h)
set_option maxRecDepth 100000 in
set_option maxHeartbeats 4000000 in
theorem c_settle (l : Launch) (D : va_G) (cI cO : ClassId) (B : Nat → Nat) (t : TS) (hok : okT t) : Kt l yX0_settle wsX0_settle 3 (wT cI B) D cI cO (fun _ => True) [.ref (B 0)] t (fun r u => r = none ∧ u = settleF t) := by
  refine Kt_of (cc := cX0_settle) (n := 3) (ret := none) rfl (by decide +kernel) (Nat.le_of_ble_eq_true rfl) rfl [some (.ref (B 0)), none, none] rfl ?_
  intro p e s m args below meth c A C _ _
  have hinT : ∀ w ∈ wsX00, w ∈ wsX0_settle := by decide +kernel
  obtain ⟨en, hn41⟩ := vp_in_c hok.1 (by decide)
  have hol : ¬ oldF t < 0 := by
    unfold oldF
    split
    · decide
    · assumption
  refine j_aload_n (pc' := 1) C dX0_settle_0 rfl rfl ?_
  refine jTi (pc' := 4) C dX0_settle_1 rfl 12 (by unfold isIT; decide) hinT (by decide +kernel) ?_
  refine j_if_eq (tgt := 8) (pc' := 7) C dX0_settle_4 (by decide) rfl (fun h4 => ?_) (fun h4 => ?_)
  · skip
    refine j_aload_n (pc' := 9) C dX0_settle_8 rfl rfl ?_
    refine jTa (pc' := 12) C dX0_settle_9 rfl 7 (by decide) hinT (by decide +kernel) ?_
    refine j_iconst (pc' := 13) C dX0_settle_12 rfl 2 (by decide) ?_
    refine jT_callA (pc' := 16) C 7 (by decide) (c_fill l D cI cO (B 7) (lenT 7) (by decide) (t.2 7) 2) 2 gX0_settle_J7_fill_53178 rfl (by decide +kernel) (by decide) rfl rfl (by decide) dX0_settle_13 rfl (fun v1 g1 hp1 => ?_)
    obtain ⟨rfl, rfl⟩ := hp1
    show J p l e _ s m args below meth c 0 0 _ _ D A _ _ [] _
    refine j_aload_n (pc' := 17) C dX0_settle_16 rfl rfl ?_
    refine jTa (pc' := 20) C dX0_settle_17 rfl 10 (by decide) hinT (by decide +kernel) ?_
    refine j_iconst (pc' := 21) C dX0_settle_20 rfl 0 (by decide) ?_
    refine jT_callA (pc' := 24) C 10 (by decide) (c_fill l D cI cO (B 10) (lenT 10) (by decide) (t.2 10) 0) 2 gX0_settle_J7_fill_53178 rfl (by decide +kernel) (by decide) rfl rfl (by decide) dX0_settle_21 rfl (fun v1 g1 hp1 => ?_)
    obtain ⟨rfl, rfl⟩ := hp1
    show J p l e _ s m args below meth c 0 0 _ _ D A _ _ [] _
    refine j_aload_n (pc' := 25) C dX0_settle_24 rfl rfl ?_
    refine jTa (pc' := 28) C dX0_settle_25 rfl 10 (by decide) hinT (by decide +kernel) ?_
    refine j_bipush (pc' := 30) C dX0_settle_28 rfl 64 (by decide) ?_
    refine j_aload_n (pc' := 31) C dX0_settle_30 rfl rfl ?_
    refine jTi (pc' := 34) C dX0_settle_31 rfl 0 (by unfold isIT; decide) hinT (by decide +kernel) ?_
    refine jTsN (pc' := 35) C dX0_settle_34 rfl 10 (by decide) 64 rfl (by decide) ?_
    refine j_ws (ws' := wT cI B (set0 t)) (by unfold set0; show wT cI B (t.1, ua (ua (ua t.2 7 _) 10 _) 10 _) = _; rw [ua_ua]; rfl) ?_
    have hset : settleF t = (upd (setL (oldF t) (t.1 1).toNatClampNeg (set0 t)).1 12 1, (setL (oldF t) (t.1 1).toNatClampNeg (set0 t)).2) := by rw [settleF, if_pos h4]
    have hout : ∀ (tt : TS) (x : Option Value), tt = setL (oldF t) (t.1 1).toNatClampNeg (set0 t) → J p l e (rmH 3) s m args below meth c 0 0 (RQ below args s D (wT cI B) (fun r u => r = none ∧ u = settleF t) A) 3 D A 86 [some (.ref (B 0)), some (.int (oldF t)), x] [] (wT cI B tt) := by
      intro tt x ett
      refine j_aload_n (pc' := 87) C dX0_settle_86 rfl rfl ?_
      refine j_iconst (pc' := 88) C dX0_settle_87 rfl 1 (by decide) ?_
      refine jTpZ (pc' := 91) C dX0_settle_88 rfl 12 (by decide) hinT (by decide +kernel) (by decide) ?_
      refine j_return _ C dX0_settle_91 ?_
      exact ⟨rfl, by rw [hset, ← ett]⟩
    have loop : ∀ (i : Nat) (tt : TS), i ≤ (t.1 1).toNatClampNeg → sameA tt t → setL (oldF t) i tt = setL (oldF t) (t.1 1).toNatClampNeg (set0 t) → J p l e (rmH 3) s m args below meth c 0 0 (RQ below args s D (wT cI B) (fun r u => r = none ∧ u = settleF t) A) 3 D A 56 [some (.ref (B 0)), some (.int (oldF t)), some (.int (nI i + (-1)))] [] (wT cI B tt) := by
      intro i
      induction i with
      | zero =>
        intro tt hi hs hr
        refine j_iload_n (pc' := 57) C dX0_settle_56 rfl rfl ?_
        refine j_iload_n (pc' := 58) C dX0_settle_57 rfl rfl ?_
        refine j_icmp_lt (tgt := 86) (pc' := 61) C dX0_settle_58 (by decide) rfl (fun h58 => ?_) (fun h58 => ?_)
        · skip
          exact hout tt _ hr
        · skip
          exact absurd (by
            have h2 : (nI 0 + (-1) : Int32).toInt = -1 := by decide
            have h3 : ¬ (oldF t).toInt < 0 := by
              intro h4
              exact hol (Int32.lt_iff_toInt_lt.mpr (by rw [show (0 : Int32).toInt = 0 from rfl]; exact h4))
            exact Int32.lt_iff_toInt_lt.mpr (by rw [h2]; omega)) h58 -- done
      | succ i ih =>
        intro tt hi hs hr
        rw [pk_m1]
        refine j_iload_n (pc' := 57) C dX0_settle_56 rfl rfl ?_
        refine j_iload_n (pc' := 58) C dX0_settle_57 rfl rfl ?_
        refine j_icmp_lt (tgt := 86) (pc' := 61) C dX0_settle_58 (by decide) rfl (fun h58 => ?_) (fun h58 => ?_)
        · skip
          exact hout tt _ (by rw [← hr, setL, if_pos h58])
        · skip
          refine j_aload_n (pc' := 62) C dX0_settle_61 rfl rfl ?_
          refine jTa (pc' := 65) C dX0_settle_62 rfl 7 (by decide) hinT (by decide +kernel) ?_
          refine j_iload_n (pc' := 66) C dX0_settle_65 rfl rfl ?_
          refine j_aload_n (pc' := 67) C dX0_settle_66 rfl rfl ?_
          refine j_iload_n (pc' := 68) C dX0_settle_67 rfl rfl ?_
          refine jc_same (pc' := 71) C (c_fits l D cI cO B tt (hs.ok hok) i (by rw [hs.1]; omega)) 1 gX0_settle_X0_fits rfl (by decide +kernel) (by decide) rfl rfl (Nat.le_of_ble_eq_true rfl) 0 0 rfl rfl (wT_obj cI B _) (fun _ => rfl) dX0_settle_68 rfl (fun v1 u1 hp1 => ?_)
          obtain ⟨rfl, rfl⟩ := hp1
          show J p l e _ s m args below meth c 0 0 _ _ D A _ _ [_, _, _] _
          refine j_if_eq (tgt := 78) (pc' := 74) C dX0_settle_71 (by decide) rfl (fun h71 => ?_) (fun h71 => ?_)
          · skip
            refine j_iconst (pc' := 79) C dX0_settle_78 rfl 1 (by decide) ?_
            have hx : J p l e (rmH 3) s m args below meth c 0 0 (RQ below args s D (wT cI B) (fun r u => r = none ∧ u = settleF t) A) 3 D A 79 [some (.ref (B 0)), some (.int (oldF t)), some (.int (nI i))] [.int (if (fitsF tt i).1 = 0 then 1 else 0), .int (nI i), .ref (B 7)] (wT cI B (fitsF tt i).2) := by
              refine jTsN (pc' := 80) C dX0_settle_79 rfl 7 (by decide) i rfl (by unfold lenT; simp; omega) ?_
              refine j_iinc (pc' := 83) C dX0_settle_80 rfl (-1) (by decide) rfl (by decide) rfl ?_
              refine j_goto (pc' := 56) C dX0_settle_83 (by decide) ?_
              exact ih (setS tt i) (by omega) (setS_same i hs) (by rw [← hr, setL, if_neg h58])
            first | (rw [if_pos h71] at hx; exact hx) | (rw [if_neg h71] at hx; exact hx)
          · skip
            refine j_iconst (pc' := 75) C dX0_settle_74 rfl 0 (by decide) ?_
            refine j_goto (pc' := 79) C dX0_settle_75 (by decide) ?_
            have hx : J p l e (rmH 3) s m args below meth c 0 0 (RQ below args s D (wT cI B) (fun r u => r = none ∧ u = settleF t) A) 3 D A 79 [some (.ref (B 0)), some (.int (oldF t)), some (.int (nI i))] [.int (if (fitsF tt i).1 = 0 then 1 else 0), .int (nI i), .ref (B 7)] (wT cI B (fitsF tt i).2) := by
              refine jTsN (pc' := 80) C dX0_settle_79 rfl 7 (by decide) i rfl (by unfold lenT; simp; omega) ?_
              refine j_iinc (pc' := 83) C dX0_settle_80 rfl (-1) (by decide) rfl (by decide) rfl ?_
              refine j_goto (pc' := 56) C dX0_settle_83 (by decide) ?_
              exact ih (setS tt i) (by omega) (setS_same i hs) (by rw [← hr, setL, if_neg h58])
            first | (rw [if_pos h71] at hx; exact hx) | (rw [if_neg h71] at hx; exact hx)
          
    refine j_aload_n (pc' := 36) C dX0_settle_35 rfl rfl ?_
    refine jTi (pc' := 39) C dX0_settle_36 rfl 1 (by unfold isIT; decide) hinT (by decide +kernel) ?_
    refine j_aload_n (pc' := 40) C dX0_settle_39 rfl rfl ?_
    refine jTi (pc' := 43) C dX0_settle_40 rfl 2 (by unfold isIT; decide) hinT (by decide +kernel) ?_
    refine j_isub (pc' := 44) C dX0_settle_43 rfl ?_
    refine j_iconst (pc' := 45) C dX0_settle_44 rfl 0 (by decide) ?_
    refine j_max (pc' := 48) C dX0_settle_45 rfl (by decide +kernel) (by decide +kernel) (by decide +kernel) (by decide +kernel) (by decide) (by decide) ?_
    refine j_istore_n (pc' := 49) C dX0_settle_48 rfl (by decide) rfl ?_
    refine j_aload_n (pc' := 50) C dX0_settle_49 rfl rfl ?_
    refine jTi (pc' := 53) C dX0_settle_50 rfl 1 (by unfold isIT; decide) hinT (by decide +kernel) ?_
    refine j_iconst (pc' := 54) C dX0_settle_53 rfl 1 (by decide) ?_
    refine j_isub (pc' := 55) C dX0_settle_54 rfl ?_
    refine j_istore_n (pc' := 56) C dX0_settle_55 rfl (by decide) rfl ?_
    have hb0 := loop (t.1 1).toNatClampNeg (set0 t) (Nat.le_refl _) (set0_same t) rfl
    rw [← en] at hb0
    rw [show (set0 t).1 1 - 1 = (t.1 1) + (-1) from Int32.sub_eq_add_neg _ _]
    exact hb0
    
    
    
  · skip
    refine j_return _ C dX0_settle_7 ?_
    exact ⟨rfl, by rw [settleF, if_neg h4]⟩
end
section
/-! leastStep and spread -/
theorem settleF_1 (t : TS) {k : Nat} (h : k ≠ 12) : (settleF t).1 k = t.1 k := by
  unfold settleF; split
  · show upd _ 12 1 k = _
    rw [pk_un h, (setL_same _ _ _ _ (set0_same t)).1]
  · rfl
theorem settleF_k (t : TS) {k : Nat} (h1 : k ≠ 7) (h2 : k ≠ 10) (h3 : k ≠ 11) : (settleF t).2 k = t.2 k := by
  unfold settleF; split
  · exact (setL_same _ _ _ _ (set0_same t)).2 k h1 h2 h3
  · rfl
theorem settleF_ok {t : TS} (h : okT t) : okT (settleF t) := by
  unfold okT at h ⊢
  rw [settleF_1 t (by decide), settleF_k t (by decide) (by decide) (by decide), settleF_k t (by decide) (by decide) (by decide)]
  exact h
def lw0 (t : TS) (st : Int32) (n : Nat) : Nat → Int32 := fun j => if j < n then (if st ≤ nI j then 0 else -(t.1 0)) else t.2 11 j
theorem lw0_s (t : TS) (st : Int32) (i : Nat) : upd (lw0 t st i) i (if st ≤ nI i then 0 else -(t.1 0)) = lw0 t st (i + 1) := by
  funext j
  unfold upd lw0
  by_cases h : j = i
  · subst h; simp
  · by_cases h2 : j < i
    · rw [if_neg h, if_pos h2, if_pos (show j < i + 1 by omega)]
    · rw [if_neg h, if_neg h2, if_neg (show ¬ j < i + 1 by omega)]
theorem lw0_0 (t : TS) (st : Int32) : lw0 t st 0 = t.2 11 := by
  funext j; simp [lw0]
def leastW (t : TS) (st : Nat) : Nat → Int32 := climbF (settleF t) st 0 66 (lw0 (settleF t) (nI st) 65) 1
def leastF (t : TS) (st en : Nat) : Int32 × TS := (leastW t st en, ((settleF t).1, ua (settleF t).2 11 (leastW t st)))
def goalF (t : TS) (v : Nat) (r : (Nat → Int32) × (Nat → Int32)) : Int32 :=
  if r.2 (v + 1) < (if r.1 v + (t.1 0 - r.1 v) / nI (64 - v) < r.1 (v + 1) then r.1 (v + 1) else r.1 v + (t.1 0 - r.1 v) / nI (64 - v)) then r.2 (v + 1) else (if r.1 v + (t.1 0 - r.1 v) / nI (64 - v) < r.1 (v + 1) then r.1 (v + 1) else r.1 v + (t.1 0 - r.1 v) / nI (64 - v))
def sprG (t : TS) (v : Nat) (g : Nat → Int32) (goal : Int32) : Nat → Int32 := if (raiseAt g (v + 1) goal).2 = 0 then (raiseAt g (v + 1) goal).1 else climbF t (v + 1) goal 66 (raiseAt g (v + 1) goal).1 1
def sprH (t : TS) (v : Nat) (g : Nat → Int32) (goal : Int32) : Nat → Int32 := if (lowerAt g (v + 1) goal).2 = 0 then (lowerAt g (v + 1) goal).1 else sinkF t 66 (lowerAt g (v + 1) goal).1 1
def sprS (t : TS) (v : Nat) (r : (Nat → Int32) × (Nat → Int32)) : (Nat → Int32) × (Nat → Int32) := (sprG t v r.1 (goalF t v r), sprH t v r.2 (goalF t v r))
def sprL (t : TS) : Nat → (Nat → Int32) × (Nat → Int32) → (Nat → Int32) × (Nat → Int32)
  | 0, r => r
  | k + 1, r => sprL t k (sprS t (63 - k) r)
def spr0 (t : TS) : (Nat → Int32) × (Nat → Int32) := (cpyF (t.2 10) (t.2 9), sinkF t 66 (upd (fillF (t.1 0) 65 (t.2 11)) 0 0) 1)
def spreadF (t : TS) : TS := if t.1 13 = 0 then (upd (settleF t).1 13 1, ua (ua (settleF t).2 9 (sprL (settleF t) 64 (spr0 (settleF t))).1) 11 (sprL (settleF t) 64 (spr0 (settleF t))).2) else t
theorem ua_3 (f : Nat → Nat → Int32) (a b c : Nat → Int32) : ua (ua (ua f 9 a) 11 b) 9 c = ua (ua f 9 c) 11 b := by
  funext j; unfold ua; by_cases h : j = 9
  · subst h; rfl
  · by_cases h2 : j = 11
    · subst h2; rfl
    · rw [if_neg h, if_neg h2, if_neg h, if_neg h2, if_neg h]
set_option maxRecDepth 100000 in
set_option maxHeartbeats 4000000 in
theorem c_leastStep (l : Launch) (D : va_G) (cI cO : ClassId) (B : Nat → Nat) (t : TS) (hok : okT t) (st en : Nat) (hst : st ≤ 64) (hen : en ≤ 64) : Kt l yX0_leastStep wsX0_leastStep 4 (wT cI B) D cI cO (fun _ => True) [.ref (B 0), .int (nI st), .int (nI en)] t (fun r u => r = some (.int (leastF t st en).1) ∧ u = (leastF t st en).2) := by
  refine Kt_of (cc := cX0_leastStep) (n := 4) (ret := some .int) rfl (by decide +kernel) (Nat.le_of_ble_eq_true rfl) rfl [some (.ref (B 0)), some (.int (nI st)), some (.int (nI en)), none] rfl ?_
  intro p e s m args below meth c A C _ _
  have hinT : ∀ w ∈ wsX00, w ∈ wsX0_leastStep := by decide +kernel
  have hok1 := settleF_ok hok
  have h38 : ∀ x : Option Value, J p l e (rmH 4) s m args below meth c 0 0 (RQ below args s D (wT cI B) (fun r u => r = some (.int (leastF t st en).1) ∧ u = (leastF t st en).2) A) 4 D A 38 [some (.ref (B 0)), some (.int (nI st)), some (.int (nI en)), x] [] (wTW cI B (settleF t) 11 (lw0 (settleF t) (nI st) 65)) := by
    intro x
    refine j_ws (ws' := wT cI B ((settleF t).1, ua (settleF t).2 11 (lw0 (settleF t) (nI st) 65))) rfl ?_
    refine j_aload_n (pc' := 39) C dX0_leastStep_38 rfl rfl ?_
    refine j_aload_n (pc' := 40) C dX0_leastStep_39 rfl rfl ?_
    refine jTa (pc' := 43) C dX0_leastStep_40 rfl 11 (by decide) hinT (by decide +kernel) ?_
    refine j_iload_n (pc' := 44) C dX0_leastStep_43 rfl rfl ?_
    refine j_iconst (pc' := 45) C dX0_leastStep_44 rfl 0 (by decide) ?_
    refine jc_same (pc' := 48) C (c_climbG l D cI cO B _ (settleF t) (sameK_ua (sameK.rf _) (by decide) _) hok1 11 (by decide) (nI st) st rfl hst 0) 3 gX0_leastStep_X0_climb rfl (by decide +kernel) (by decide) rfl rfl (by decide) 0 0 rfl rfl (wT_obj cI B _) (fun _ => rfl) dX0_leastStep_45 rfl (fun v1 u1 hp1 => ?_)
    obtain ⟨e1, e2⟩ := hp1
    have e1 : u1 = ((settleF t).1, ua (settleF t).2 11 (leastW t st)) := by rw [e1]; show ((settleF t).1, ua (ua (settleF t).2 11 _) 11 _) = _; rw [ua_ua]; rfl
    subst e1
    subst e2
    show J p l e _ s m args below meth c 0 0 _ _ D A _ _ [_] _
    refine j_pop (pc' := 49) C dX0_leastStep_48 rfl rfl ?_
    refine j_aload_n (pc' := 50) C dX0_leastStep_49 rfl rfl ?_
    refine jTa (pc' := 53) C dX0_leastStep_50 rfl 11 (by decide) hinT (by decide +kernel) ?_
    refine j_iload_n (pc' := 54) C dX0_leastStep_53 rfl rfl ?_
    refine jTlN (pc' := 55) C dX0_leastStep_54 rfl 11 (by decide) en rfl (by unfold lenT; simp; omega) ?_
    refine j_ireturn _ C dX0_leastStep_55 ?_
    exact ⟨rfl, rfl⟩
    
  have loop : ∀ (k i : Nat), i + k = 65 → J p l e (rmH 4) s m args below meth c 0 0 (RQ below args s D (wT cI B) (fun r u => r = some (.int (leastF t st en).1) ∧ u = (leastF t st en).2) A) 4 D A 6 [some (.ref (B 0)), some (.int (nI st)), some (.int (nI en)), some (.int (nI i))] [] (wTW cI B (settleF t) 11 (lw0 (settleF t) (nI st) i)) := by
    intro k
    induction k with
    | zero =>
      intro i hi
      have hi2 : i = 65 := by omega
      subst hi2
      refine j_iload_n (pc' := 7) C dX0_leastStep_6 rfl rfl ?_
      refine j_bipush (pc' := 9) C dX0_leastStep_7 rfl 64 (by decide) ?_
      refine j_icmp_gt (tgt := 38) (pc' := 12) C dX0_leastStep_9 (by decide) rfl (fun h9 => ?_) (fun h9 => ?_)
      · skip
        exact h38 _
      · skip
        exact absurd (by decide) h9 -- done
    | succ k ih =>
      intro i hi
      have h31 : ∀ (x : Int32), x = (if nI st ≤ nI i then 0 else -((settleF t).1 0)) → J p l e (rmH 4) s m args below meth c 0 0 (RQ below args s D (wT cI B) (fun r u => r = some (.int (leastF t st en).1) ∧ u = (leastF t st en).2) A) 4 D A 31 [some (.ref (B 0)), some (.int (nI st)), some (.int (nI en)), some (.int (nI i))] [.int x, .int (nI i), .ref (B 11)] (wTW cI B (settleF t) 11 (lw0 (settleF t) (nI st) i)) := by
        intro x ex
        refine jWsN (pc' := 32) C dX0_leastStep_31 rfl (by decide) i rfl (by unfold lenT; simp; omega) ?_
        refine j_iinc (pc' := 35) C dX0_leastStep_32 rfl 1 (by decide) rfl (by decide) rfl ?_
        refine j_goto (pc' := 6) C dX0_leastStep_35 (by decide) ?_
        rw [ex, lw0_s, nI_1]
        exact ih (i + 1) (by omega)
      refine j_iload_n (pc' := 7) C dX0_leastStep_6 rfl rfl ?_
      refine j_bipush (pc' := 9) C dX0_leastStep_7 rfl 64 (by decide) ?_
      refine j_icmp_gt (tgt := 38) (pc' := 12) C dX0_leastStep_9 (by decide) rfl (fun h9 => ?_) (fun h9 => ?_)
      · skip
        exact absurd h9 (nI_nlt (a := 64) (by omega) (by decide)) -- done
      · skip
        refine j_aload_n (pc' := 13) C dX0_leastStep_12 rfl rfl ?_
        refine jWa (pc' := 16) C dX0_leastStep_13 rfl 11 (by decide) hinT (by decide +kernel) ?_
        refine j_iload_n (pc' := 17) C dX0_leastStep_16 rfl rfl ?_
        refine j_iload_n (pc' := 18) C dX0_leastStep_17 rfl rfl ?_
        refine j_iload_n (pc' := 19) C dX0_leastStep_18 rfl rfl ?_
        refine j_icmp_ge (tgt := 30) (pc' := 22) C dX0_leastStep_19 (by decide) rfl (fun h19 => ?_) (fun h19 => ?_)
        · skip
          refine j_iconst (pc' := 31) C dX0_leastStep_30 rfl 0 (by decide) ?_
          first | exact h31 _ (by rw [if_pos h19]) | exact h31 _ (by rw [if_neg h19])
        · skip
          refine j_aload_n (pc' := 23) C dX0_leastStep_22 rfl rfl ?_
          refine jWi (pc' := 26) C dX0_leastStep_23 rfl 0 (by unfold isIT; decide) hinT (by decide +kernel) ?_
          refine j_ineg (pc' := 27) C dX0_leastStep_26 rfl ?_
          refine j_goto (pc' := 31) C dX0_leastStep_27 (by decide) ?_
          first | exact h31 _ (by rw [if_pos h19]) | exact h31 _ (by rw [if_neg h19])
  refine j_aload_n (pc' := 1) C dX0_leastStep_0 rfl rfl ?_
  refine jc_same (pc' := 4) C (c_settle l D cI cO B (t) hok) 0 gX0_leastStep_X0_settle rfl (by decide +kernel) (by decide) rfl rfl (by decide) 0 0 rfl rfl (wT_obj cI B _) (fun _ => rfl) dX0_leastStep_1 rfl (fun v1 u1 hp1 => ?_)
  obtain ⟨rfl, rfl⟩ := hp1
  show J p l e _ s m args below meth c 0 0 _ _ D A _ _ [] _
  refine j_iconst (pc' := 5) C dX0_leastStep_4 rfl 0 (by decide) ?_
  refine j_istore_n (pc' := 6) C dX0_leastStep_5 rfl (by decide) rfl ?_
  have hb0 := loop 65 0 (by omega)
  unfold wTW at hb0
  rw [lw0_0, ua_self] at hb0
  exact hb0
  
set_option maxRecDepth 100000 in
set_option maxHeartbeats 4000000 in
theorem c_spread (l : Launch) (D : va_G) (cI cO : ClassId) (B : Nat → Nat) (t : TS) (hok : okT t) : Kt l yX0_spread wsX0_spread 4 (wT cI B) D cI cO (fun _ => True) [.ref (B 0)] t (fun r u => r = none ∧ u = spreadF t) := by
  refine Kt_of (cc := cX0_spread) (n := 7) (ret := none) rfl (by decide +kernel) (Nat.le_of_ble_eq_true rfl) rfl [some (.ref (B 0)), none, none, none, none, none, none] rfl ?_
  intro p e s m args below meth c A C _ _
  have hinT : ∀ w ∈ wsX00, w ∈ wsX0_spread := by decide +kernel
  have hok1 := settleF_ok hok
  have hsK : ∀ g h : Nat → Int32, sameK ((settleF t).1, ua (ua (settleF t).2 9 g) 11 h) (settleF t) := fun g h => sameK_ua (sameK_ua (sameK.rf _) (by decide) g) (by decide) h
  have loop : t.1 13 = 0 → ∀ (k : Nat) (g h : Nat → Int32) (x3 x4 x5 x6 : Option Value), k ≤ 64 → sprL (settleF t) k (g, h) = sprL (settleF t) 64 (spr0 (settleF t)) → J p l e (rmH 4) s m args below meth c 0 0 (RQ below args s D (wT cI B) (fun r u => r = none ∧ u = spreadF t) A) 7 D A 52 [some (.ref (B 0)), some (.ref (B 11)), some (.int (nI k)), x3, x4, x5, x6] [] (wT cI B ((settleF t).1, ua (ua (settleF t).2 9 g) 11 h)) := by
    intro h13 k
    induction k with
    | zero =>
      intro g h x3 x4 x5 x6 hk hr
      refine j_iload_n (pc' := 53) C dX0_spread_52 rfl rfl ?_
      refine j_if_le (tgt := 156) (pc' := 56) C dX0_spread_53 (by decide) rfl (fun h53 => ?_) (fun h53 => ?_)
      · skip
        refine j_aload_n (pc' := 157) C dX0_spread_156 rfl rfl ?_
        refine j_iconst (pc' := 158) C dX0_spread_157 rfl 1 (by decide) ?_
        refine jTpZ (pc' := 161) C dX0_spread_158 rfl 13 (by decide) hinT (by decide +kernel) (by decide) ?_
        refine j_return _ C dX0_spread_161 ?_
        refine ⟨rfl, ?_⟩
        have hg : g = (sprL (settleF t) 64 (spr0 (settleF t))).1 := by rw [← hr]; rfl
        have hh : h = (sprL (settleF t) 64 (spr0 (settleF t))).2 := by rw [← hr]; rfl
        rw [spreadF, if_pos h13, hg, hh]
      · skip
        exact absurd (by decide) h53 -- done
    | succ k ih =>
      intro g h x3 x4 x5 x6 hk hr
      have hv : (64 : Int32) - nI (k + 1) = nI (63 - k) := by
        have := pk_sub (a := 64) (b := k + 1) (by omega)
        rw [show 63 - k = 64 - (k + 1) by omega]
        exact this
      have hnx : (64 : Int32) - nI (k + 1) + 1 = nI (63 - k + 1) := by rw [hv, nI_1]
      have hdv : nI (k + 1) = nI (64 - (63 - k)) := by rw [show 64 - (63 - k) = k + 1 by omega]
      have h150 : ∀ (g1 h1 : Nat → Int32) (x3 x4 x5 x6 : Option Value), (g1, h1) = sprS (settleF t) (63 - k) (g, h) → J p l e (rmH 4) s m args below meth c 0 0 (RQ below args s D (wT cI B) (fun r u => r = none ∧ u = spreadF t) A) 7 D A 150 [some (.ref (B 0)), some (.ref (B 11)), some (.int (nI (k + 1))), x3, x4, x5, x6] [] (wT cI B ((settleF t).1, ua (ua (settleF t).2 9 g1) 11 h1)) := by
        intro g1 h1 x3 x4 x5 x6 e1
        refine j_iinc (pc' := 153) C dX0_spread_150 rfl (-1) (by decide) rfl (by decide) rfl ?_
        refine j_goto (pc' := 52) C dX0_spread_153 (by decide) ?_
        rw [pk_m1]
        exact ih g1 h1 _ _ _ _ (by omega) (by rw [e1]; exact hr)
      have h134 : ∀ (g1 : Nat → Int32) (goal nx : Int32) (x3 x5 : Option Value), goal = goalF (settleF t) (63 - k) (g, h) → nx = nI (63 - k + 1) → g1 = sprG (settleF t) (63 - k) g goal → J p l e (rmH 4) s m args below meth c 0 0 (RQ below args s D (wT cI B) (fun r u => r = none ∧ u = spreadF t) A) 7 D A 134 [some (.ref (B 0)), some (.ref (B 11)), some (.int (nI (k + 1))), x3, some (.int nx), x5, some (.int goal)] [] (wT cI B ((settleF t).1, ua (ua (settleF t).2 9 g1) 11 h)) := by
        intro g1 goal nx x3 x5 eg enx e1
        refine j_aload_n (pc' := 135) C dX0_spread_134 rfl rfl ?_
        refine j_iload (pc' := 137) C dX0_spread_135 rfl rfl ?_
        refine j_iload (pc' := 139) C dX0_spread_137 rfl rfl ?_
        refine jT_callA (pc' := 142) C 11 (by decide) (c_lowerN l D cI cO (B 11) (lenT 11) rfl h nx (63 - k + 1) enx (by omega) goal) 3 gX0_spread_X0_lower rfl (by decide +kernel) (by decide) rfl rfl (by decide) dX0_spread_139 rfl (fun v1 q1 hp1 => ?_)
        obtain ⟨rfl, rfl, h01⟩ := hp1
        show J p l e _ s m args below meth c 0 0 _ _ D A _ _ [_] _
        refine j_ws (ws' := wT cI B ((settleF t).1, ua (ua (settleF t).2 9 g1) 11 (lowerAt h (63 - k + 1) goal).1)) (by show wT cI B ((settleF t).1, ua (ua (ua (settleF t).2 9 g1) 11 h) 11 _) = _; rw [ua_ua]) ?_
        refine j_if_eq (tgt := 150) (pc' := 145) C dX0_spread_142 (by decide) rfl (fun h142 => ?_) (fun h142 => ?_)
        · skip
          exact h150 _ _ _ _ _ _ (by rw [sprS, ← eg, e1, sprH, if_pos h142])
        · skip
          refine j_aload_n (pc' := 146) C dX0_spread_145 rfl rfl ?_
          refine j_aload_n (pc' := 147) C dX0_spread_146 rfl rfl ?_
          refine jc_same (pc' := 150) C (c_sinkG l D cI cO B _ (settleF t) (hsK _ _) hok1 11 (by decide)) 1 gX0_spread_X0_sink rfl (by decide +kernel) (by decide) rfl rfl (by decide) 0 0 rfl rfl (wT_obj cI B _) (fun _ => rfl) dX0_spread_147 rfl (fun v1 u1 hp1 => ?_)
          obtain ⟨rfl, rfl⟩ := hp1
          show J p l e _ s m args below meth c 0 0 _ _ D A _ _ [] _
          refine j_ws (ws' := wT cI B ((settleF t).1, ua (ua (settleF t).2 9 g1) 11 (sinkF (settleF t) 66 (lowerAt h (63 - k + 1) goal).1 1))) (by show wT cI B ((settleF t).1, ua (ua (ua (settleF t).2 9 g1) 11 _) 11 _) = _; rw [ua_ua]; rfl) ?_
          exact h150 _ _ _ _ _ _ (by rw [sprS, ← eg, e1, sprH, if_neg h142])
        
      have h107 : ∀ (goal nx : Int32) (x3 x5 : Option Value), goal = goalF (settleF t) (63 - k) (g, h) → nx = nI (63 - k + 1) → J p l e (rmH 4) s m args below meth c 0 0 (RQ below args s D (wT cI B) (fun r u => r = none ∧ u = spreadF t) A) 7 D A 107 [some (.ref (B 0)), some (.ref (B 11)), some (.int (nI (k + 1))), x3, some (.int nx), x5, some (.int goal)] [] (wT cI B ((settleF t).1, ua (ua (settleF t).2 9 g) 11 h)) := by
        intro goal nx x3 x5 eg enx
        refine j_aload_n (pc' := 108) C dX0_spread_107 rfl rfl ?_
        refine jTa (pc' := 111) C dX0_spread_108 rfl 9 (by decide) hinT (by decide +kernel) ?_
        refine j_iload (pc' := 113) C dX0_spread_111 rfl rfl ?_
        refine j_iload (pc' := 115) C dX0_spread_113 rfl rfl ?_
        refine jT_callA (pc' := 118) C 9 (by decide) (c_raiseN l D cI cO (B 9) (lenT 9) rfl g nx (63 - k + 1) enx (by omega) goal) 3 gX0_spread_X0_raise rfl (by decide +kernel) (by decide) rfl rfl (by decide) dX0_spread_115 rfl (fun v1 q1 hp1 => ?_)
        obtain ⟨rfl, rfl, h01⟩ := hp1
        show J p l e _ s m args below meth c 0 0 _ _ D A _ _ [_] _
        refine j_ws (ws' := wT cI B ((settleF t).1, ua (ua (settleF t).2 9 (raiseAt g (63 - k + 1) goal).1) 11 h)) (by show wT cI B ((settleF t).1, ua (ua (ua (settleF t).2 9 g) 11 h) 9 _) = _; rw [ua_3]) ?_
        refine j_if_eq (tgt := 134) (pc' := 121) C dX0_spread_118 (by decide) rfl (fun h118 => ?_) (fun h118 => ?_)
        · skip
          exact h134 _ goal nx _ _ eg enx (by rw [sprG, if_pos h118])
        · skip
          refine j_aload_n (pc' := 122) C dX0_spread_121 rfl rfl ?_
          refine j_aload_n (pc' := 123) C dX0_spread_122 rfl rfl ?_
          refine jTa (pc' := 126) C dX0_spread_123 rfl 9 (by decide) hinT (by decide +kernel) ?_
          refine j_iload (pc' := 128) C dX0_spread_126 rfl rfl ?_
          refine j_iload (pc' := 130) C dX0_spread_128 rfl rfl ?_
          refine jc_same (pc' := 133) C (c_climbG l D cI cO B _ (settleF t) (hsK _ _) hok1 9 (by decide) nx (63 - k + 1) enx (by omega) goal) 3 gX0_spread_X0_climb rfl (by decide +kernel) (by decide) rfl rfl (by decide) 0 0 rfl rfl (wT_obj cI B _) (fun _ => rfl) dX0_spread_130 rfl (fun v1 u1 hp1 => ?_)
          obtain ⟨rfl, rfl⟩ := hp1
          show J p l e _ s m args below meth c 0 0 _ _ D A _ _ [_] _
          refine j_ws (ws' := wT cI B ((settleF t).1, ua (ua (settleF t).2 9 (climbF (settleF t) (63 - k + 1) goal 66 (raiseAt g (63 - k + 1) goal).1 1)) 11 h)) (by show wT cI B ((settleF t).1, ua (ua (ua (settleF t).2 9 _) 11 h) 9 _) = _; rw [ua_3]; rfl) ?_
          refine j_pop (pc' := 134) C dX0_spread_133 rfl rfl ?_
          exact h134 _ goal nx _ _ eg enx (by rw [sprG, if_neg h118])
          
        
      refine j_iload_n (pc' := 53) C dX0_spread_52 rfl rfl ?_
      refine j_if_le (tgt := 156) (pc' := 56) C dX0_spread_53 (by decide) rfl (fun h53 => ?_) (fun h53 => ?_)
      · skip
        exact absurd h53 (nI_nle (by omega) (by omega)) -- done
      · skip
        refine j_aload_n (pc' := 57) C dX0_spread_56 rfl rfl ?_
        refine jTa (pc' := 60) C dX0_spread_57 rfl 9 (by decide) hinT (by decide +kernel) ?_
        refine j_bipush (pc' := 62) C dX0_spread_60 rfl 64 (by decide) ?_
        refine j_iload_n (pc' := 63) C dX0_spread_62 rfl rfl ?_
        refine j_isub (pc' := 64) C dX0_spread_63 rfl ?_
        refine jTlN (pc' := 65) C dX0_spread_64 rfl 9 (by decide) (63 - k) hv (by unfold lenT; simp; omega) ?_
        refine j_istore_n (pc' := 66) C dX0_spread_65 rfl (by decide) rfl ?_
        refine j_bipush (pc' := 68) C dX0_spread_66 rfl 64 (by decide) ?_
        refine j_iload_n (pc' := 69) C dX0_spread_68 rfl rfl ?_
        refine j_isub (pc' := 70) C dX0_spread_69 rfl ?_
        refine j_iconst (pc' := 71) C dX0_spread_70 rfl 1 (by decide) ?_
        refine j_iadd (pc' := 72) C dX0_spread_71 rfl ?_
        refine j_istore (pc' := 74) C dX0_spread_72 rfl (by decide) rfl ?_
        refine j_iload_n (pc' := 75) C dX0_spread_74 rfl rfl ?_
        refine j_aload_n (pc' := 76) C dX0_spread_75 rfl rfl ?_
        refine jTi (pc' := 79) C dX0_spread_76 rfl 0 (by unfold isIT; decide) hinT (by decide +kernel) ?_
        refine j_iload_n (pc' := 80) C dX0_spread_79 rfl rfl ?_
        refine j_isub (pc' := 81) C dX0_spread_80 rfl ?_
        refine j_iload_n (pc' := 82) C dX0_spread_81 rfl rfl ?_
        refine j_idiv (pc' := 83) C dX0_spread_82 rfl (nI_ne0 (by omega) (by omega)) ?_
        refine j_iadd (pc' := 84) C dX0_spread_83 rfl ?_
        refine j_istore (pc' := 86) C dX0_spread_84 rfl (by decide) rfl ?_
        refine j_iload (pc' := 88) C dX0_spread_86 rfl rfl ?_
        refine j_aload_n (pc' := 89) C dX0_spread_88 rfl rfl ?_
        refine jTa (pc' := 92) C dX0_spread_89 rfl 9 (by decide) hinT (by decide +kernel) ?_
        refine j_iload (pc' := 94) C dX0_spread_92 rfl rfl ?_
        refine jTlN (pc' := 95) C dX0_spread_94 rfl 9 (by decide) (63 - k + 1) hnx (by unfold lenT; simp; omega) ?_
        refine j_max (pc' := 98) C dX0_spread_95 rfl (by decide +kernel) (by decide +kernel) (by decide +kernel) (by decide +kernel) (by decide) (by decide) ?_
        refine j_aload_n (pc' := 99) C dX0_spread_98 rfl rfl ?_
        refine j_iload (pc' := 101) C dX0_spread_99 rfl rfl ?_
        refine jTlN (pc' := 102) C dX0_spread_101 rfl 11 (by decide) (63 - k + 1) hnx (by unfold lenT; simp; omega) ?_
        refine j_min (pc' := 105) C dX0_spread_102 rfl (by decide +kernel) (by decide +kernel) (by decide +kernel) (by decide +kernel) (by decide) (by decide) ?_
        refine j_istore (pc' := 107) C dX0_spread_105 rfl (by decide) rfl ?_
        exact h107 _ _ _ _ (by rw [goalF, ← hdv]; rfl) hnx
  refine j_aload_n (pc' := 1) C dX0_spread_0 rfl rfl ?_
  refine jTi (pc' := 4) C dX0_spread_1 rfl 13 (by unfold isIT; decide) hinT (by decide +kernel) ?_
  refine j_if_eq (tgt := 8) (pc' := 7) C dX0_spread_4 (by decide) rfl (fun h4 => ?_) (fun h4 => ?_)
  · skip
    refine j_aload_n (pc' := 9) C dX0_spread_8 rfl rfl ?_
    refine jc_same (pc' := 12) C (c_settle l D cI cO B (t) hok) 0 gX0_spread_X0_settle rfl (by decide +kernel) (by decide) rfl rfl (by decide) 0 0 rfl rfl (wT_obj cI B _) (fun _ => rfl) dX0_spread_9 rfl (fun v1 u1 hp1 => ?_)
    obtain ⟨rfl, rfl⟩ := hp1
    show J p l e _ s m args below meth c 0 0 _ _ D A _ _ [] _
    refine j_aload_n (pc' := 13) C dX0_spread_12 rfl rfl ?_
    refine jTa (pc' := 16) C dX0_spread_13 rfl 10 (by decide) hinT (by decide +kernel) ?_
    refine j_iconst (pc' := 17) C dX0_spread_16 rfl 0 (by decide) ?_
    refine j_aload_n (pc' := 18) C dX0_spread_17 rfl rfl ?_
    refine jTa (pc' := 21) C dX0_spread_18 rfl 9 (by decide) hinT (by decide +kernel) ?_
    refine j_iconst (pc' := 22) C dX0_spread_21 rfl 0 (by decide) ?_
    refine j_bipush (pc' := 24) C dX0_spread_22 rfl 65 (by decide) ?_
    refine jT_copy (pc' := 27) C dX0_spread_24 rfl 10 9 (by decide) (by decide) (by decide +kernel) (by decide +kernel) (by decide +kernel) (by decide +kernel) (by decide) (by decide +kernel) ?_
    refine j_aload_n (pc' := 28) C dX0_spread_27 rfl rfl ?_
    refine jTa (pc' := 31) C dX0_spread_28 rfl 11 (by decide) hinT (by decide +kernel) ?_
    refine j_astore_n (pc' := 32) C dX0_spread_31 rfl (by decide) rfl ?_
    refine j_aload_n (pc' := 33) C dX0_spread_32 rfl rfl ?_
    refine j_aload_n (pc' := 34) C dX0_spread_33 rfl rfl ?_
    refine jTi (pc' := 37) C dX0_spread_34 rfl 0 (by unfold isIT; decide) hinT (by decide +kernel) ?_
    refine jT_callA (pc' := 40) C 11 (by decide) (c_fill l D cI cO (B 11) (lenT 11) (by decide) ((settleF t).2 11) ((settleF t).1 0)) 2 gX0_spread_J7_fill_53178 rfl (by decide +kernel) (by decide) rfl rfl (by decide) dX0_spread_37 rfl (fun v1 g1 hp1 => ?_)
    obtain ⟨rfl, rfl⟩ := hp1
    show J p l e _ s m args below meth c 0 0 _ _ D A _ _ [] _
    refine j_aload_n (pc' := 41) C dX0_spread_40 rfl rfl ?_
    refine j_iconst (pc' := 42) C dX0_spread_41 rfl 0 (by decide) ?_
    refine j_iconst (pc' := 43) C dX0_spread_42 rfl 0 (by decide) ?_
    refine jTsN (pc' := 44) C dX0_spread_43 rfl 11 (by decide) 0 rfl (by decide) ?_
    refine j_ws (ws' := wT cI B ((settleF t).1, ua (ua (settleF t).2 9 (cpyF ((settleF t).2 10) ((settleF t).2 9))) 11 (upd (fillF ((settleF t).1 0) 65 ((settleF t).2 11)) 0 0))) (by show wT cI B ((settleF t).1, ua (ua (ua (settleF t).2 9 _) 11 _) 11 _) = _; rw [ua_ua]; rfl) ?_
    refine j_aload_n (pc' := 45) C dX0_spread_44 rfl rfl ?_
    refine j_aload_n (pc' := 46) C dX0_spread_45 rfl rfl ?_
    refine jc_same (pc' := 49) C (c_sinkG l D cI cO B _ (settleF t) (hsK _ _) hok1 11 (by decide)) 1 gX0_spread_X0_sink rfl (by decide +kernel) (by decide) rfl rfl (by decide) 0 0 rfl rfl (wT_obj cI B _) (fun _ => rfl) dX0_spread_46 rfl (fun v1 u1 hp1 => ?_)
    obtain ⟨rfl, rfl⟩ := hp1
    show J p l e _ s m args below meth c 0 0 _ _ D A _ _ [] _
    refine j_ws (ws' := wT cI B ((settleF t).1, ua (ua (settleF t).2 9 (spr0 (settleF t)).1) 11 (spr0 (settleF t)).2)) (by show wT cI B ((settleF t).1, ua (ua (ua (settleF t).2 9 _) 11 _) 11 _) = _; rw [ua_ua]; rfl) ?_
    refine j_bipush (pc' := 51) C dX0_spread_49 rfl 64 (by decide) ?_
    refine j_istore_n (pc' := 52) C dX0_spread_51 rfl (by decide) rfl ?_
    exact loop h4 64 _ _ _ _ _ _ (by decide) rfl
    
    
    
    
    
  · skip
    refine j_return _ C dX0_spread_7 ?_
    exact ⟨rfl, by rw [spreadF, if_neg h4]⟩
end
section
/-! the rest of the Table -/
def forgetF (t : TS) : TS := (upd (upd t.1 12 0) 13 0, t.2)
def growV (x many : Int32) : Int32 := if x = 1000001 then x else (if 1000000 < x + many then 1000000 else x + many)
def mapA (v : Int32 → Int32) (f : Nat → Int32) (n : Nat) : Nat → Int32 := fun j => if j < n then v (f j) else f j
theorem mapA_0 (v : Int32 → Int32) (f : Nat → Int32) : mapA v f 0 = f := by funext j; simp [mapA]
theorem mapA_at (v : Int32 → Int32) (f : Nat → Int32) (i : Nat) : mapA v f i i = f i := by simp [mapA]
theorem mapA_s (v : Int32 → Int32) (f : Nat → Int32) (i : Nat) : upd (mapA v f i) i (v (f i)) = mapA v f (i + 1) := by
  funext j
  unfold upd mapA
  by_cases h : j = i
  · subst h; simp
  · by_cases h2 : j < i
    · rw [if_neg h, if_pos h2, if_pos (show j < i + 1 by omega)]
    · rw [if_neg h, if_neg h2, if_neg (show ¬ j < i + 1 by omega)]
theorem mapA_k (v : Int32 → Int32) (f : Nat → Int32) (i : Nat) (h : v (f i) = f i) : mapA v f i = mapA v f (i + 1) := by
  rw [← mapA_s, h]
  funext j
  unfold upd
  by_cases hj : j = i
  · subst hj; rw [if_pos rfl, mapA_at]
  · rw [if_neg hj]
def growF (t : TS) (many : Int32) : TS := forgetF (upd t.1 0 (t.1 0 + many), ua t.2 6 (mapA (fun x => growV x many) (t.2 6) (t.1 1).toNatClampNeg))
def shrV (x many : Int32) : Int32 := if x - many < 0 then 0 else x - many
def shrF (t : TS) (many : Int32) : TS := forgetF (upd t.1 0 (t.1 0 - many), ua t.2 5 (mapA (fun x => shrV x many) (t.2 5) (t.1 1).toNatClampNeg))
def startF (t : TS) (many : Int32) : TS := forgetF (upd (upd t.1 0 many) 1 0, t.2)
def roomF (t : TS) (many : Int32) : TS := forgetF (upd t.1 2 many, t.2)
def addF (t : TS) (a b lo hi : Int32) : TS := forgetF (upd t.1 1 (t.1 1 + 1), ua (ua (ua (ua t.2 3 (upd (t.2 3) (t.1 1).toNatClampNeg a)) 4 (upd (t.2 4) (t.1 1).toNatClampNeg b)) 5 (upd (t.2 5) (t.1 1).toNatClampNeg lo)) 6 (upd (t.2 6) (t.1 1).toNatClampNeg hi))
def cntF (f : Nat → Int32) (st : Int32) : Nat → Int32
  | 0 => 0
  | n + 1 => if f n = st then cntF f st n + 1 else cntF f st n
def rowsOfF (t : TS) (v : Nat) (by_ : Int32) : Int64 := if by_ = 0 then (t.2 9 (v + 1) - t.2 9 v).toInt64 else (t.2 8 v).toInt64
def sumF (f : Nat → Int32) : Nat → Int32
  | 0 => 0
  | n + 1 => sumF f n + f n
def agW (t : TS) (n : Nat) : Nat → Int32 := fun j => if j ≤ n then sumF (t.2 8) j else t.2 11 j
theorem agW_0 (t : TS) : upd (t.2 11) 0 0 = agW t 0 := by
  funext j; unfold upd agW
  by_cases h : j = 0
  · subst h; rfl
  · rw [if_neg h, if_neg (by omega)]
theorem agW_s (t : TS) (i : Nat) : upd (agW t i) (i + 1) (agW t i i + t.2 8 i) = agW t (i + 1) := by
  funext j
  unfold upd
  by_cases h : j = i + 1
  · subst h; rw [if_pos rfl]; simp [agW, sumF]
  · rw [if_neg h]; unfold agW
    by_cases h2 : j ≤ i
    · rw [if_pos h2, if_pos (by omega)]
    · rw [if_neg h2, if_neg (by omega)]
def agL (t : TS) (g : Nat → Int32) : Nat → Nat → Int32
  | 0, _ => 1
  | k + 1, i => if t.2 7 i = 0 ∧ (g (t.2 4 i).toNatClampNeg - g (t.2 3 i).toNatClampNeg < t.2 5 i ∨ t.2 6 i < g (t.2 4 i).toNatClampNeg - g (t.2 3 i).toNatClampNeg) then 0 else agL t g k (i + 1)
def agreeF (t : TS) : Int32 × TS := (if agW (settleF t) 64 64 = (settleF t).1 0 then agL (settleF t) (agW (settleF t) 64) (t.1 1).toNatClampNeg 0 else 0, ((settleF t).1, ua (settleF t).2 11 (agW (settleF t) 64)))
set_option maxRecDepth 100000 in
set_option maxHeartbeats 4000000 in
theorem c_startAnew (l : Launch) (D : va_G) (cI cO : ClassId) (B : Nat → Nat) (t : TS) (many : Int32) : Kt l yX0_startAnew wsX0_startAnew 1 (wT cI B) D cI cO (fun _ => True) [.ref (B 0), .int many] t (fun r u => r = none ∧ u = startF t many) := by
  refine Kt_of (cc := cX0_startAnew) (n := 2) (ret := none) rfl (by decide +kernel) (Nat.le_of_ble_eq_true rfl) rfl [some (.ref (B 0)), some (.int many)] rfl ?_
  intro p e s m args below meth c A C _ _
  have hinT : ∀ w ∈ wsX00, w ∈ wsX0_startAnew := by decide +kernel
  refine j_aload_n (pc' := 1) C dX0_startAnew_0 rfl rfl ?_
  refine j_iload_n (pc' := 2) C dX0_startAnew_1 rfl rfl ?_
  refine jTp (pc' := 5) C dX0_startAnew_2 rfl 0 (by decide) hinT (by decide +kernel) ?_
  refine j_aload_n (pc' := 6) C dX0_startAnew_5 rfl rfl ?_
  refine j_iconst (pc' := 7) C dX0_startAnew_6 rfl 0 (by decide) ?_
  refine jTp (pc' := 10) C dX0_startAnew_7 rfl 1 (by decide) hinT (by decide +kernel) ?_
  refine j_aload_n (pc' := 11) C dX0_startAnew_10 rfl rfl ?_
  refine jc_same (pc' := 14) C (c_forget l D cI cO B _) 0 gX0_startAnew_X0_forget rfl (by decide +kernel) (by decide) rfl rfl (by decide) 0 0 rfl rfl (wT_obj cI B _) (fun _ => rfl) dX0_startAnew_11 rfl (fun v1 u1 hp1 => ?_)
  obtain ⟨rfl, rfl⟩ := hp1
  show J p l e _ s m args below meth c 0 0 _ _ D A _ _ [] _
  refine j_return _ C dX0_startAnew_14 ?_
  exact ⟨rfl, rfl⟩
  
set_option maxRecDepth 100000 in
set_option maxHeartbeats 4000000 in
theorem c_makeRoom (l : Launch) (D : va_G) (cI cO : ClassId) (B : Nat → Nat) (t : TS) (many : Int32) : Kt l yX0_makeRoom wsX0_makeRoom 1 (wT cI B) D cI cO (fun _ => True) [.ref (B 0), .int many] t (fun r u => r = none ∧ u = roomF t many) := by
  refine Kt_of (cc := cX0_makeRoom) (n := 2) (ret := none) rfl (by decide +kernel) (Nat.le_of_ble_eq_true rfl) rfl [some (.ref (B 0)), some (.int many)] rfl ?_
  intro p e s m args below meth c A C _ _
  have hinT : ∀ w ∈ wsX00, w ∈ wsX0_makeRoom := by decide +kernel
  refine j_aload_n (pc' := 1) C dX0_makeRoom_0 rfl rfl ?_
  refine j_iload_n (pc' := 2) C dX0_makeRoom_1 rfl rfl ?_
  refine jTp (pc' := 5) C dX0_makeRoom_2 rfl 2 (by decide) hinT (by decide +kernel) ?_
  refine j_aload_n (pc' := 6) C dX0_makeRoom_5 rfl rfl ?_
  refine jc_same (pc' := 9) C (c_forget l D cI cO B _) 0 gX0_makeRoom_X0_forget rfl (by decide +kernel) (by decide) rfl rfl (by decide) 0 0 rfl rfl (wT_obj cI B _) (fun _ => rfl) dX0_makeRoom_6 rfl (fun v1 u1 hp1 => ?_)
  obtain ⟨rfl, rfl⟩ := hp1
  show J p l e _ s m args below meth c 0 0 _ _ D A _ _ [] _
  refine j_return _ C dX0_makeRoom_9 ?_
  exact ⟨rfl, rfl⟩
  
set_option maxRecDepth 100000 in
set_option maxHeartbeats 4000000 in
theorem c_grow (l : Launch) (D : va_G) (cI cO : ClassId) (B : Nat → Nat) (t : TS) (hok : okT t) (many : Int32) : Kt l yX0_grow wsX0_grow 1 (wT cI B) D cI cO (fun _ => True) [.ref (B 0), .int many] t (fun r u => r = none ∧ u = growF t many) := by
  refine Kt_of (cc := cX0_grow) (n := 3) (ret := none) rfl (by decide +kernel) (Nat.le_of_ble_eq_true rfl) rfl [some (.ref (B 0)), some (.int many), none] rfl ?_
  intro p e s m args below meth c A C _ _
  have hinT : ∀ w ∈ wsX00, w ∈ wsX0_grow := by decide +kernel
  obtain ⟨en, hn41⟩ := vp_in_c hok.1 (by decide)
  generalize hN : (t.1 1).toNatClampNeg = N at en hn41
  have loop : ∀ (k i : Nat), i + k = N → J p l e (rmH 1) s m args below meth c 0 0 (RQ below args s D (wT cI B) (fun r u => r = none ∧ u = growF t many) A) 3 D A 12 [some (.ref (B 0)), some (.int many), some (.int (nI i))] [] (wTW cI B (upd t.1 0 (t.1 0 + many), t.2) 6 (mapA (fun x => growV x many) (t.2 6) i)) := by
    intro k
    induction k with
    | zero =>
      intro i hi
      have hi2 : i = N := by omega
      subst hi2
      refine j_iload_n (pc' := 13) C dX0_grow_12 rfl rfl ?_
      refine j_aload_n (pc' := 14) C dX0_grow_13 rfl rfl ?_
      refine jWi (pc' := 17) C dX0_grow_14 rfl 1 (by unfold isIT; decide) hinT (by decide +kernel) ?_
      refine j_icmp_ge (tgt := 56) (pc' := 20) C dX0_grow_17 (by decide) rfl (fun h17 => ?_) (fun h17 => ?_)
      · skip
        refine j_aload_n (pc' := 57) C dX0_grow_56 rfl rfl ?_
        refine j_ws (ws' := wT cI B (upd t.1 0 (t.1 0 + many), ua t.2 6 (mapA (fun x => growV x many) (t.2 6) i))) rfl ?_
        refine jc_same (pc' := 60) C (c_forget l D cI cO B (upd t.1 0 (t.1 0 + many), ua t.2 6 (mapA (fun x => growV x many) (t.2 6) i))) 0 gX0_grow_X0_forget rfl (by decide +kernel) (by decide) rfl rfl (by decide) 0 0 rfl rfl (wT_obj cI B _) (fun _ => rfl) dX0_grow_57 rfl (fun v1 u1 hp1 => ?_)
        obtain ⟨rfl, rfl⟩ := hp1
        show J p l e _ s m args below meth c 0 0 _ _ D A _ _ [] _
        refine j_return _ C dX0_grow_60 ?_
        exact ⟨rfl, by rw [growF, hN]; rfl⟩
        
      · skip
        exact absurd (by show t.1 1 ≤ _; rw [en]; exact nI_le (Nat.le_refl _) (by omega)) h17 -- done
    | succ k ih =>
      intro i hi
      refine j_iload_n (pc' := 13) C dX0_grow_12 rfl rfl ?_
      refine j_aload_n (pc' := 14) C dX0_grow_13 rfl rfl ?_
      refine jWi (pc' := 17) C dX0_grow_14 rfl 1 (by unfold isIT; decide) hinT (by decide +kernel) ?_
      refine j_icmp_ge (tgt := 56) (pc' := 20) C dX0_grow_17 (by decide) rfl (fun h17 => ?_) (fun h17 => ?_)
      · skip
        exact absurd h17 (by show ¬ t.1 1 ≤ _; rw [en]; exact nI_ge (by omega) (by omega)) -- done
      · skip
        refine j_aload_n (pc' := 21) C dX0_grow_20 rfl rfl ?_
        refine jWa (pc' := 24) C dX0_grow_21 rfl 6 (by decide) hinT (by decide +kernel) ?_
        refine j_iload_n (pc' := 25) C dX0_grow_24 rfl rfl ?_
        refine jWgN (pc' := 26) C dX0_grow_25 rfl (by decide) i rfl (by unfold lenT; simp; omega) ?_
        refine j_ldc (pc' := 28) C dX0_grow_26 rfl 1000001 (by decide +kernel) ?_
        refine j_icmp_eq (tgt := 50) (pc' := 31) C dX0_grow_28 (by decide) rfl (fun h28 => ?_) (fun h28 => ?_)
        · skip
          refine j_iinc (pc' := 53) C dX0_grow_50 rfl 1 (by decide) rfl (by decide) rfl ?_
          refine j_goto (pc' := 12) C dX0_grow_53 (by decide) ?_
          first
            | (rw [mapA_at] at h28; rw [mapA_k (fun x => growV x many) (t.2 6) i (by show growV _ _ = _; rw [growV, if_pos h28]), nI_1]; exact ih (i + 1) (by omega))
            | (rw [mapA_at] at h28 ⊢; rw [show (if 1000000 < t.2 6 i + many then 1000000 else t.2 6 i + many) = (fun x => growV x many) (t.2 6 i) from (by show _ = growV _ _; rw [growV, if_neg h28]), mapA_s, nI_1]; exact ih (i + 1) (by omega))
        · skip
          refine j_aload_n (pc' := 32) C dX0_grow_31 rfl rfl ?_
          refine jWa (pc' := 35) C dX0_grow_32 rfl 6 (by decide) hinT (by decide +kernel) ?_
          refine j_iload_n (pc' := 36) C dX0_grow_35 rfl rfl ?_
          refine j_aload_n (pc' := 37) C dX0_grow_36 rfl rfl ?_
          refine jWa (pc' := 40) C dX0_grow_37 rfl 6 (by decide) hinT (by decide +kernel) ?_
          refine j_iload_n (pc' := 41) C dX0_grow_40 rfl rfl ?_
          refine jWgN (pc' := 42) C dX0_grow_41 rfl (by decide) i rfl (by unfold lenT; simp; omega) ?_
          refine j_iload_n (pc' := 43) C dX0_grow_42 rfl rfl ?_
          refine j_iadd (pc' := 44) C dX0_grow_43 rfl ?_
          refine j_ldc (pc' := 46) C dX0_grow_44 rfl 1000000 (by decide +kernel) ?_
          refine j_min (pc' := 49) C dX0_grow_46 rfl (by decide +kernel) (by decide +kernel) (by decide +kernel) (by decide +kernel) (by decide) (Nat.le_of_ble_eq_true rfl) ?_
          refine jWsN (pc' := 50) C dX0_grow_49 rfl (by decide) i rfl (by unfold lenT; simp; omega) ?_
          refine j_iinc (pc' := 53) C dX0_grow_50 rfl 1 (by decide) rfl (by decide) rfl ?_
          refine j_goto (pc' := 12) C dX0_grow_53 (by decide) ?_
          first
            | (rw [mapA_at] at h28; rw [mapA_k (fun x => growV x many) (t.2 6) i (by show growV _ _ = _; rw [growV, if_pos h28]), nI_1]; exact ih (i + 1) (by omega))
            | (rw [mapA_at] at h28 ⊢; rw [show (if 1000000 < t.2 6 i + many then 1000000 else t.2 6 i + many) = (fun x => growV x many) (t.2 6 i) from (by show _ = growV _ _; rw [growV, if_neg h28]), mapA_s, nI_1]; exact ih (i + 1) (by omega))
  refine j_aload_n (pc' := 1) C dX0_grow_0 rfl rfl ?_
  refine j_dup (pc' := 2) C dX0_grow_1 rfl rfl ?_
  refine jTi (pc' := 5) C dX0_grow_2 rfl 0 (by unfold isIT; decide) hinT (by decide +kernel) ?_
  refine j_iload_n (pc' := 6) C dX0_grow_5 rfl rfl ?_
  refine j_iadd (pc' := 7) C dX0_grow_6 rfl ?_
  refine jTp (pc' := 10) C dX0_grow_7 rfl 0 (by decide) hinT (by decide +kernel) ?_
  refine j_iconst (pc' := 11) C dX0_grow_10 rfl 0 (by decide) ?_
  refine j_istore_n (pc' := 12) C dX0_grow_11 rfl (by decide) rfl ?_
  have hb0 := loop N 0 (by omega)
  unfold wTW at hb0
  rw [mapA_0] at hb0
  rw [show ua (upd t.1 0 (t.1 0 + many), t.2).2 6 (t.2 6) = t.2 from ua_self t.2 6] at hb0
  exact hb0
set_option maxRecDepth 100000 in
set_option maxHeartbeats 4000000 in
theorem c_shrink (l : Launch) (D : va_G) (cI cO : ClassId) (B : Nat → Nat) (t : TS) (hok : okT t) (many : Int32) : Kt l yX0_shrink wsX0_shrink 1 (wT cI B) D cI cO (fun _ => True) [.ref (B 0), .int many] t (fun r u => r = none ∧ u = shrF t many) := by
  refine Kt_of (cc := cX0_shrink) (n := 3) (ret := none) rfl (by decide +kernel) (Nat.le_of_ble_eq_true rfl) rfl [some (.ref (B 0)), some (.int many), none] rfl ?_
  intro p e s m args below meth c A C _ _
  have hinT : ∀ w ∈ wsX00, w ∈ wsX0_shrink := by decide +kernel
  obtain ⟨en, hn41⟩ := vp_in_c hok.1 (by decide)
  generalize hN : (t.1 1).toNatClampNeg = N at en hn41
  have loop : ∀ (k i : Nat), i + k = N → J p l e (rmH 1) s m args below meth c 0 0 (RQ below args s D (wT cI B) (fun r u => r = none ∧ u = shrF t many) A) 3 D A 12 [some (.ref (B 0)), some (.int many), some (.int (nI i))] [] (wTW cI B (upd t.1 0 (t.1 0 - many), t.2) 5 (mapA (fun x => shrV x many) (t.2 5) i)) := by
    intro k
    induction k with
    | zero =>
      intro i hi
      have hi2 : i = N := by omega
      subst hi2
      refine j_iload_n (pc' := 13) C dX0_shrink_12 rfl rfl ?_
      refine j_aload_n (pc' := 14) C dX0_shrink_13 rfl rfl ?_
      refine jWi (pc' := 17) C dX0_shrink_14 rfl 1 (by unfold isIT; decide) hinT (by decide +kernel) ?_
      refine j_icmp_ge (tgt := 44) (pc' := 20) C dX0_shrink_17 (by decide) rfl (fun h17 => ?_) (fun h17 => ?_)
      · skip
        refine j_aload_n (pc' := 45) C dX0_shrink_44 rfl rfl ?_
        refine j_ws (ws' := wT cI B (upd t.1 0 (t.1 0 - many), ua t.2 5 (mapA (fun x => shrV x many) (t.2 5) i))) rfl ?_
        refine jc_same (pc' := 48) C (c_forget l D cI cO B (upd t.1 0 (t.1 0 - many), ua t.2 5 (mapA (fun x => shrV x many) (t.2 5) i))) 0 gX0_shrink_X0_forget rfl (by decide +kernel) (by decide) rfl rfl (by decide) 0 0 rfl rfl (wT_obj cI B _) (fun _ => rfl) dX0_shrink_45 rfl (fun v1 u1 hp1 => ?_)
        obtain ⟨rfl, rfl⟩ := hp1
        show J p l e _ s m args below meth c 0 0 _ _ D A _ _ [] _
        refine j_return _ C dX0_shrink_48 ?_
        exact ⟨rfl, by rw [shrF, hN]; rfl⟩
        
      · skip
        exact absurd (by show t.1 1 ≤ _; rw [en]; exact nI_le (Nat.le_refl _) (by omega)) h17 -- done
    | succ k ih =>
      intro i hi
      refine j_iload_n (pc' := 13) C dX0_shrink_12 rfl rfl ?_
      refine j_aload_n (pc' := 14) C dX0_shrink_13 rfl rfl ?_
      refine jWi (pc' := 17) C dX0_shrink_14 rfl 1 (by unfold isIT; decide) hinT (by decide +kernel) ?_
      refine j_icmp_ge (tgt := 44) (pc' := 20) C dX0_shrink_17 (by decide) rfl (fun h17 => ?_) (fun h17 => ?_)
      · skip
        exact absurd h17 (by show ¬ t.1 1 ≤ _; rw [en]; exact nI_ge (by omega) (by omega)) -- done
      · skip
        refine j_aload_n (pc' := 21) C dX0_shrink_20 rfl rfl ?_
        refine jWa (pc' := 24) C dX0_shrink_21 rfl 5 (by decide) hinT (by decide +kernel) ?_
        refine j_iload_n (pc' := 25) C dX0_shrink_24 rfl rfl ?_
        refine j_aload_n (pc' := 26) C dX0_shrink_25 rfl rfl ?_
        refine jWa (pc' := 29) C dX0_shrink_26 rfl 5 (by decide) hinT (by decide +kernel) ?_
        refine j_iload_n (pc' := 30) C dX0_shrink_29 rfl rfl ?_
        refine jWgN (pc' := 31) C dX0_shrink_30 rfl (by decide) i rfl (by unfold lenT; simp; omega) ?_
        refine j_iload_n (pc' := 32) C dX0_shrink_31 rfl rfl ?_
        refine j_isub (pc' := 33) C dX0_shrink_32 rfl ?_
        refine j_iconst (pc' := 34) C dX0_shrink_33 rfl 0 (by decide) ?_
        refine j_max (pc' := 37) C dX0_shrink_34 rfl (by decide +kernel) (by decide +kernel) (by decide +kernel) (by decide +kernel) (by decide) (Nat.le_of_ble_eq_true rfl) ?_
        refine jWsN (pc' := 38) C dX0_shrink_37 rfl (by decide) i rfl (by unfold lenT; simp; omega) ?_
        refine j_iinc (pc' := 41) C dX0_shrink_38 rfl 1 (by decide) rfl (by decide) rfl ?_
        refine j_goto (pc' := 12) C dX0_shrink_41 (by decide) ?_
        rw [mapA_at, show (if t.2 5 i - many < 0 then 0 else t.2 5 i - many) = (fun x => shrV x many) (t.2 5 i) from rfl, mapA_s, nI_1]
        exact ih (i + 1) (by omega)
  refine j_aload_n (pc' := 1) C dX0_shrink_0 rfl rfl ?_
  refine j_dup (pc' := 2) C dX0_shrink_1 rfl rfl ?_
  refine jTi (pc' := 5) C dX0_shrink_2 rfl 0 (by unfold isIT; decide) hinT (by decide +kernel) ?_
  refine j_iload_n (pc' := 6) C dX0_shrink_5 rfl rfl ?_
  refine j_isub (pc' := 7) C dX0_shrink_6 rfl ?_
  refine jTp (pc' := 10) C dX0_shrink_7 rfl 0 (by decide) hinT (by decide +kernel) ?_
  refine j_iconst (pc' := 11) C dX0_shrink_10 rfl 0 (by decide) ?_
  refine j_istore_n (pc' := 12) C dX0_shrink_11 rfl (by decide) rfl ?_
  have hb0 := loop N 0 (by omega)
  unfold wTW at hb0
  rw [mapA_0] at hb0
  rw [show ua (upd t.1 0 (t.1 0 - many), t.2).2 5 (t.2 5) = t.2 from ua_self t.2 5] at hb0
  exact hb0
set_option maxRecDepth 100000 in
set_option maxHeartbeats 4000000 in
theorem c_addSight (l : Launch) (D : va_G) (cI cO : ClassId) (B : Nat → Nat) (t : TS) (hok : okT t) (a b lo hi : Int32) : Kt l yX0_addSight wsX0_addSight 1 (wT cI B) D cI cO (fun _ => True) [.ref (B 0), .int a, .int b, .int lo, .int hi] t (fun r u => (t.1 1 < 40 → r = some (.int (t.1 1)) ∧ u = addF t a b lo hi) ∧ (¬ t.1 1 < 40 → r = some (.int (-1)) ∧ u = t)) := by
  refine Kt_of (cc := cX0_addSight) (n := 6) (ret := some .int) rfl (by decide +kernel) (Nat.le_of_ble_eq_true rfl) rfl [some (.ref (B 0)), some (.int a), some (.int b), some (.int lo), some (.int hi), none] rfl ?_
  intro p e s m args below meth c A C _ _
  have hinT : ∀ w ∈ wsX00, w ∈ wsX0_addSight := by decide +kernel
  obtain ⟨en, hn41⟩ := vp_in_c hok.1 (by decide)
  generalize hN : (t.1 1).toNatClampNeg = n at en hn41
  refine j_aload_n (pc' := 1) C dX0_addSight_0 rfl rfl ?_
  refine jTi (pc' := 4) C dX0_addSight_1 rfl 1 (by unfold isIT; decide) hinT (by decide +kernel) ?_
  refine j_istore (pc' := 6) C dX0_addSight_4 rfl (by decide) rfl ?_
  refine j_iload (pc' := 8) C dX0_addSight_6 rfl rfl ?_
  refine j_bipush (pc' := 10) C dX0_addSight_8 rfl 40 (by decide) ?_
  refine j_icmp_lt (tgt := 15) (pc' := 13) C dX0_addSight_10 (by decide) rfl (fun h10 => ?_) (fun h10 => ?_)
  · skip
    have hn40 : n < 40 := by
      rcases Nat.lt_or_ge n 40 with h | h
      · exact h
      · exact absurd h10 (by rw [en]; exact nI_nlt (a := n) (b := 40) h (by omega))
    refine j_aload_n (pc' := 16) C dX0_addSight_15 rfl rfl ?_
    refine jTa (pc' := 19) C dX0_addSight_16 rfl 3 (by decide) hinT (by decide +kernel) ?_
    refine j_iload (pc' := 21) C dX0_addSight_19 rfl rfl ?_
    refine j_iload_n (pc' := 22) C dX0_addSight_21 rfl rfl ?_
    refine jTsN (pc' := 23) C dX0_addSight_22 rfl 3 (by decide) n en (by unfold lenT; simp; omega) ?_
    refine j_aload_n (pc' := 24) C dX0_addSight_23 rfl rfl ?_
    refine jTa (pc' := 27) C dX0_addSight_24 rfl 4 (by decide) hinT (by decide +kernel) ?_
    refine j_iload (pc' := 29) C dX0_addSight_27 rfl rfl ?_
    refine j_iload_n (pc' := 30) C dX0_addSight_29 rfl rfl ?_
    refine jTsN (pc' := 31) C dX0_addSight_30 rfl 4 (by decide) n en (by unfold lenT; simp; omega) ?_
    refine j_aload_n (pc' := 32) C dX0_addSight_31 rfl rfl ?_
    refine jTa (pc' := 35) C dX0_addSight_32 rfl 5 (by decide) hinT (by decide +kernel) ?_
    refine j_iload (pc' := 37) C dX0_addSight_35 rfl rfl ?_
    refine j_iload_n (pc' := 38) C dX0_addSight_37 rfl rfl ?_
    refine jTsN (pc' := 39) C dX0_addSight_38 rfl 5 (by decide) n en (by unfold lenT; simp; omega) ?_
    refine j_aload_n (pc' := 40) C dX0_addSight_39 rfl rfl ?_
    refine jTa (pc' := 43) C dX0_addSight_40 rfl 6 (by decide) hinT (by decide +kernel) ?_
    refine j_iload (pc' := 45) C dX0_addSight_43 rfl rfl ?_
    refine j_iload (pc' := 47) C dX0_addSight_45 rfl rfl ?_
    refine jTsN (pc' := 48) C dX0_addSight_47 rfl 6 (by decide) n en (by unfold lenT; simp; omega) ?_
    refine j_aload_n (pc' := 49) C dX0_addSight_48 rfl rfl ?_
    refine j_iload (pc' := 51) C dX0_addSight_49 rfl rfl ?_
    refine j_iconst (pc' := 52) C dX0_addSight_51 rfl 1 (by decide) ?_
    refine j_iadd (pc' := 53) C dX0_addSight_52 rfl ?_
    refine jTp (pc' := 56) C dX0_addSight_53 rfl 1 (by decide) hinT (by decide +kernel) ?_
    refine j_aload_n (pc' := 57) C dX0_addSight_56 rfl rfl ?_
    refine jc_same (pc' := 60) C (c_forget l D cI cO B _) 0 gX0_addSight_X0_forget rfl (by decide +kernel) (by decide) rfl rfl (by decide) 0 0 rfl rfl (wT_obj cI B _) (fun _ => rfl) dX0_addSight_57 rfl (fun v1 u1 hp1 => ?_)
    obtain ⟨rfl, rfl⟩ := hp1
    show J p l e _ s m args below meth c 0 0 _ _ D A _ _ [] _
    refine j_iload (pc' := 62) C dX0_addSight_60 rfl rfl ?_
    refine j_ireturn _ C dX0_addSight_62 ?_
    exact ⟨fun _ => ⟨rfl, by rw [addF, hN]; rfl⟩, fun h => absurd h10 h⟩
    
  · skip
    refine j_iconst (pc' := 14) C dX0_addSight_13 rfl (-1) (by decide) ?_
    refine j_ireturn _ C dX0_addSight_14 ?_
    exact ⟨fun h => absurd h h10, fun _ => ⟨rfl, rfl⟩⟩
set_option maxRecDepth 100000 in
set_option maxHeartbeats 4000000 in
theorem c_sightsThatAre (l : Launch) (D : va_G) (cI cO : ClassId) (B : Nat → Nat) (t : TS) (hok : okT t) (st : Int32) : Kt l yX0_sightsThatAre wsX0_sightsThatAre 4 (wT cI B) D cI cO (fun _ => True) [.ref (B 0), .int st] t (fun r u => r = some (.int (cntF ((settleF t).2 7) st (t.1 1).toNatClampNeg)) ∧ u = settleF t) := by
  refine Kt_of (cc := cX0_sightsThatAre) (n := 4) (ret := some .int) rfl (by decide +kernel) (Nat.le_of_ble_eq_true rfl) rfl [some (.ref (B 0)), some (.int st), none, none] rfl ?_
  intro p e s m args below meth c A C _ _
  have hinT : ∀ w ∈ wsX00, w ∈ wsX0_sightsThatAre := by decide +kernel
  obtain ⟨en, hn41⟩ := vp_in_c hok.1 (by decide)
  obtain ⟨N, hN0⟩ : ∃ N, N = (t.1 1).toNatClampNeg := ⟨_, rfl⟩
  have hN := hN0.symm
  rw [← hN0] at en hn41
  have en2 : (settleF t).1 1 = nI N := (settleF_1 t (by decide)).trans en
  have loop : ∀ (k i : Nat), i + k = N → J p l e (rmH 4) s m args below meth c 0 0 (RQ below args s D (wT cI B) (fun r u => r = some (.int (cntF ((settleF t).2 7) st (t.1 1).toNatClampNeg)) ∧ u = settleF t) A) 4 D A 8 [some (.ref (B 0)), some (.int st), some (.int (cntF ((settleF t).2 7) st i)), some (.int (nI i))] [] (wT cI B (settleF t)) := by
    intro k
    induction k with
    | zero =>
      intro i hi
      have hi2 : i = N := by omega
      subst hi2
      refine j_iload_n (pc' := 9) C dX0_sightsThatAre_8 rfl rfl ?_
      refine j_aload_n (pc' := 10) C dX0_sightsThatAre_9 rfl rfl ?_
      refine jTi (pc' := 13) C dX0_sightsThatAre_10 rfl 1 (by unfold isIT; decide) hinT (by decide +kernel) ?_
      refine j_icmp_ge (tgt := 35) (pc' := 16) C dX0_sightsThatAre_13 (by decide) rfl (fun h13 => ?_) (fun h13 => ?_)
      · skip
        refine j_iload_n (pc' := 36) C dX0_sightsThatAre_35 rfl rfl ?_
        refine j_ireturn _ C dX0_sightsThatAre_36 ?_
        exact ⟨by rw [hN], rfl⟩
      · skip
        exact absurd (by rw [en2]; exact nI_le (Nat.le_refl _) (by omega)) h13 -- done
    | succ k ih =>
      intro i hi
      refine j_iload_n (pc' := 9) C dX0_sightsThatAre_8 rfl rfl ?_
      refine j_aload_n (pc' := 10) C dX0_sightsThatAre_9 rfl rfl ?_
      refine jTi (pc' := 13) C dX0_sightsThatAre_10 rfl 1 (by unfold isIT; decide) hinT (by decide +kernel) ?_
      refine j_icmp_ge (tgt := 35) (pc' := 16) C dX0_sightsThatAre_13 (by decide) rfl (fun h13 => ?_) (fun h13 => ?_)
      · skip
        exact absurd h13 (by rw [en2]; exact nI_ge (by omega) (by omega)) -- done
      · skip
        refine j_aload_n (pc' := 17) C dX0_sightsThatAre_16 rfl rfl ?_
        refine jTa (pc' := 20) C dX0_sightsThatAre_17 rfl 7 (by decide) hinT (by decide +kernel) ?_
        refine j_iload_n (pc' := 21) C dX0_sightsThatAre_20 rfl rfl ?_
        refine jTlN (pc' := 22) C dX0_sightsThatAre_21 rfl 7 (by decide) i rfl (by unfold lenT; simp; omega) ?_
        refine j_iload_n (pc' := 23) C dX0_sightsThatAre_22 rfl rfl ?_
        refine j_icmp_ne (tgt := 29) (pc' := 26) C dX0_sightsThatAre_23 (by decide) rfl (fun h23 => ?_) (fun h23 => ?_)
        · skip
          refine j_iinc (pc' := 32) C dX0_sightsThatAre_29 rfl 1 (by decide) rfl (by decide) rfl ?_
          refine j_goto (pc' := 8) C dX0_sightsThatAre_32 (by decide) ?_
          have hb0 := ih (i + 1) (by omega)
          rw [nI_1]
          first | (rw [cntF, if_neg h23] at hb0; exact hb0) | (rw [cntF, if_pos h23] at hb0; exact hb0)
        · skip
          refine j_iinc (pc' := 29) C dX0_sightsThatAre_26 rfl 1 (by decide) rfl (by decide) rfl ?_
          refine j_iinc (pc' := 32) C dX0_sightsThatAre_29 rfl 1 (by decide) rfl (by decide) rfl ?_
          refine j_goto (pc' := 8) C dX0_sightsThatAre_32 (by decide) ?_
          have hb0 := ih (i + 1) (by omega)
          rw [nI_1]
          first | (rw [cntF, if_neg h23] at hb0; exact hb0) | (rw [cntF, if_pos h23] at hb0; exact hb0)
  refine j_aload_n (pc' := 1) C dX0_sightsThatAre_0 rfl rfl ?_
  refine jc_same (pc' := 4) C (c_settle l D cI cO B (t) hok) 0 gX0_sightsThatAre_X0_settle rfl (by decide +kernel) (by decide) rfl rfl (by decide) 0 0 rfl rfl (wT_obj cI B _) (fun _ => rfl) dX0_sightsThatAre_1 rfl (fun v1 u1 hp1 => ?_)
  obtain ⟨rfl, rfl⟩ := hp1
  show J p l e _ s m args below meth c 0 0 _ _ D A _ _ [] _
  refine j_iconst (pc' := 5) C dX0_sightsThatAre_4 rfl 0 (by decide) ?_
  refine j_istore_n (pc' := 6) C dX0_sightsThatAre_5 rfl (by decide) rfl ?_
  refine j_iconst (pc' := 7) C dX0_sightsThatAre_6 rfl 0 (by decide) ?_
  refine j_istore_n (pc' := 8) C dX0_sightsThatAre_7 rfl (by decide) rfl ?_
  exact loop N 0 (by omega)
  
set_option maxRecDepth 100000 in
set_option maxHeartbeats 4000000 in
theorem c_rowsOf (l : Launch) (D : va_G) (cI cO : ClassId) (B : Nat → Nat) (t : TS) (v : Nat) (hv : v < 64) (by_ : Int32) : Kt l yX0_rowsOf wsX0_rowsOf 0 (wT cI B) D cI cO (fun _ => True) [.ref (B 0), .int (nI v), .int by_] t (fun r u => r = some (.long (rowsOfF t v by_)) ∧ u = t) := by
  refine Kt_of (cc := cX0_rowsOf) (n := 3) (ret := some .long) rfl (by decide +kernel) (Nat.le_of_ble_eq_true rfl) rfl [some (.ref (B 0)), some (.int (nI v)), some (.int by_)] rfl ?_
  intro p e s m args below meth c A C _ _
  have hinT : ∀ w ∈ wsX00, w ∈ wsX0_rowsOf := by decide +kernel
  refine j_iload_n (pc' := 1) C dX0_rowsOf_0 rfl rfl ?_
  refine j_if_eq (tgt := 14) (pc' := 4) C dX0_rowsOf_1 (by decide) rfl (fun h1 => ?_) (fun h1 => ?_)
  · skip
    refine j_aload_n (pc' := 15) C dX0_rowsOf_14 rfl rfl ?_
    refine jTa (pc' := 18) C dX0_rowsOf_15 rfl 9 (by decide) hinT (by decide +kernel) ?_
    refine j_iload_n (pc' := 19) C dX0_rowsOf_18 rfl rfl ?_
    refine j_iconst (pc' := 20) C dX0_rowsOf_19 rfl 1 (by decide) ?_
    refine j_iadd (pc' := 21) C dX0_rowsOf_20 rfl ?_
    refine jTlN (pc' := 22) C dX0_rowsOf_21 rfl 9 (by decide) (v + 1) (nI_1 v) (by unfold lenT; simp; omega) ?_
    refine j_aload_n (pc' := 23) C dX0_rowsOf_22 rfl rfl ?_
    refine jTa (pc' := 26) C dX0_rowsOf_23 rfl 9 (by decide) hinT (by decide +kernel) ?_
    refine j_iload_n (pc' := 27) C dX0_rowsOf_26 rfl rfl ?_
    refine jTlN (pc' := 28) C dX0_rowsOf_27 rfl 9 (by decide) v rfl (by unfold lenT; simp; omega) ?_
    refine j_isub (pc' := 29) C dX0_rowsOf_28 rfl ?_
    refine j_i2l (pc' := 30) C dX0_rowsOf_29 rfl ?_
    refine j_lreturn _ C dX0_rowsOf_30 ?_
    first | exact ⟨by rw [rowsOfF, if_pos h1], rfl⟩ | exact ⟨by rw [rowsOfF, if_neg h1], rfl⟩
  · skip
    refine j_aload_n (pc' := 5) C dX0_rowsOf_4 rfl rfl ?_
    refine jTa (pc' := 8) C dX0_rowsOf_5 rfl 8 (by decide) hinT (by decide +kernel) ?_
    refine j_iload_n (pc' := 9) C dX0_rowsOf_8 rfl rfl ?_
    refine jTlN (pc' := 10) C dX0_rowsOf_9 rfl 8 (by decide) v rfl (by unfold lenT; simp; omega) ?_
    refine j_i2l (pc' := 11) C dX0_rowsOf_10 rfl ?_
    refine j_goto (pc' := 30) C dX0_rowsOf_11 (by decide) ?_
    refine j_lreturn _ C dX0_rowsOf_30 ?_
    first | exact ⟨by rw [rowsOfF, if_pos h1], rfl⟩ | exact ⟨by rw [rowsOfF, if_neg h1], rfl⟩
set_option maxRecDepth 100000 in
set_option maxHeartbeats 4000000 in
theorem c_trulyAgrees (l : Launch) (D : va_G) (cI cO : ClassId) (B : Nat → Nat) (t : TS) (hok : okT t) : Kt l yX0_trulyAgrees wsX0_trulyAgrees 4 (wT cI B) D cI cO (fun _ => True) [.ref (B 0)] t (fun r u => r = some (.int (agreeF t).1) ∧ u = (agreeF t).2) := by
  refine Kt_of (cc := cX0_trulyAgrees) (n := 3) (ret := some .boolean) rfl (by decide +kernel) (Nat.le_of_ble_eq_true rfl) rfl [some (.ref (B 0)), none, none] rfl ?_
  intro p e s m args below meth c A C _ _
  have hinT : ∀ w ∈ wsX00, w ∈ wsX0_trulyAgrees := by decide +kernel
  obtain ⟨en, hn41⟩ := vp_in_c hok.1 (by decide)
  have hft := (settleF_ok hok).2
  rw [settleF_1 t (by decide)] at hft
  generalize hN : (t.1 1).toNatClampNeg = N at en hn41 hft
  have en2 : (settleF t).1 1 = nI N := (settleF_1 t (by decide)).trans en
  have loop2 : agW (settleF t) 64 64 = (settleF t).1 0 → ∀ (k i : Nat) (x : Option Value), i + k = N → agL (settleF t) (agW (settleF t) 64) k i = agL (settleF t) (agW (settleF t) 64) N 0 → J p l e (rmH 4) s m args below meth c 0 0 (RQ below args s D (wT cI B) (fun r u => r = some (.int (agreeF t).1) ∧ u = (agreeF t).2) A) 3 D A 64 [some (.ref (B 0)), some (.int (nI i)), x] [] (wTW cI B (settleF t) 11 (agW (settleF t) 64)) := by
    intro h57 k
    have hag : (agreeF t).1 = agL (settleF t) (agW (settleF t) 64) N 0 := by rw [agreeF, hN]; exact if_pos h57
    induction k with
    | zero =>
      intro i x hi hr
      have hi2 : i = N := by omega
      subst hi2
      refine j_iload_n (pc' := 65) C dX0_trulyAgrees_64 rfl rfl ?_
      refine j_aload_n (pc' := 66) C dX0_trulyAgrees_65 rfl rfl ?_
      refine jWi (pc' := 69) C dX0_trulyAgrees_66 rfl 1 (by unfold isIT; decide) hinT (by decide +kernel) ?_
      refine j_icmp_ge (tgt := 133) (pc' := 72) C dX0_trulyAgrees_69 (by decide) rfl (fun h69 => ?_) (fun h69 => ?_)
      · skip
        refine j_iconst (pc' := 134) C dX0_trulyAgrees_133 rfl 1 (by decide) ?_
        refine j_zreturn _ C dX0_trulyAgrees_134 ?_ ?_
        · exact Or.inr rfl
        · exact ⟨by rw [hag, ← hr]; rfl, rfl⟩
      · skip
        exact absurd (by rw [en2]; exact nI_le (Nat.le_refl _) (by omega)) h69 -- done
    | succ k ih =>
      intro i x hi hr
      have hi1 : i < N := by omega
      refine j_iload_n (pc' := 65) C dX0_trulyAgrees_64 rfl rfl ?_
      refine j_aload_n (pc' := 66) C dX0_trulyAgrees_65 rfl rfl ?_
      refine jWi (pc' := 69) C dX0_trulyAgrees_66 rfl 1 (by unfold isIT; decide) hinT (by decide +kernel) ?_
      refine j_icmp_ge (tgt := 133) (pc' := 72) C dX0_trulyAgrees_69 (by decide) rfl (fun h69 => ?_) (fun h69 => ?_)
      · skip
        exact absurd h69 (by rw [en2]; exact nI_ge (by omega) (by omega)) -- done
      · skip
        refine j_aload_n (pc' := 73) C dX0_trulyAgrees_72 rfl rfl ?_
        refine jWa (pc' := 76) C dX0_trulyAgrees_73 rfl 11 (by decide) hinT (by decide +kernel) ?_
        refine j_aload_n (pc' := 77) C dX0_trulyAgrees_76 rfl rfl ?_
        refine jWa (pc' := 80) C dX0_trulyAgrees_77 rfl 4 (by decide) hinT (by decide +kernel) ?_
        refine j_iload_n (pc' := 81) C dX0_trulyAgrees_80 rfl rfl ?_
        refine jWlN (pc' := 82) C dX0_trulyAgrees_81 rfl 4 (by decide) (by decide) i rfl (by unfold lenT; simp; omega) ?_
        refine jWg (pc' := 83) C dX0_trulyAgrees_82 rfl (by decide) (hft i hi1).2 ?_
        refine j_aload_n (pc' := 84) C dX0_trulyAgrees_83 rfl rfl ?_
        refine jWa (pc' := 87) C dX0_trulyAgrees_84 rfl 11 (by decide) hinT (by decide +kernel) ?_
        refine j_aload_n (pc' := 88) C dX0_trulyAgrees_87 rfl rfl ?_
        refine jWa (pc' := 91) C dX0_trulyAgrees_88 rfl 3 (by decide) hinT (by decide +kernel) ?_
        refine j_iload_n (pc' := 92) C dX0_trulyAgrees_91 rfl rfl ?_
        refine jWlN (pc' := 93) C dX0_trulyAgrees_92 rfl 3 (by decide) (by decide) i rfl (by unfold lenT; simp; omega) ?_
        refine jWg (pc' := 94) C dX0_trulyAgrees_93 rfl (by decide) (hft i hi1).1 ?_
        refine j_isub (pc' := 95) C dX0_trulyAgrees_94 rfl ?_
        refine j_istore_n (pc' := 96) C dX0_trulyAgrees_95 rfl (by decide) rfl ?_
        refine j_aload_n (pc' := 97) C dX0_trulyAgrees_96 rfl rfl ?_
        refine jWa (pc' := 100) C dX0_trulyAgrees_97 rfl 7 (by decide) hinT (by decide +kernel) ?_
        refine j_iload_n (pc' := 101) C dX0_trulyAgrees_100 rfl rfl ?_
        refine jWlN (pc' := 102) C dX0_trulyAgrees_101 rfl 7 (by decide) (by decide) i rfl (by unfold lenT; simp; omega) ?_
        refine j_if_ne (tgt := 127) (pc' := 105) C dX0_trulyAgrees_102 (by decide) rfl (fun h102 => ?_) (fun h102 => ?_)
        · skip
          refine j_iinc (pc' := 130) C dX0_trulyAgrees_127 rfl 1 (by decide) rfl (by decide) rfl ?_
          refine j_goto (pc' := 64) C dX0_trulyAgrees_130 (by decide) ?_
          rw [nI_1]
          first
            | exact ih (i + 1) _ (by omega) (by rw [← hr, agL, if_neg (fun q => h102 q.1)])
            | exact ih (i + 1) _ (by omega) (by rw [← hr, agL, if_neg (fun q => q.2.elim (fun z => h112 z) (fun z => i32_le_nlt h122 z))])
        · skip
          refine j_iload_n (pc' := 106) C dX0_trulyAgrees_105 rfl rfl ?_
          refine j_aload_n (pc' := 107) C dX0_trulyAgrees_106 rfl rfl ?_
          refine jWa (pc' := 110) C dX0_trulyAgrees_107 rfl 5 (by decide) hinT (by decide +kernel) ?_
          refine j_iload_n (pc' := 111) C dX0_trulyAgrees_110 rfl rfl ?_
          refine jWlN (pc' := 112) C dX0_trulyAgrees_111 rfl 5 (by decide) (by decide) i rfl (by unfold lenT; simp; omega) ?_
          refine j_icmp_lt (tgt := 125) (pc' := 115) C dX0_trulyAgrees_112 (by decide) rfl (fun h112 => ?_) (fun h112 => ?_)
          · skip
            have hbad : agW (settleF t) 64 ((settleF t).2 4 i).toNatClampNeg - agW (settleF t) 64 ((settleF t).2 3 i).toNatClampNeg < (settleF t).2 5 i ∨ (settleF t).2 6 i < agW (settleF t) 64 ((settleF t).2 4 i).toNatClampNeg - agW (settleF t) 64 ((settleF t).2 3 i).toNatClampNeg := Or.inl h112
            refine j_iconst (pc' := 126) C dX0_trulyAgrees_125 rfl 0 (by decide) ?_
            refine j_zreturn _ C dX0_trulyAgrees_126 ?_ ?_
            · exact Or.inl rfl
            · exact ⟨by rw [hag, ← hr, agL, if_pos ⟨h102, hbad⟩], rfl⟩
          · skip
            refine j_iload_n (pc' := 116) C dX0_trulyAgrees_115 rfl rfl ?_
            refine j_aload_n (pc' := 117) C dX0_trulyAgrees_116 rfl rfl ?_
            refine jWa (pc' := 120) C dX0_trulyAgrees_117 rfl 6 (by decide) hinT (by decide +kernel) ?_
            refine j_iload_n (pc' := 121) C dX0_trulyAgrees_120 rfl rfl ?_
            refine jWlN (pc' := 122) C dX0_trulyAgrees_121 rfl 6 (by decide) (by decide) i rfl (by unfold lenT; simp; omega) ?_
            refine j_icmp_le (tgt := 127) (pc' := 125) C dX0_trulyAgrees_122 (by decide) rfl (fun h122 => ?_) (fun h122 => ?_)
            · skip
              refine j_iinc (pc' := 130) C dX0_trulyAgrees_127 rfl 1 (by decide) rfl (by decide) rfl ?_
              refine j_goto (pc' := 64) C dX0_trulyAgrees_130 (by decide) ?_
              rw [nI_1]
              first
                | exact ih (i + 1) _ (by omega) (by rw [← hr, agL, if_neg (fun q => h102 q.1)])
                | exact ih (i + 1) _ (by omega) (by rw [← hr, agL, if_neg (fun q => q.2.elim (fun z => h112 z) (fun z => i32_le_nlt h122 z))])
            · skip
              have hbad : agW (settleF t) 64 ((settleF t).2 4 i).toNatClampNeg - agW (settleF t) 64 ((settleF t).2 3 i).toNatClampNeg < (settleF t).2 5 i ∨ (settleF t).2 6 i < agW (settleF t) 64 ((settleF t).2 4 i).toNatClampNeg - agW (settleF t) 64 ((settleF t).2 3 i).toNatClampNeg := Or.inr (i32_nle h122)
              refine j_iconst (pc' := 126) C dX0_trulyAgrees_125 rfl 0 (by decide) ?_
              refine j_zreturn _ C dX0_trulyAgrees_126 ?_ ?_
              · exact Or.inl rfl
              · exact ⟨by rw [hag, ← hr, agL, if_pos ⟨h102, hbad⟩], rfl⟩
  have loop1 : ∀ (k i : Nat) (x : Option Value), i + k = 64 → J p l e (rmH 4) s m args below meth c 0 0 (RQ below args s D (wT cI B) (fun r u => r = some (.int (agreeF t).1) ∧ u = (agreeF t).2) A) 3 D A 13 [some (.ref (B 0)), some (.int (nI i)), x] [] (wTW cI B (settleF t) 11 (agW (settleF t) i)) := by
    intro k
    induction k with
    | zero =>
      intro i x hi
      have hi2 : i = 64 := by omega
      subst hi2
      refine j_iload_n (pc' := 14) C dX0_trulyAgrees_13 rfl rfl ?_
      refine j_bipush (pc' := 16) C dX0_trulyAgrees_14 rfl 64 (by decide) ?_
      refine j_icmp_ge (tgt := 46) (pc' := 19) C dX0_trulyAgrees_16 (by decide) rfl (fun h16 => ?_) (fun h16 => ?_)
      · skip
        refine j_aload_n (pc' := 47) C dX0_trulyAgrees_46 rfl rfl ?_
        refine jWa (pc' := 50) C dX0_trulyAgrees_47 rfl 11 (by decide) hinT (by decide +kernel) ?_
        refine j_bipush (pc' := 52) C dX0_trulyAgrees_50 rfl 64 (by decide) ?_
        refine jWgN (pc' := 53) C dX0_trulyAgrees_52 rfl (by decide) 64 rfl (by decide) ?_
        refine j_aload_n (pc' := 54) C dX0_trulyAgrees_53 rfl rfl ?_
        refine jWi (pc' := 57) C dX0_trulyAgrees_54 rfl 0 (by unfold isIT; decide) hinT (by decide +kernel) ?_
        refine j_icmp_eq (tgt := 62) (pc' := 60) C dX0_trulyAgrees_57 (by decide) rfl (fun h57 => ?_) (fun h57 => ?_)
        · skip
          refine j_iconst (pc' := 63) C dX0_trulyAgrees_62 rfl 0 (by decide) ?_
          refine j_istore_n (pc' := 64) C dX0_trulyAgrees_63 rfl (by decide) rfl ?_
          exact loop2 h57 N 0 _ (by omega) rfl
        · skip
          refine j_iconst (pc' := 61) C dX0_trulyAgrees_60 rfl 0 (by decide) ?_
          refine j_zreturn _ C dX0_trulyAgrees_61 ?_ ?_
          · exact Or.inl rfl
          · exact ⟨by rw [agreeF]; exact congrArg (fun z => some (Value.int z)) (if_neg h57).symm, rfl⟩
      · skip
        exact absurd (by decide) h16 -- done
    | succ k ih =>
      intro i x hi
      refine j_iload_n (pc' := 14) C dX0_trulyAgrees_13 rfl rfl ?_
      refine j_bipush (pc' := 16) C dX0_trulyAgrees_14 rfl 64 (by decide) ?_
      refine j_icmp_ge (tgt := 46) (pc' := 19) C dX0_trulyAgrees_16 (by decide) rfl (fun h16 => ?_) (fun h16 => ?_)
      · skip
        exact absurd h16 (nI_ge (b := 64) (by omega) (by decide)) -- done
      · skip
        refine j_aload_n (pc' := 20) C dX0_trulyAgrees_19 rfl rfl ?_
        refine jWa (pc' := 23) C dX0_trulyAgrees_20 rfl 11 (by decide) hinT (by decide +kernel) ?_
        refine j_iload_n (pc' := 24) C dX0_trulyAgrees_23 rfl rfl ?_
        refine j_iconst (pc' := 25) C dX0_trulyAgrees_24 rfl 1 (by decide) ?_
        refine j_iadd (pc' := 26) C dX0_trulyAgrees_25 rfl ?_
        refine j_aload_n (pc' := 27) C dX0_trulyAgrees_26 rfl rfl ?_
        refine jWa (pc' := 30) C dX0_trulyAgrees_27 rfl 11 (by decide) hinT (by decide +kernel) ?_
        refine j_iload_n (pc' := 31) C dX0_trulyAgrees_30 rfl rfl ?_
        refine jWgN (pc' := 32) C dX0_trulyAgrees_31 rfl (by decide) i rfl (by unfold lenT; simp; omega) ?_
        refine j_aload_n (pc' := 33) C dX0_trulyAgrees_32 rfl rfl ?_
        refine jWa (pc' := 36) C dX0_trulyAgrees_33 rfl 8 (by decide) hinT (by decide +kernel) ?_
        refine j_iload_n (pc' := 37) C dX0_trulyAgrees_36 rfl rfl ?_
        refine jWlN (pc' := 38) C dX0_trulyAgrees_37 rfl 8 (by decide) (by decide) i rfl (by unfold lenT; simp; omega) ?_
        refine j_iadd (pc' := 39) C dX0_trulyAgrees_38 rfl ?_
        refine jWsN (pc' := 40) C dX0_trulyAgrees_39 rfl (by decide) (i + 1) (nI_1 i) (by unfold lenT; simp; omega) ?_
        refine j_iinc (pc' := 43) C dX0_trulyAgrees_40 rfl 1 (by decide) rfl (by decide) rfl ?_
        refine j_goto (pc' := 13) C dX0_trulyAgrees_43 (by decide) ?_
        rw [agW_s, nI_1]
        exact ih (i + 1) _ (by omega)
  refine j_aload_n (pc' := 1) C dX0_trulyAgrees_0 rfl rfl ?_
  refine jc_same (pc' := 4) C (c_settle l D cI cO B (t) hok) 0 gX0_trulyAgrees_X0_settle rfl (by decide +kernel) (by decide) rfl rfl (by decide) 0 0 rfl rfl (wT_obj cI B _) (fun _ => rfl) dX0_trulyAgrees_1 rfl (fun v1 u1 hp1 => ?_)
  obtain ⟨rfl, rfl⟩ := hp1
  show J p l e _ s m args below meth c 0 0 _ _ D A _ _ [] _
  refine j_aload_n (pc' := 5) C dX0_trulyAgrees_4 rfl rfl ?_
  refine jTa (pc' := 8) C dX0_trulyAgrees_5 rfl 11 (by decide) hinT (by decide +kernel) ?_
  refine j_iconst (pc' := 9) C dX0_trulyAgrees_8 rfl 0 (by decide) ?_
  refine j_iconst (pc' := 10) C dX0_trulyAgrees_9 rfl 0 (by decide) ?_
  refine jTsN (pc' := 11) C dX0_trulyAgrees_10 rfl 11 (by decide) 0 rfl (by decide) ?_
  refine j_iconst (pc' := 12) C dX0_trulyAgrees_11 rfl 0 (by decide) ?_
  refine j_istore_n (pc' := 13) C dX0_trulyAgrees_12 rfl (by decide) rfl ?_
  have hb0 := loop1 64 0 none (by omega)
  unfold wTW at hb0
  rw [← agW_0] at hb0
  exact hb0
  
end
section

/-! the Model of which one array (number w) is worked on: its contents g -/
def wMW (cI : ClassId) (B : Nat → Nat) (t : TS) (w : Nat) (g : Nat → Int32) : va_W := wM cI B (t.1, ua t.2 w g)
theorem wM_addr (cI : ClassId) (B : Nat → Nat) (t u : TS) : (wM cI B u).map Prod.fst = (wM cI B t).map Prod.fst := rfl
section ENW4
variable {p : Program} {l : Launch} {e : Env} {R : Room} {s : State} {m : MethodId} {args : Array Value} {below : List Frame} {meth : Method} {c : Code} {cells slots : Nat} {Q : State → Prop} {n : Nat} {D : va_G} {A : Nat → Prop} {cc : ByteArray} {own : String} {Ts : List Cond} {ret : Option FieldType} {cI cO : ClassId} {pc pc' : Nat} {L : List (Option Value)} {S : List Value} {ws : va_W} {B : Nat → Nat} {t : TS} {w : Nat} {g : Nat → Int32}
theorem jNi {ix : Nat} (C : Cx p R s m args meth c cells slots n D A cc own Ts ret cI cO) (hd : decode cc pc = .ok (.getfield ix, 3)) (hp : pc + 3 = pc') (hin : ∀ w ∈ wsX20, w ∈ Ts) (hm : Cond.fieldLink own ix (TX2 10).1 (TX2 10).2.1 (TX2 10).2.2.1 ∈ Ts)
    (kk : J p l e R s m args below meth c cells slots Q n D A (pc') (L) (.int (t.1 10) :: S) (wMW cI B t w g)) : J p l e R s m args below meth c cells slots Q n D A (pc) (L) (.ref (B 10) :: S) (wMW cI B t w g) := jMi C hd hp hin hm kk
theorem jNa {ix : Nat} (C : Cx p R s m args meth c cells slots n D A cc own Ts ret cI cO) (hd : decode cc pc = .ok (.getfield ix, 3)) (hp : pc + 3 = pc') (k : Nat) (hk : k ≤ 11 ∧ k ≠ 10) (hin : ∀ w ∈ wsX20, w ∈ Ts) (hm : Cond.fieldLink own ix (TX2 k).1 (TX2 k).2.1 (TX2 k).2.2.1 ∈ Ts)
    (kk : J p l e R s m args below meth c cells slots Q n D A (pc') (L) (.ref (B k) :: S) (wMW cI B t w g)) : J p l e R s m args below meth c cells slots Q n D A (pc) (L) (.ref (B 10) :: S) (wMW cI B t w g) := jMa C hd hp k hk hin hm kk
theorem jNl {i : Int32} (C : Cx p R s m args meth c cells slots n D A cc own Ts ret cI cO) (hd : decode cc pc = .ok (.iaload, 1)) (hp : pc + 1 = pc') (k : Nat) (hk : k ≤ 11 ∧ k ≠ 10) (hkw : k ≠ w) (hi : vp_in i (lenM k))
    (kk : J p l e R s m args below meth c cells slots Q n D A (pc') (L) (.int (t.2 k i.toNatClampNeg) :: S) (wMW cI B t w g)) : J p l e R s m args below meth c cells slots Q n D A (pc) (L) (.int i :: .ref (B k) :: S) (wMW cI B t w g) := by
  refine jMl C hd hp k hk hi ?_
  have e0 : (t.1, ua t.2 w g).2 k = t.2 k := ua_n t.2 g hkw
  rw [e0]
  exact kk
theorem jNlN {i : Int32} (C : Cx p R s m args meth c cells slots n D A cc own Ts ret cI cO) (hd : decode cc pc = .ok (.iaload, 1)) (hp : pc + 1 = pc') (k : Nat) (hk : k ≤ 11 ∧ k ≠ 10) (hkw : k ≠ w) (j : Nat) (hj : i = nI j) (hi : j < lenM k)
    (kk : J p l e R s m args below meth c cells slots Q n D A (pc') (L) (.int (t.2 k j) :: S) (wMW cI B t w g)) : J p l e R s m args below meth c cells slots Q n D A (pc) (L) (.int i :: .ref (B k) :: S) (wMW cI B t w g) := by
  refine jMlN C hd hp k hk j hj hi ?_
  have e0 : (t.1, ua t.2 w g).2 k = t.2 k := ua_n t.2 g hkw
  rw [e0]
  exact kk
theorem jNgN {i : Int32} (C : Cx p R s m args meth c cells slots n D A cc own Ts ret cI cO) (hd : decode cc pc = .ok (.iaload, 1)) (hp : pc + 1 = pc') (hk : w ≤ 11 ∧ w ≠ 10) (j : Nat) (hj : i = nI j) (hi : j < lenM w)
    (kk : J p l e R s m args below meth c cells slots Q n D A (pc') (L) (.int (g j) :: S) (wMW cI B t w g)) : J p l e R s m args below meth c cells slots Q n D A (pc) (L) (.int i :: .ref (B w) :: S) (wMW cI B t w g) := by
  refine jMlN C hd hp w hk j hj hi ?_
  have e0 : (t.1, ua t.2 w g).2 w = g := ua_s t.2 w g
  rw [e0]
  exact kk
theorem jNsN {i x : Int32} (C : Cx p R s m args meth c cells slots n D A cc own Ts ret cI cO) (hd : decode cc pc = .ok (.iastore, 1)) (hp : pc + 1 = pc') (hk : w ≤ 11 ∧ w ≠ 10) (j : Nat) (hj : i = nI j) (hi : j < lenM w)
    (kk : J p l e R s m args below meth c cells slots Q n D A (pc') (L) (S) (wMW cI B t w (upd g j x))) : J p l e R s m args below meth c cells slots Q n D A (pc) (L) (.int x :: .int i :: .ref (B w) :: S) (wMW cI B t w g) := by
  refine jMsN C hd hp w hk j hj hi ?_
  have e0 : (t.1, ua t.2 w g).2 w = g := ua_s t.2 w g
  rw [e0]
  show J p l e R s m args below meth c cells slots Q n D A pc' L S (wM cI B (t.1, ua (ua t.2 w g) w _))
  rw [ua_ua]
  exact kk
end ENW4
end
section
/-! the Model: tests of arguments, writes -/
def isInF (v lo hi : Int32) : Int32 := if v < lo then 0 else if hi < v then 0 else 1
def isSpanF (a b : Int32) : Int32 := if a < 0 then 0 else if b < a then 0 else if 64 < b then 0 else 1
theorem isInF_01 (v lo hi : Int32) : isInF v lo hi = 0 ∨ isInF v lo hi = 1 := by
  unfold isInF; (repeat' split) <;> first | exact Or.inl rfl | exact Or.inr rfl
theorem isInF_1 {v lo hi : Int32} (h : ¬ isInF v lo hi = 0) : lo ≤ v ∧ v ≤ hi := by
  unfold isInF at h
  split at h
  · exact absurd rfl h
  · split at h
    · exact absurd rfl h
    · exact ⟨i32_nlt ‹_›, i32_nlt ‹_›⟩
theorem isInF_nI {v : Int32} (k : Nat) (hk : k < 2 ^ 30) (h : ¬ isInF v 0 (nI k) = 0) : ∃ i : Nat, i ≤ k ∧ v = nI i := by
  obtain ⟨h1, h2⟩ := isInF_1 h
  exact nI_of2 (nI_toInt (by omega)) (i32_le_nlt h1) h2
theorem isTb {v : Int32} (h : ¬ isInF v 0 2 = 0) : ∃ i : Nat, i < 3 ∧ v = nI i := by
  obtain ⟨i, h1, h2⟩ := isInF_nI 2 (by decide) h
  exact ⟨i, by omega, h2⟩
theorem isSpanF_1 {a b : Int32} (h : ¬ isSpanF a b = 0) : ∃ i j : Nat, i ≤ j ∧ j ≤ 64 ∧ a = nI i ∧ b = nI j := by
  unfold isSpanF at h
  split at h
  · exact absurd rfl h
  · rename_i h1
    split at h
    · exact absurd rfl h
    · rename_i h2
      split at h
      · exact absurd rfl h
      · rename_i h3
        have h2' := i32_nlt h2
        have h3' := i32_nlt h3
        have h0 : ¬ b < 0 := by
          intro q
          rw [Int32.lt_iff_toInt_lt] at q h1
          rw [Int32.le_iff_toInt_le] at h2'
          omega
        obtain ⟨j, hj, ej⟩ := nI_of2 (M := 64) (n := 64) (by decide) h0 h3'
        subst ej
        obtain ⟨i, hi, ei⟩ := nI_of2 (M := nI j) (n := j) (nI_toInt (by omega)) h1 h2'
        exact ⟨i, j, hi, hj, ei, rfl⟩
set_option maxRecDepth 100000 in
set_option maxHeartbeats 4000000 in
theorem c_isIn (l : Launch) (D : va_G) (cI cO : ClassId) (v lo hi : Int32) : Kt l yX2_isIn wsX2_isIn 0 wN D cI cO (fun _ => True) [.int v, .int lo, .int hi] () (fun r _ => r = some (.int (isInF v lo hi))) := by
  refine Kt_of (cc := cX2_isIn) (n := 3) (ret := some .boolean) rfl (by decide +kernel) (Nat.le_of_ble_eq_true rfl) rfl [some (.int v), some (.int lo), some (.int hi)] rfl ?_
  intro p e s m args below meth c A C _ _
  refine j_iload_n (pc' := 1) C dX2_isIn_0 rfl rfl ?_
  refine j_iload_n (pc' := 2) C dX2_isIn_1 rfl rfl ?_
  refine j_icmp_lt (tgt := 14) (pc' := 5) C dX2_isIn_2 (by decide) rfl (fun h2 => ?_) (fun h2 => ?_)
  · skip
    have hF : isInF v lo hi = 0 := by rw [isInF, if_pos h2]
    refine j_iconst (pc' := 15) C dX2_isIn_14 rfl 0 (by decide) ?_
    refine j_zreturn _ C dX2_isIn_15 ?_ ?_
    · first | exact Or.inl rfl | exact Or.inr rfl
    · show _ = _; rw [hF]
  · skip
    refine j_iload_n (pc' := 6) C dX2_isIn_5 rfl rfl ?_
    refine j_iload_n (pc' := 7) C dX2_isIn_6 rfl rfl ?_
    refine j_icmp_gt (tgt := 14) (pc' := 10) C dX2_isIn_7 (by decide) rfl (fun h7 => ?_) (fun h7 => ?_)
    · skip
      have hF : isInF v lo hi = 0 := by rw [isInF, if_neg h2, if_pos h7]
      refine j_iconst (pc' := 15) C dX2_isIn_14 rfl 0 (by decide) ?_
      refine j_zreturn _ C dX2_isIn_15 ?_ ?_
      · first | exact Or.inl rfl | exact Or.inr rfl
      · show _ = _; rw [hF]
    · skip
      have hF : isInF v lo hi = 1 := by rw [isInF, if_neg h2, if_neg h7]
      refine j_iconst (pc' := 11) C dX2_isIn_10 rfl 1 (by decide) ?_
      refine j_goto (pc' := 15) C dX2_isIn_11 (by decide) ?_
      refine j_zreturn _ C dX2_isIn_15 ?_ ?_
      · first | exact Or.inl rfl | exact Or.inr rfl
      · show _ = _; rw [hF]
set_option maxRecDepth 100000 in
set_option maxHeartbeats 4000000 in
theorem c_isTable (l : Launch) (D : va_G) (cI cO : ClassId) (v : Int32) : Kt l yX2_isTable wsX2_isTable 1 wN D cI cO (fun _ => True) [.int v] () (fun r _ => r = some (.int (isInF v 0 2))) := by
  refine Kt_of (cc := cX2_isTable) (n := 1) (ret := some .boolean) rfl (by decide +kernel) (Nat.le_of_ble_eq_true rfl) rfl [some (.int v)] rfl ?_
  intro p e s m args below meth c A C _ _
  refine j_iload_n (pc' := 1) C dX2_isTable_0 rfl rfl ?_
  refine j_iconst (pc' := 2) C dX2_isTable_1 rfl 0 (by decide) ?_
  refine j_iconst (pc' := 3) C dX2_isTable_2 rfl 2 (by decide) ?_
  refine jc_nil (pc' := 6) C (c_isIn l D cI cO _ _ _) 3 gX2_isTable_X2_isIn rfl (by decide +kernel) (by decide) rfl rfl (Nat.le_of_ble_eq_true rfl) dX2_isTable_3 rfl (fun v1 hp1 => ?_)
  subst hp1
  show J p l e _ s m args below meth c 0 0 _ _ D A _ _ [_] _
  refine j_zreturn _ C dX2_isTable_6 ?_ ?_
  · exact isInF_01 _ _ _
  · rfl
  
set_option maxRecDepth 100000 in
set_option maxHeartbeats 4000000 in
theorem c_isSpanM (l : Launch) (D : va_G) (cI cO : ClassId) (a b : Int32) : Kt l yX2_isSpan wsX2_isSpan 0 wN D cI cO (fun _ => True) [.int a, .int b] () (fun r _ => r = some (.int (isSpanF a b))) := by
  refine Kt_of (cc := cX2_isSpan) (n := 2) (ret := some .boolean) rfl (by decide +kernel) (Nat.le_of_ble_eq_true rfl) rfl [some (.int a), some (.int b)] rfl ?_
  intro p e s m args below meth c A C _ _
  refine j_iload_n (pc' := 1) C dX2_isSpan_0 rfl rfl ?_
  refine j_if_lt (tgt := 19) (pc' := 4) C dX2_isSpan_1 (by decide) rfl (fun h1 => ?_) (fun h1 => ?_)
  · skip
    have hF : isSpanF a b = 0 := by rw [isSpanF, if_pos h1]
    refine j_iconst (pc' := 20) C dX2_isSpan_19 rfl 0 (by decide) ?_
    refine j_zreturn _ C dX2_isSpan_20 ?_ ?_
    · first | exact Or.inl rfl | exact Or.inr rfl
    · show _ = _; rw [hF]
  · skip
    refine j_iload_n (pc' := 5) C dX2_isSpan_4 rfl rfl ?_
    refine j_iload_n (pc' := 6) C dX2_isSpan_5 rfl rfl ?_
    refine j_icmp_gt (tgt := 19) (pc' := 9) C dX2_isSpan_6 (by decide) rfl (fun h6 => ?_) (fun h6 => ?_)
    · skip
      have hF : isSpanF a b = 0 := by rw [isSpanF, if_neg h1, if_pos h6]
      refine j_iconst (pc' := 20) C dX2_isSpan_19 rfl 0 (by decide) ?_
      refine j_zreturn _ C dX2_isSpan_20 ?_ ?_
      · first | exact Or.inl rfl | exact Or.inr rfl
      · show _ = _; rw [hF]
    · skip
      refine j_iload_n (pc' := 10) C dX2_isSpan_9 rfl rfl ?_
      refine j_bipush (pc' := 12) C dX2_isSpan_10 rfl 64 (by decide) ?_
      refine j_icmp_gt (tgt := 19) (pc' := 15) C dX2_isSpan_12 (by decide) rfl (fun h12 => ?_) (fun h12 => ?_)
      · skip
        have hF : isSpanF a b = 0 := by rw [isSpanF, if_neg h1, if_neg h6, if_pos h12]
        refine j_iconst (pc' := 20) C dX2_isSpan_19 rfl 0 (by decide) ?_
        refine j_zreturn _ C dX2_isSpan_20 ?_ ?_
        · first | exact Or.inl rfl | exact Or.inr rfl
        · show _ = _; rw [hF]
      · skip
        have hF : isSpanF a b = 1 := by rw [isSpanF, if_neg h1, if_neg h6, if_neg h12]
        refine j_iconst (pc' := 16) C dX2_isSpan_15 rfl 1 (by decide) ?_
        refine j_goto (pc' := 20) C dX2_isSpan_16 (by decide) ?_
        refine j_zreturn _ C dX2_isSpan_20 ?_ ?_
        · first | exact Or.inl rfl | exact Or.inr rfl
        · show _ = _; rw [hF]
def mRows (t : TS) (tb many : Int32) : Int32 × TS := if isInF tb 0 2 = 0 ∨ isInF many 0 1000000 = 0 then (0, t) else (1, (upd t.1 10 (-1), ua (ua t.2 0 (upd (t.2 0) tb.toNatClampNeg many)) 1 (upd (t.2 1) tb.toNatClampNeg 0)))
def mRoom (t : TS) (tb many : Int32) : Int32 × TS := if isInF tb 0 2 = 0 ∨ isInF many 1 40 = 0 then (0, t) else (1, (upd t.1 10 (-1), ua t.2 2 (upd (t.2 2) tb.toNatClampNeg many)))
def mTruth (t : TS) (tb v many : Int32) : Int32 × TS := if isInF tb 0 2 = 0 ∨ isInF v 0 63 = 0 ∨ isInF many 0 100000 = 0 then (0, t) else (1, (t.1, ua t.2 8 (upd (t.2 8) (64 * tb.toNatClampNeg + v.toNatClampNeg) many)))
set_option maxRecDepth 100000 in
set_option maxHeartbeats 4000000 in
theorem c_Mrows (l : Launch) (D : va_G) (cI cO : ClassId) (B : Nat → Nat) (t : TS) (tb many : Int32) : Kt l yX2_rows wsX2_rows 2 (wM cI B) D cI cO (fun _ => True) [.ref (B 10), .int tb, .int many] t (fun r u => r = some (.int (mRows t tb many).1) ∧ u = (mRows t tb many).2) := by
  refine Kt_of (cc := cX2_rows) (n := 3) (ret := some .boolean) rfl (by decide +kernel) (Nat.le_of_ble_eq_true rfl) rfl [some (.ref (B 10)), some (.int tb), some (.int many)] rfl ?_
  intro p e s m args below meth c A C _ _
  have hinM : ∀ w ∈ wsX20, w ∈ wsX2_rows := by decide +kernel
  refine j_iload_n (pc' := 1) C dX2_rows_0 rfl rfl ?_
  refine jc_nil (pc' := 4) C (c_isTable l D cI cO _) 1 gX2_rows_X2_isTable rfl (by decide +kernel) (by decide) rfl rfl (Nat.le_of_ble_eq_true rfl) dX2_rows_1 rfl (fun v1 hp1 => ?_)
  subst hp1
  show J p l e _ s m args below meth c 0 0 _ _ D A _ _ [_] _
  refine j_if_eq (tgt := 17) (pc' := 7) C dX2_rows_4 (by decide) rfl (fun h4 => ?_) (fun h4 => ?_)
  · skip
    have hF : mRows t tb many = (0, t) := by rw [mRows, if_pos (Or.inl h4)]
    refine j_iconst (pc' := 18) C dX2_rows_17 rfl 0 (by decide) ?_
    refine j_zreturn _ C dX2_rows_18 ?_ ?_
    · exact Or.inl rfl
    · exact ⟨by rw [hF] <;> rfl, by rw [hF] <;> rfl⟩
  · skip
    refine j_iload_n (pc' := 8) C dX2_rows_7 rfl rfl ?_
    refine j_iconst (pc' := 9) C dX2_rows_8 rfl 0 (by decide) ?_
    refine j_ldc (pc' := 11) C dX2_rows_9 rfl 1000000 (by decide +kernel) ?_
    refine jc_nil (pc' := 14) C (c_isIn l D cI cO _ _ _) 3 gX2_rows_X2_isIn rfl (by decide +kernel) (by decide) rfl rfl (Nat.le_of_ble_eq_true rfl) dX2_rows_11 rfl (fun v1 hp1 => ?_)
    subst hp1
    show J p l e _ s m args below meth c 0 0 _ _ D A _ _ [_] _
    refine j_if_ne (tgt := 19) (pc' := 17) C dX2_rows_14 (by decide) rfl (fun h14 => ?_) (fun h14 => ?_)
    · skip
      have hF : mRows t tb many = (1, (upd t.1 10 (-1), ua (ua t.2 0 (upd (t.2 0) tb.toNatClampNeg many)) 1 (upd (t.2 1) tb.toNatClampNeg 0))) := by rw [mRows, if_neg (fun q => q.elim h4 h14)]
      obtain ⟨i, hi, rfl⟩ := isTb h4
      rw [nI_clamp (by omega)] at hF
      refine j_aload_n (pc' := 20) C dX2_rows_19 rfl rfl ?_
      refine j_iconst (pc' := 21) C dX2_rows_20 rfl (-1) (by decide) ?_
      refine jMp (pc' := 24) C dX2_rows_21 rfl hinM (by decide +kernel) ?_
      refine j_aload_n (pc' := 25) C dX2_rows_24 rfl rfl ?_
      refine jMa (pc' := 28) C dX2_rows_25 rfl 0 (by decide) hinM (by decide +kernel) ?_
      refine j_iload_n (pc' := 29) C dX2_rows_28 rfl rfl ?_
      refine j_iload_n (pc' := 30) C dX2_rows_29 rfl rfl ?_
      refine jMsN (pc' := 31) C dX2_rows_30 rfl 0 (by decide) i rfl (by unfold lenM; simp; omega) ?_
      refine j_aload_n (pc' := 32) C dX2_rows_31 rfl rfl ?_
      refine jMa (pc' := 35) C dX2_rows_32 rfl 1 (by decide) hinM (by decide +kernel) ?_
      refine j_iload_n (pc' := 36) C dX2_rows_35 rfl rfl ?_
      refine j_iconst (pc' := 37) C dX2_rows_36 rfl 0 (by decide) ?_
      refine jMsN (pc' := 38) C dX2_rows_37 rfl 1 (by decide) i rfl (by unfold lenM; simp; omega) ?_
      refine j_iconst (pc' := 39) C dX2_rows_38 rfl 1 (by decide) ?_
      refine j_zreturn _ C dX2_rows_39 ?_ ?_
      · exact Or.inr rfl
      · exact ⟨by rw [hF] <;> rfl, by rw [hF] <;> rfl⟩
    · skip
      have hF : mRows t tb many = (0, t) := by rw [mRows, if_pos (Or.inr h14)]
      refine j_iconst (pc' := 18) C dX2_rows_17 rfl 0 (by decide) ?_
      refine j_zreturn _ C dX2_rows_18 ?_ ?_
      · exact Or.inl rfl
      · exact ⟨by rw [hF] <;> rfl, by rw [hF] <;> rfl⟩
    
  
set_option maxRecDepth 100000 in
set_option maxHeartbeats 4000000 in
theorem c_Mroom (l : Launch) (D : va_G) (cI cO : ClassId) (B : Nat → Nat) (t : TS) (tb many : Int32) : Kt l yX2_room wsX2_room 2 (wM cI B) D cI cO (fun _ => True) [.ref (B 10), .int tb, .int many] t (fun r u => r = some (.int (mRoom t tb many).1) ∧ u = (mRoom t tb many).2) := by
  refine Kt_of (cc := cX2_room) (n := 3) (ret := some .boolean) rfl (by decide +kernel) (Nat.le_of_ble_eq_true rfl) rfl [some (.ref (B 10)), some (.int tb), some (.int many)] rfl ?_
  intro p e s m args below meth c A C _ _
  have hinM : ∀ w ∈ wsX20, w ∈ wsX2_room := by decide +kernel
  refine j_iload_n (pc' := 1) C dX2_room_0 rfl rfl ?_
  refine jc_nil (pc' := 4) C (c_isTable l D cI cO _) 1 gX2_room_X2_isTable rfl (by decide +kernel) (by decide) rfl rfl (Nat.le_of_ble_eq_true rfl) dX2_room_1 rfl (fun v1 hp1 => ?_)
  subst hp1
  show J p l e _ s m args below meth c 0 0 _ _ D A _ _ [_] _
  refine j_if_eq (tgt := 17) (pc' := 7) C dX2_room_4 (by decide) rfl (fun h4 => ?_) (fun h4 => ?_)
  · skip
    have hF : mRoom t tb many = (0, t) := by rw [mRoom, if_pos (Or.inl h4)]
    refine j_iconst (pc' := 18) C dX2_room_17 rfl 0 (by decide) ?_
    refine j_zreturn _ C dX2_room_18 ?_ ?_
    · exact Or.inl rfl
    · exact ⟨by rw [hF] <;> rfl, by rw [hF] <;> rfl⟩
  · skip
    refine j_iload_n (pc' := 8) C dX2_room_7 rfl rfl ?_
    refine j_iconst (pc' := 9) C dX2_room_8 rfl 1 (by decide) ?_
    refine j_bipush (pc' := 11) C dX2_room_9 rfl 40 (by decide) ?_
    refine jc_nil (pc' := 14) C (c_isIn l D cI cO _ _ _) 3 gX2_room_X2_isIn rfl (by decide +kernel) (by decide) rfl rfl (Nat.le_of_ble_eq_true rfl) dX2_room_11 rfl (fun v1 hp1 => ?_)
    subst hp1
    show J p l e _ s m args below meth c 0 0 _ _ D A _ _ [_] _
    refine j_if_ne (tgt := 19) (pc' := 17) C dX2_room_14 (by decide) rfl (fun h14 => ?_) (fun h14 => ?_)
    · skip
      have hF : mRoom t tb many = (1, (upd t.1 10 (-1), ua t.2 2 (upd (t.2 2) tb.toNatClampNeg many))) := by rw [mRoom, if_neg (fun q => q.elim h4 h14)]
      obtain ⟨i, hi, rfl⟩ := isTb h4
      rw [nI_clamp (by omega)] at hF
      refine j_aload_n (pc' := 20) C dX2_room_19 rfl rfl ?_
      refine j_iconst (pc' := 21) C dX2_room_20 rfl (-1) (by decide) ?_
      refine jMp (pc' := 24) C dX2_room_21 rfl hinM (by decide +kernel) ?_
      refine j_aload_n (pc' := 25) C dX2_room_24 rfl rfl ?_
      refine jMa (pc' := 28) C dX2_room_25 rfl 2 (by decide) hinM (by decide +kernel) ?_
      refine j_iload_n (pc' := 29) C dX2_room_28 rfl rfl ?_
      refine j_iload_n (pc' := 30) C dX2_room_29 rfl rfl ?_
      refine jMsN (pc' := 31) C dX2_room_30 rfl 2 (by decide) i rfl (by unfold lenM; simp; omega) ?_
      refine j_iconst (pc' := 32) C dX2_room_31 rfl 1 (by decide) ?_
      refine j_zreturn _ C dX2_room_32 ?_ ?_
      · exact Or.inr rfl
      · exact ⟨by rw [hF] <;> rfl, by rw [hF] <;> rfl⟩
    · skip
      have hF : mRoom t tb many = (0, t) := by rw [mRoom, if_pos (Or.inr h14)]
      refine j_iconst (pc' := 18) C dX2_room_17 rfl 0 (by decide) ?_
      refine j_zreturn _ C dX2_room_18 ?_ ?_
      · exact Or.inl rfl
      · exact ⟨by rw [hF] <;> rfl, by rw [hF] <;> rfl⟩
    
  
set_option maxRecDepth 100000 in
set_option maxHeartbeats 4000000 in
theorem c_Mtruth (l : Launch) (D : va_G) (cI cO : ClassId) (B : Nat → Nat) (t : TS) (tb v many : Int32) : Kt l yX2_truth wsX2_truth 2 (wM cI B) D cI cO (fun _ => True) [.ref (B 10), .int tb, .int v, .int many] t (fun r u => r = some (.int (mTruth t tb v many).1) ∧ u = (mTruth t tb v many).2) := by
  refine Kt_of (cc := cX2_truth) (n := 4) (ret := some .boolean) rfl (by decide +kernel) (Nat.le_of_ble_eq_true rfl) rfl [some (.ref (B 10)), some (.int tb), some (.int v), some (.int many)] rfl ?_
  intro p e s m args below meth c A C _ _
  have hinM : ∀ w ∈ wsX20, w ∈ wsX2_truth := by decide +kernel
  refine j_iload_n (pc' := 1) C dX2_truth_0 rfl rfl ?_
  refine jc_nil (pc' := 4) C (c_isTable l D cI cO _) 1 gX2_truth_X2_isTable rfl (by decide +kernel) (by decide) rfl rfl (Nat.le_of_ble_eq_true rfl) dX2_truth_1 rfl (fun v1 hp1 => ?_)
  subst hp1
  show J p l e _ s m args below meth c 0 0 _ _ D A _ _ [_] _
  refine j_if_eq (tgt := 27) (pc' := 7) C dX2_truth_4 (by decide) rfl (fun h4 => ?_) (fun h4 => ?_)
  · skip
    have hF : mTruth t tb v many = (0, t) := by rw [mTruth, if_pos (Or.inl h4)]
    refine j_iconst (pc' := 28) C dX2_truth_27 rfl 0 (by decide) ?_
    refine j_zreturn _ C dX2_truth_28 ?_ ?_
    · exact Or.inl rfl
    · exact ⟨by rw [hF] <;> rfl, by rw [hF] <;> rfl⟩
  · skip
    refine j_iload_n (pc' := 8) C dX2_truth_7 rfl rfl ?_
    refine j_iconst (pc' := 9) C dX2_truth_8 rfl 0 (by decide) ?_
    refine j_bipush (pc' := 11) C dX2_truth_9 rfl 63 (by decide) ?_
    refine jc_nil (pc' := 14) C (c_isIn l D cI cO _ _ _) 3 gX2_truth_X2_isIn rfl (by decide +kernel) (by decide) rfl rfl (Nat.le_of_ble_eq_true rfl) dX2_truth_11 rfl (fun v1 hp1 => ?_)
    subst hp1
    show J p l e _ s m args below meth c 0 0 _ _ D A _ _ [_] _
    refine j_if_eq (tgt := 27) (pc' := 17) C dX2_truth_14 (by decide) rfl (fun h14 => ?_) (fun h14 => ?_)
    · skip
      have hF : mTruth t tb v many = (0, t) := by rw [mTruth, if_pos (Or.inr (Or.inl h14))]
      refine j_iconst (pc' := 28) C dX2_truth_27 rfl 0 (by decide) ?_
      refine j_zreturn _ C dX2_truth_28 ?_ ?_
      · exact Or.inl rfl
      · exact ⟨by rw [hF] <;> rfl, by rw [hF] <;> rfl⟩
    · skip
      refine j_iload_n (pc' := 18) C dX2_truth_17 rfl rfl ?_
      refine j_iconst (pc' := 19) C dX2_truth_18 rfl 0 (by decide) ?_
      refine j_ldc (pc' := 21) C dX2_truth_19 rfl 100000 (by decide +kernel) ?_
      refine jc_nil (pc' := 24) C (c_isIn l D cI cO _ _ _) 3 gX2_truth_X2_isIn rfl (by decide +kernel) (by decide) rfl rfl (Nat.le_of_ble_eq_true rfl) dX2_truth_21 rfl (fun v1 hp1 => ?_)
      subst hp1
      show J p l e _ s m args below meth c 0 0 _ _ D A _ _ [_] _
      refine j_if_ne (tgt := 29) (pc' := 27) C dX2_truth_24 (by decide) rfl (fun h24 => ?_) (fun h24 => ?_)
      · skip
        have hF : mTruth t tb v many = (1, (t.1, ua t.2 8 (upd (t.2 8) (64 * tb.toNatClampNeg + v.toNatClampNeg) many))) := by rw [mTruth, if_neg (fun q => q.elim h4 (fun q => q.elim h14 h24))]
        obtain ⟨i, hi, rfl⟩ := isTb h4
        obtain ⟨vi, hvi, rfl⟩ := isInF_nI 63 (by decide) h14
        rw [nI_clamp (show i < 2 ^ 31 by omega), nI_clamp (show vi < 2 ^ 31 by omega)] at hF
        have ei : (64 : Int32) * nI i + nI vi = nI (64 * i + vi) := by rw [show (64 : Int32) * nI i = nI (64 * i) from pk_mul 64 i, nI_add]
        refine j_aload_n (pc' := 30) C dX2_truth_29 rfl rfl ?_
        refine jMa (pc' := 33) C dX2_truth_30 rfl 8 (by decide) hinM (by decide +kernel) ?_
        refine j_bipush (pc' := 35) C dX2_truth_33 rfl 64 (by decide) ?_
        refine j_iload_n (pc' := 36) C dX2_truth_35 rfl rfl ?_
        refine j_imul (pc' := 37) C dX2_truth_36 rfl ?_
        refine j_iload_n (pc' := 38) C dX2_truth_37 rfl rfl ?_
        refine j_iadd (pc' := 39) C dX2_truth_38 rfl ?_
        refine j_iload_n (pc' := 40) C dX2_truth_39 rfl rfl ?_
        refine jMsN (pc' := 41) C dX2_truth_40 rfl 8 (by decide) (64 * i + vi) ei (by unfold lenM; simp; omega) ?_
        refine j_iconst (pc' := 42) C dX2_truth_41 rfl 1 (by decide) ?_
        refine j_zreturn _ C dX2_truth_42 ?_ ?_
        · exact Or.inr rfl
        · exact ⟨by rw [hF] <;> rfl, by rw [hF] <;> rfl⟩
      · skip
        have hF : mTruth t tb v many = (0, t) := by rw [mTruth, if_pos (Or.inr (Or.inr h24))]
        refine j_iconst (pc' := 28) C dX2_truth_27 rfl 0 (by decide) ?_
        refine j_zreturn _ C dX2_truth_28 ?_ ?_
        · exact Or.inl rfl
        · exact ⟨by rw [hF] <;> rfl, by rw [hF] <;> rfl⟩
      
    
  
def okM (t : TS) : Prop := ∀ i, i < 3 → vp_in (t.2 1 i) 41 ∧ ∀ s, s < (t.2 1 i).toNatClampNeg → vp_in (t.2 3 (40 * i + s)) 65 ∧ vp_in (t.2 4 (40 * i + s)) 65
def mapR (v : Int32 → Int32) (f : Nat → Int32) (lo n : Nat) : Nat → Int32 := fun j => if lo ≤ j ∧ j < lo + n then v (f j) else f j
theorem mapR_0 (v : Int32 → Int32) (f : Nat → Int32) (lo : Nat) : mapR v f lo 0 = f := by
  funext j; unfold mapR; rw [if_neg (by omega)]
theorem mapR_at (v : Int32 → Int32) (f : Nat → Int32) (lo i : Nat) : mapR v f lo i (lo + i) = f (lo + i) := by
  unfold mapR; rw [if_neg (by omega)]
theorem mapR_s (v : Int32 → Int32) (f : Nat → Int32) (lo i : Nat) : upd (mapR v f lo i) (lo + i) (v (f (lo + i))) = mapR v f lo (i + 1) := by
  funext j
  unfold upd mapR
  by_cases h : j = lo + i
  · subst h; rw [if_pos rfl, if_pos (by omega)]
  · by_cases h2 : lo ≤ j ∧ j < lo + i
    · rw [if_neg h, if_pos h2, if_pos (by omega)]
    · rw [if_neg h, if_neg h2, if_neg (by omega)]
theorem mapR_k (v : Int32 → Int32) (f : Nat → Int32) (lo i : Nat) (h : v (f (lo + i)) = f (lo + i)) : mapR v f lo i = mapR v f lo (i + 1) := by
  rw [← mapR_s, h]
  funext j
  unfold upd
  by_cases hj : j = lo + i
  · subst hj; rw [if_pos rfl, mapR_at]
  · rw [if_neg hj]
def mgrowV (x many : Int32) : Int32 := if x = 1000001 then x else (if x + many < 1000000 then x + many else 1000000)
def mshrV (x many : Int32) : Int32 := if 0 < x - many then x - many else 0
def mPut (t : TS) (tb many : Int32) : Int32 × TS := if isInF tb 0 2 = 0 ∨ isInF many 1 (1000000 - t.2 0 tb.toNatClampNeg) = 0 then (-1, t) else (t.2 0 tb.toNatClampNeg + many, (upd t.1 10 (-1), ua (ua t.2 0 (upd (t.2 0) tb.toNatClampNeg (t.2 0 tb.toNatClampNeg + many))) 6 (mapR (fun x => mgrowV x many) (t.2 6) (40 * tb.toNatClampNeg) (t.2 1 tb.toNatClampNeg).toNatClampNeg)))
def mStrike (t : TS) (tb many : Int32) : Int32 × TS := if isInF tb 0 2 = 0 ∨ isInF many 1 (t.2 0 tb.toNatClampNeg) = 0 then (-1, t) else (t.2 0 tb.toNatClampNeg - many, (upd t.1 10 (-1), ua (ua t.2 0 (upd (t.2 0) tb.toNatClampNeg (t.2 0 tb.toNatClampNeg - many))) 5 (mapR (fun x => mshrV x many) (t.2 5) (40 * tb.toNatClampNeg) (t.2 1 tb.toNatClampNeg).toNatClampNeg)))
set_option maxRecDepth 100000 in
set_option maxHeartbeats 4000000 in
theorem c_Mput (l : Launch) (D : va_G) (cI cO : ClassId) (B : Nat → Nat) (t : TS) (hok : okM t) (tb many : Int32) : Kt l yX2_put wsX2_put 2 (wM cI B) D cI cO (fun _ => True) [.ref (B 10), .int tb, .int many] t (fun r u => r = some (.int (mPut t tb many).1) ∧ u = (mPut t tb many).2) := by
  refine Kt_of (cc := cX2_put) (n := 4) (ret := some .int) rfl (by decide +kernel) (Nat.le_of_ble_eq_true rfl) rfl [some (.ref (B 10)), some (.int tb), some (.int many), none] rfl ?_
  intro p e s m args below meth c A C _ _
  have hinM : ∀ w ∈ wsX20, w ∈ wsX2_put := by decide +kernel
  refine j_iload_n (pc' := 1) C dX2_put_0 rfl rfl ?_
  refine jc_nil (pc' := 4) C (c_isTable l D cI cO _) 1 gX2_put_X2_isTable rfl (by decide +kernel) (by decide) rfl rfl (Nat.le_of_ble_eq_true rfl) dX2_put_1 rfl (fun v1 hp1 => ?_)
  subst hp1
  show J p l e _ s m args below meth c 0 0 _ _ D A _ _ [_] _
  refine j_if_eq (tgt := 24) (pc' := 7) C dX2_put_4 (by decide) rfl (fun h4 => ?_) (fun h4 => ?_)
  · skip
    have hF : mPut t tb many = (-1, t) := by rw [mPut, if_pos (Or.inl h4)]
    refine j_iconst (pc' := 25) C dX2_put_24 rfl (-1) (by decide) ?_
    refine j_ireturn _ C dX2_put_25 ?_
    exact ⟨by rw [hF] <;> rfl, by rw [hF] <;> rfl⟩
  · skip
    obtain ⟨i, hi, rfl⟩ := isTb h4
    refine j_iload_n (pc' := 8) C dX2_put_7 rfl rfl ?_
    refine j_iconst (pc' := 9) C dX2_put_8 rfl 1 (by decide) ?_
    refine j_ldc (pc' := 11) C dX2_put_9 rfl 1000000 (by decide +kernel) ?_
    refine j_aload_n (pc' := 12) C dX2_put_11 rfl rfl ?_
    refine jMa (pc' := 15) C dX2_put_12 rfl 0 (by decide) hinM (by decide +kernel) ?_
    refine j_iload_n (pc' := 16) C dX2_put_15 rfl rfl ?_
    refine jMlN (pc' := 17) C dX2_put_16 rfl 0 (by decide) i rfl (by unfold lenM; simp; omega) ?_
    refine j_isub (pc' := 18) C dX2_put_17 rfl ?_
    refine jc_nil (pc' := 21) C (c_isIn l D cI cO _ _ _) 3 gX2_put_X2_isIn rfl (by decide +kernel) (by decide) rfl rfl (Nat.le_of_ble_eq_true rfl) dX2_put_18 rfl (fun v1 hp1 => ?_)
    subst hp1
    show J p l e _ s m args below meth c 0 0 _ _ D A _ _ [_] _
    refine j_if_ne (tgt := 26) (pc' := 24) C dX2_put_21 (by decide) rfl (fun h21 => ?_) (fun h21 => ?_)
    · skip
      refine j_aload_n (pc' := 27) C dX2_put_26 rfl rfl ?_
      refine j_iconst (pc' := 28) C dX2_put_27 rfl (-1) (by decide) ?_
      refine jMp (pc' := 31) C dX2_put_28 rfl hinM (by decide +kernel) ?_
      refine j_aload_n (pc' := 32) C dX2_put_31 rfl rfl ?_
      refine jMa (pc' := 35) C dX2_put_32 rfl 0 (by decide) hinM (by decide +kernel) ?_
      refine j_iload_n (pc' := 36) C dX2_put_35 rfl rfl ?_
      refine j_dup2 (pc' := 37) C dX2_put_36 rfl rfl rfl ?_
      refine jMlN (pc' := 38) C dX2_put_37 rfl 0 (by decide) i rfl (by unfold lenM; simp; omega) ?_
      refine j_iload_n (pc' := 39) C dX2_put_38 rfl rfl ?_
      refine j_iadd (pc' := 40) C dX2_put_39 rfl ?_
      refine jMsN (pc' := 41) C dX2_put_40 rfl 0 (by decide) i rfl (by unfold lenM; simp; omega) ?_
      refine j_bipush (pc' := 43) C dX2_put_41 rfl 40 (by decide) ?_
      refine j_iload_n (pc' := 44) C dX2_put_43 rfl rfl ?_
      refine j_imul (pc' := 45) C dX2_put_44 rfl ?_
      refine j_istore_n (pc' := 46) C dX2_put_45 rfl (by decide) rfl ?_
      have hc2 : ¬ isInF many 1 (1000000 - t.2 0 (nI i).toNatClampNeg) = 0 := by rw [nI_clamp (by omega)]; exact h21
      obtain ⟨en, hn41⟩ := vp_in_c (hok i hi).1 (by decide)
      have hF : mPut t (nI i) many = (t.2 0 i + many, (upd t.1 10 (-1), ua (ua t.2 0 (upd (t.2 0) i (t.2 0 i + many))) 6 (mapR (fun x => mgrowV x many) (t.2 6) (40 * i) (t.2 1 i).toNatClampNeg))) := by
        rw [mPut, if_neg (fun q => q.elim h4 hc2), nI_clamp (by omega)]
      generalize hN : (t.2 1 i).toNatClampNeg = N at en hn41 hF
      have ebd : (40 : Int32) * nI i + t.2 1 i = nI (40 * i + N) := by rw [en, show (40 : Int32) * nI i = nI (40 * i) from pk_mul 40 i, nI_add]
      have loop : ∀ (k j : Nat), j + k = N → J p l e (rmH 2) s m args below meth c 0 0 (RQ below args s D (wM cI B) (fun r u => r = some (.int (mPut t (nI i) many).1) ∧ u = (mPut t (nI i) many).2) A) 4 D A 46 [some (.ref (B 10)), some (.int (nI i)), some (.int many), some (.int (nI (40 * i + j)))] [] (wMW cI B (upd t.1 10 (-1), ua t.2 0 (upd (t.2 0) i (t.2 0 i + many))) 6 (mapR (fun x => mgrowV x many) (t.2 6) (40 * i) j)) := by
        intro k
        induction k with
        | zero =>
          intro j hj
          have hj2 : j = N := by omega
          subst hj2
          refine j_iload_n (pc' := 47) C dX2_put_46 rfl rfl ?_
          refine j_bipush (pc' := 49) C dX2_put_47 rfl 40 (by decide) ?_
          refine j_iload_n (pc' := 50) C dX2_put_49 rfl rfl ?_
          refine j_imul (pc' := 51) C dX2_put_50 rfl ?_
          refine j_aload_n (pc' := 52) C dX2_put_51 rfl rfl ?_
          refine jNa (pc' := 55) C dX2_put_52 rfl 1 (by decide) hinM (by decide +kernel) ?_
          refine j_iload_n (pc' := 56) C dX2_put_55 rfl rfl ?_
          refine jNlN (pc' := 57) C dX2_put_56 rfl 1 (by decide) (by decide) i rfl (by unfold lenM; simp; omega) ?_
          refine j_iadd (pc' := 58) C dX2_put_57 rfl ?_
          refine j_icmp_ge (tgt := 97) (pc' := 61) C dX2_put_58 (by decide) rfl (fun h58 => ?_) (fun h58 => ?_)
          · skip
            refine j_aload_n (pc' := 98) C dX2_put_97 rfl rfl ?_
            refine jNa (pc' := 101) C dX2_put_98 rfl 0 (by decide) hinM (by decide +kernel) ?_
            refine j_iload_n (pc' := 102) C dX2_put_101 rfl rfl ?_
            refine jNlN (pc' := 103) C dX2_put_102 rfl 0 (by decide) (by decide) i rfl (by unfold lenM; simp; omega) ?_
            refine j_ireturn _ C dX2_put_103 ?_
            refine ⟨?_, by rw [hF] <;> rfl⟩
            rw [hF]
            show some (Value.int (upd (t.2 0) i _ i)) = _
            rw [pk_us]
          · skip
            exact absurd (by show (40 : Int32) * nI i + t.2 1 i ≤ _; rw [ebd]; exact nI_le (Nat.le_refl _) (by omega)) h58 -- done
        | succ k ih =>
          intro j hj
          refine j_iload_n (pc' := 47) C dX2_put_46 rfl rfl ?_
          refine j_bipush (pc' := 49) C dX2_put_47 rfl 40 (by decide) ?_
          refine j_iload_n (pc' := 50) C dX2_put_49 rfl rfl ?_
          refine j_imul (pc' := 51) C dX2_put_50 rfl ?_
          refine j_aload_n (pc' := 52) C dX2_put_51 rfl rfl ?_
          refine jNa (pc' := 55) C dX2_put_52 rfl 1 (by decide) hinM (by decide +kernel) ?_
          refine j_iload_n (pc' := 56) C dX2_put_55 rfl rfl ?_
          refine jNlN (pc' := 57) C dX2_put_56 rfl 1 (by decide) (by decide) i rfl (by unfold lenM; simp; omega) ?_
          refine j_iadd (pc' := 58) C dX2_put_57 rfl ?_
          refine j_icmp_ge (tgt := 97) (pc' := 61) C dX2_put_58 (by decide) rfl (fun h58 => ?_) (fun h58 => ?_)
          · skip
            exact absurd h58 (by show ¬ (40 : Int32) * nI i + t.2 1 i ≤ _; rw [ebd]; exact nI_ge (by omega) (by omega)) -- done
          · skip
            refine j_aload_n (pc' := 62) C dX2_put_61 rfl rfl ?_
            refine jNa (pc' := 65) C dX2_put_62 rfl 6 (by decide) hinM (by decide +kernel) ?_
            refine j_iload_n (pc' := 66) C dX2_put_65 rfl rfl ?_
            refine jNgN (pc' := 67) C dX2_put_66 rfl (by decide) (40 * i + j) rfl (by unfold lenM; simp; omega) ?_
            refine j_ldc (pc' := 69) C dX2_put_67 rfl 1000001 (by decide +kernel) ?_
            refine j_icmp_eq (tgt := 91) (pc' := 72) C dX2_put_69 (by decide) rfl (fun h69 => ?_) (fun h69 => ?_)
            · skip
              refine j_iinc (pc' := 94) C dX2_put_91 rfl 1 (by decide) rfl (by decide) rfl ?_
              refine j_goto (pc' := 46) C dX2_put_94 (by decide) ?_
              first
                | (rw [mapR_at] at h69; rw [mapR_k (fun x => mgrowV x many) (t.2 6) (40 * i) j (by show mgrowV _ _ = _; rw [mgrowV, if_pos h69]), nI_1]; exact ih (j + 1) (by omega))
                | (rw [mapR_at] at h69 ⊢; rw [show (if t.2 6 (40 * i + j) + many < 1000000 then t.2 6 (40 * i + j) + many else 1000000) = (fun x => mgrowV x many) (t.2 6 (40 * i + j)) from (by show _ = mgrowV _ _; rw [mgrowV, if_neg h69]), mapR_s, nI_1]; exact ih (j + 1) (by omega))
            · skip
              refine j_aload_n (pc' := 73) C dX2_put_72 rfl rfl ?_
              refine jNa (pc' := 76) C dX2_put_73 rfl 6 (by decide) hinM (by decide +kernel) ?_
              refine j_iload_n (pc' := 77) C dX2_put_76 rfl rfl ?_
              refine j_ldc (pc' := 79) C dX2_put_77 rfl 1000000 (by decide +kernel) ?_
              refine j_aload_n (pc' := 80) C dX2_put_79 rfl rfl ?_
              refine jNa (pc' := 83) C dX2_put_80 rfl 6 (by decide) hinM (by decide +kernel) ?_
              refine j_iload_n (pc' := 84) C dX2_put_83 rfl rfl ?_
              refine jNgN (pc' := 85) C dX2_put_84 rfl (by decide) (40 * i + j) rfl (by unfold lenM; simp; omega) ?_
              refine j_iload_n (pc' := 86) C dX2_put_85 rfl rfl ?_
              refine j_iadd (pc' := 87) C dX2_put_86 rfl ?_
              refine j_min (pc' := 90) C dX2_put_87 rfl (by decide +kernel) (by decide +kernel) (by decide +kernel) (by decide +kernel) (by decide) (Nat.le_of_ble_eq_true rfl) ?_
              refine jNsN (pc' := 91) C dX2_put_90 rfl (by decide) (40 * i + j) rfl (by unfold lenM; simp; omega) ?_
              refine j_iinc (pc' := 94) C dX2_put_91 rfl 1 (by decide) rfl (by decide) rfl ?_
              refine j_goto (pc' := 46) C dX2_put_94 (by decide) ?_
              first
                | (rw [mapR_at] at h69; rw [mapR_k (fun x => mgrowV x many) (t.2 6) (40 * i) j (by show mgrowV _ _ = _; rw [mgrowV, if_pos h69]), nI_1]; exact ih (j + 1) (by omega))
                | (rw [mapR_at] at h69 ⊢; rw [show (if t.2 6 (40 * i + j) + many < 1000000 then t.2 6 (40 * i + j) + many else 1000000) = (fun x => mgrowV x many) (t.2 6 (40 * i + j)) from (by show _ = mgrowV _ _; rw [mgrowV, if_neg h69]), mapR_s, nI_1]; exact ih (j + 1) (by omega))
      have hb0 := loop N 0 (by omega)
      unfold wMW at hb0
      rw [mapR_0] at hb0
      rw [show ua (upd t.1 10 (-1), ua t.2 0 (upd (t.2 0) i (t.2 0 i + many))).2 6 (t.2 6) = (upd t.1 10 (-1), ua t.2 0 (upd (t.2 0) i (t.2 0 i + many))).2 from ua_self (upd t.1 10 (-1), ua t.2 0 (upd (t.2 0) i (t.2 0 i + many))).2 6, Nat.add_zero, show nI (40 * i) = (40 : Int32) * nI i from (pk_mul 40 i).symm] at hb0
      exact hb0
    · skip
      have hF : mPut t (nI i) many = (-1, t) := by rw [mPut, if_pos (Or.inr (by rw [nI_clamp (by omega)]; exact h21))]
      refine j_iconst (pc' := 25) C dX2_put_24 rfl (-1) (by decide) ?_
      refine j_ireturn _ C dX2_put_25 ?_
      exact ⟨by rw [hF] <;> rfl, by rw [hF] <;> rfl⟩
    
  
set_option maxRecDepth 100000 in
set_option maxHeartbeats 4000000 in
theorem c_Mstrike (l : Launch) (D : va_G) (cI cO : ClassId) (B : Nat → Nat) (t : TS) (hok : okM t) (tb many : Int32) : Kt l yX2_strike wsX2_strike 2 (wM cI B) D cI cO (fun _ => True) [.ref (B 10), .int tb, .int many] t (fun r u => r = some (.int (mStrike t tb many).1) ∧ u = (mStrike t tb many).2) := by
  refine Kt_of (cc := cX2_strike) (n := 4) (ret := some .int) rfl (by decide +kernel) (Nat.le_of_ble_eq_true rfl) rfl [some (.ref (B 10)), some (.int tb), some (.int many), none] rfl ?_
  intro p e s m args below meth c A C _ _
  have hinM : ∀ w ∈ wsX20, w ∈ wsX2_strike := by decide +kernel
  refine j_iload_n (pc' := 1) C dX2_strike_0 rfl rfl ?_
  refine jc_nil (pc' := 4) C (c_isTable l D cI cO _) 1 gX2_strike_X2_isTable rfl (by decide +kernel) (by decide) rfl rfl (Nat.le_of_ble_eq_true rfl) dX2_strike_1 rfl (fun v1 hp1 => ?_)
  subst hp1
  show J p l e _ s m args below meth c 0 0 _ _ D A _ _ [_] _
  refine j_if_eq (tgt := 21) (pc' := 7) C dX2_strike_4 (by decide) rfl (fun h4 => ?_) (fun h4 => ?_)
  · skip
    have hF : mStrike t tb many = (-1, t) := by rw [mStrike, if_pos (Or.inl h4)]
    refine j_iconst (pc' := 22) C dX2_strike_21 rfl (-1) (by decide) ?_
    refine j_ireturn _ C dX2_strike_22 ?_
    exact ⟨by rw [hF] <;> rfl, by rw [hF] <;> rfl⟩
  · skip
    obtain ⟨i, hi, rfl⟩ := isTb h4
    refine j_iload_n (pc' := 8) C dX2_strike_7 rfl rfl ?_
    refine j_iconst (pc' := 9) C dX2_strike_8 rfl 1 (by decide) ?_
    refine j_aload_n (pc' := 10) C dX2_strike_9 rfl rfl ?_
    refine jMa (pc' := 13) C dX2_strike_10 rfl 0 (by decide) hinM (by decide +kernel) ?_
    refine j_iload_n (pc' := 14) C dX2_strike_13 rfl rfl ?_
    refine jMlN (pc' := 15) C dX2_strike_14 rfl 0 (by decide) i rfl (by unfold lenM; simp; omega) ?_
    refine jc_nil (pc' := 18) C (c_isIn l D cI cO _ _ _) 3 gX2_strike_X2_isIn rfl (by decide +kernel) (by decide) rfl rfl (Nat.le_of_ble_eq_true rfl) dX2_strike_15 rfl (fun v1 hp1 => ?_)
    subst hp1
    show J p l e _ s m args below meth c 0 0 _ _ D A _ _ [_] _
    refine j_if_ne (tgt := 23) (pc' := 21) C dX2_strike_18 (by decide) rfl (fun h18 => ?_) (fun h18 => ?_)
    · skip
      refine j_aload_n (pc' := 24) C dX2_strike_23 rfl rfl ?_
      refine j_iconst (pc' := 25) C dX2_strike_24 rfl (-1) (by decide) ?_
      refine jMp (pc' := 28) C dX2_strike_25 rfl hinM (by decide +kernel) ?_
      refine j_aload_n (pc' := 29) C dX2_strike_28 rfl rfl ?_
      refine jMa (pc' := 32) C dX2_strike_29 rfl 0 (by decide) hinM (by decide +kernel) ?_
      refine j_iload_n (pc' := 33) C dX2_strike_32 rfl rfl ?_
      refine j_dup2 (pc' := 34) C dX2_strike_33 rfl rfl rfl ?_
      refine jMlN (pc' := 35) C dX2_strike_34 rfl 0 (by decide) i rfl (by unfold lenM; simp; omega) ?_
      refine j_iload_n (pc' := 36) C dX2_strike_35 rfl rfl ?_
      refine j_isub (pc' := 37) C dX2_strike_36 rfl ?_
      refine jMsN (pc' := 38) C dX2_strike_37 rfl 0 (by decide) i rfl (by unfold lenM; simp; omega) ?_
      refine j_bipush (pc' := 40) C dX2_strike_38 rfl 40 (by decide) ?_
      refine j_iload_n (pc' := 41) C dX2_strike_40 rfl rfl ?_
      refine j_imul (pc' := 42) C dX2_strike_41 rfl ?_
      refine j_istore_n (pc' := 43) C dX2_strike_42 rfl (by decide) rfl ?_
      have hc2 : ¬ isInF many 1 (t.2 0 (nI i).toNatClampNeg) = 0 := by rw [nI_clamp (by omega)]; exact h18
      obtain ⟨en, hn41⟩ := vp_in_c (hok i hi).1 (by decide)
      have hF : mStrike t (nI i) many = (t.2 0 i - many, (upd t.1 10 (-1), ua (ua t.2 0 (upd (t.2 0) i (t.2 0 i - many))) 5 (mapR (fun x => mshrV x many) (t.2 5) (40 * i) (t.2 1 i).toNatClampNeg))) := by
        rw [mStrike, if_neg (fun q => q.elim h4 hc2), nI_clamp (by omega)]
      generalize hN : (t.2 1 i).toNatClampNeg = N at en hn41 hF
      have ebd : (40 : Int32) * nI i + t.2 1 i = nI (40 * i + N) := by rw [en, show (40 : Int32) * nI i = nI (40 * i) from pk_mul 40 i, nI_add]
      have loop : ∀ (k j : Nat), j + k = N → J p l e (rmH 2) s m args below meth c 0 0 (RQ below args s D (wM cI B) (fun r u => r = some (.int (mStrike t (nI i) many).1) ∧ u = (mStrike t (nI i) many).2) A) 4 D A 43 [some (.ref (B 10)), some (.int (nI i)), some (.int many), some (.int (nI (40 * i + j)))] [] (wMW cI B (upd t.1 10 (-1), ua t.2 0 (upd (t.2 0) i (t.2 0 i - many))) 5 (mapR (fun x => mshrV x many) (t.2 5) (40 * i) j)) := by
        intro k
        induction k with
        | zero =>
          intro j hj
          have hj2 : j = N := by omega
          subst hj2
          refine j_iload_n (pc' := 44) C dX2_strike_43 rfl rfl ?_
          refine j_bipush (pc' := 46) C dX2_strike_44 rfl 40 (by decide) ?_
          refine j_iload_n (pc' := 47) C dX2_strike_46 rfl rfl ?_
          refine j_imul (pc' := 48) C dX2_strike_47 rfl ?_
          refine j_aload_n (pc' := 49) C dX2_strike_48 rfl rfl ?_
          refine jNa (pc' := 52) C dX2_strike_49 rfl 1 (by decide) hinM (by decide +kernel) ?_
          refine j_iload_n (pc' := 53) C dX2_strike_52 rfl rfl ?_
          refine jNlN (pc' := 54) C dX2_strike_53 rfl 1 (by decide) (by decide) i rfl (by unfold lenM; simp; omega) ?_
          refine j_iadd (pc' := 55) C dX2_strike_54 rfl ?_
          refine j_icmp_ge (tgt := 82) (pc' := 58) C dX2_strike_55 (by decide) rfl (fun h55 => ?_) (fun h55 => ?_)
          · skip
            refine j_aload_n (pc' := 83) C dX2_strike_82 rfl rfl ?_
            refine jNa (pc' := 86) C dX2_strike_83 rfl 0 (by decide) hinM (by decide +kernel) ?_
            refine j_iload_n (pc' := 87) C dX2_strike_86 rfl rfl ?_
            refine jNlN (pc' := 88) C dX2_strike_87 rfl 0 (by decide) (by decide) i rfl (by unfold lenM; simp; omega) ?_
            refine j_ireturn _ C dX2_strike_88 ?_
            refine ⟨?_, by rw [hF] <;> rfl⟩
            rw [hF]
            show some (Value.int (upd (t.2 0) i _ i)) = _
            rw [pk_us]
          · skip
            exact absurd (by show (40 : Int32) * nI i + t.2 1 i ≤ _; rw [ebd]; exact nI_le (Nat.le_refl _) (by omega)) h55 -- done
        | succ k ih =>
          intro j hj
          refine j_iload_n (pc' := 44) C dX2_strike_43 rfl rfl ?_
          refine j_bipush (pc' := 46) C dX2_strike_44 rfl 40 (by decide) ?_
          refine j_iload_n (pc' := 47) C dX2_strike_46 rfl rfl ?_
          refine j_imul (pc' := 48) C dX2_strike_47 rfl ?_
          refine j_aload_n (pc' := 49) C dX2_strike_48 rfl rfl ?_
          refine jNa (pc' := 52) C dX2_strike_49 rfl 1 (by decide) hinM (by decide +kernel) ?_
          refine j_iload_n (pc' := 53) C dX2_strike_52 rfl rfl ?_
          refine jNlN (pc' := 54) C dX2_strike_53 rfl 1 (by decide) (by decide) i rfl (by unfold lenM; simp; omega) ?_
          refine j_iadd (pc' := 55) C dX2_strike_54 rfl ?_
          refine j_icmp_ge (tgt := 82) (pc' := 58) C dX2_strike_55 (by decide) rfl (fun h55 => ?_) (fun h55 => ?_)
          · skip
            exact absurd h55 (by show ¬ (40 : Int32) * nI i + t.2 1 i ≤ _; rw [ebd]; exact nI_ge (by omega) (by omega)) -- done
          · skip
            refine j_aload_n (pc' := 59) C dX2_strike_58 rfl rfl ?_
            refine jNa (pc' := 62) C dX2_strike_59 rfl 5 (by decide) hinM (by decide +kernel) ?_
            refine j_iload_n (pc' := 63) C dX2_strike_62 rfl rfl ?_
            refine j_iconst (pc' := 64) C dX2_strike_63 rfl 0 (by decide) ?_
            refine j_aload_n (pc' := 65) C dX2_strike_64 rfl rfl ?_
            refine jNa (pc' := 68) C dX2_strike_65 rfl 5 (by decide) hinM (by decide +kernel) ?_
            refine j_iload_n (pc' := 69) C dX2_strike_68 rfl rfl ?_
            refine jNgN (pc' := 70) C dX2_strike_69 rfl (by decide) (40 * i + j) rfl (by unfold lenM; simp; omega) ?_
            refine j_iload_n (pc' := 71) C dX2_strike_70 rfl rfl ?_
            refine j_isub (pc' := 72) C dX2_strike_71 rfl ?_
            refine j_max (pc' := 75) C dX2_strike_72 rfl (by decide +kernel) (by decide +kernel) (by decide +kernel) (by decide +kernel) (by decide) (Nat.le_of_ble_eq_true rfl) ?_
            refine jNsN (pc' := 76) C dX2_strike_75 rfl (by decide) (40 * i + j) rfl (by unfold lenM; simp; omega) ?_
            refine j_iinc (pc' := 79) C dX2_strike_76 rfl 1 (by decide) rfl (by decide) rfl ?_
            refine j_goto (pc' := 43) C dX2_strike_79 (by decide) ?_
            rw [mapR_at, show (if 0 < t.2 5 (40 * i + j) - many then t.2 5 (40 * i + j) - many else 0) = (fun x => mshrV x many) (t.2 5 (40 * i + j)) from rfl, mapR_s, nI_1]
            exact ih (j + 1) (by omega)
      have hb0 := loop N 0 (by omega)
      unfold wMW at hb0
      rw [mapR_0] at hb0
      rw [show ua (upd t.1 10 (-1), ua t.2 0 (upd (t.2 0) i (t.2 0 i - many))).2 5 (t.2 5) = (upd t.1 10 (-1), ua t.2 0 (upd (t.2 0) i (t.2 0 i - many))).2 from ua_self (upd t.1 10 (-1), ua t.2 0 (upd (t.2 0) i (t.2 0 i - many))).2 5, Nat.add_zero, show nI (40 * i) = (40 : Int32) * nI i from (pk_mul 40 i).symm] at hb0
      exact hb0
    · skip
      have hF : mStrike t (nI i) many = (-1, t) := by rw [mStrike, if_pos (Or.inr (by rw [nI_clamp (by omega)]; exact h18))]
      refine j_iconst (pc' := 22) C dX2_strike_21 rfl (-1) (by decide) ?_
      refine j_ireturn _ C dX2_strike_22 ?_
      exact ⟨by rw [hF] <;> rfl, by rw [hF] <;> rfl⟩
    
  
end
section
/-! the Model: sight, begins, reads, binds -/
def mSight (t : TS) (tb a b ct al : Int32) : Int32 × TS := if isInF tb 0 2 = 0 ∨ isSpanF a b = 0 ∨ isInF ct 0 (t.2 0 tb.toNatClampNeg) = 0 ∨ t.2 1 tb.toNatClampNeg = 40 then (-1, t) else (t.2 1 tb.toNatClampNeg + 1 - 1, (upd t.1 10 (-1), ua (ua (ua (ua (ua t.2 3 (upd (t.2 3) (40 * tb.toNatClampNeg + (t.2 1 tb.toNatClampNeg).toNatClampNeg) a)) 4 (upd (t.2 4) (40 * tb.toNatClampNeg + (t.2 1 tb.toNatClampNeg).toNatClampNeg) b)) 5 (upd (t.2 5) (40 * tb.toNatClampNeg + (t.2 1 tb.toNatClampNeg).toNatClampNeg) ct)) 6 (upd (t.2 6) (40 * tb.toNatClampNeg + (t.2 1 tb.toNatClampNeg).toNatClampNeg) (if al = 0 then ct else 1000001))) 1 (upd (t.2 1) tb.toNatClampNeg (t.2 1 tb.toNatClampNeg + 1))))
def wideF (n : Int32) : Int32 := 64 >>> ((2 * n) &&& 31)
def mBegins (t : TS) (tb n v ct : Int32) : Int32 × TS := if isInF n 0 3 = 0 then (-1, t) else if isInF v 0 (64 / wideF n - 1) = 0 then (-1, t) else mSight t tb (v * wideF n) (v * wideF n + wideF n) ct 0
theorem wideF_ne {n : Int32} (h : ¬ isInF n 0 3 = 0) : ¬ wideF n = 0 := by
  obtain ⟨j, hj, rfl⟩ := isInF_nI 3 (by decide) h
  rcases (show j = 0 ∨ j = 1 ∨ j = 2 ∨ j = 3 by omega) with rfl | rfl | rfl | rfl <;> decide +kernel
def sumT (f : Nat → Int32) (lo : Nat) : Nat → Int64
  | 0 => 0
  | n + 1 => sumT f lo n + (f (lo + n)).toInt64
def guessOfF (t : TS) (i v : Nat) : Int64 := (t.2 11 (65 * i + v + 1) - t.2 11 (65 * i + v)).toInt64
def mRowsOf (t : TS) (i v : Nat) (by_ : Int32) : Int64 := if by_ = 0 then guessOfF t i v else (t.2 8 (64 * i + v)).toInt64
def bindsJ (b i : Nat) (bef : Int32) : Nat → Nat → (Nat → Int32) → (Nat → Int32)
  | 0, _, f => f
  | k + 1, j, f => bindsJ b i bef k (j + 1) (upd f (65 * i + j) (if bef + f (65 * b + j) < f (65 * i + j) then bef + f (65 * b + j) else f (65 * i + j)))
def bindsI (a b : Nat) (by_ : Int32) : Nat → Nat → (Nat → Int32) → (Nat → Int32)
  | 0, _, f => f
  | k + 1, i, f => bindsI a b by_ k (i + 1) (bindsJ b i (f (65 * i + a) + by_) 65 0 f)
def bindsF (f : Nat → Int32) (a b : Nat) (by_ : Int32) : Nat → Int32 := if by_ < f (65 * a + b) then bindsI a b by_ 65 0 f else f
theorem e65 (i v : Nat) : (65 : Int32) * nI i + nI v = nI (65 * i + v) := by rw [show (65 : Int32) * nI i = nI (65 * i) from pk_mul 65 i, nI_add]
theorem e64 (i v : Nat) : (64 : Int32) * nI i + nI v = nI (64 * i + v) := by rw [show (64 : Int32) * nI i = nI (64 * i) from pk_mul 64 i, nI_add]
theorem e40 (i v : Nat) : (40 : Int32) * nI i + nI v = nI (40 * i + v) := by rw [show (40 : Int32) * nI i = nI (40 * i) from pk_mul 40 i, nI_add]
set_option maxRecDepth 100000 in
set_option maxHeartbeats 4000000 in
theorem c_Msight (l : Launch) (D : va_G) (cI cO : ClassId) (B : Nat → Nat) (t : TS) (hok : okM t) (tb a b ct al : Int32) : Kt l yX2_sight wsX2_sight 2 (wM cI B) D cI cO (fun _ => True) [.ref (B 10), .int tb, .int a, .int b, .int ct, .int al] t (fun r u => r = some (.int (mSight t tb a b ct al).1) ∧ u = (mSight t tb a b ct al).2) := by
  refine Kt_of (cc := cX2_sight) (n := 7) (ret := some .int) rfl (by decide +kernel) (Nat.le_of_ble_eq_true rfl) rfl [some (.ref (B 10)), some (.int tb), some (.int a), some (.int b), some (.int ct), some (.int al), none] rfl ?_
  intro p e s m args below meth c A C _ _
  have hinM : ∀ w ∈ wsX20, w ∈ wsX2_sight := by decide +kernel
  refine j_iload_n (pc' := 1) C dX2_sight_0 rfl rfl ?_
  refine jc_nil (pc' := 4) C (c_isTable l D cI cO _) 1 gX2_sight_X2_isTable rfl (by decide +kernel) (by decide) rfl rfl (Nat.le_of_ble_eq_true rfl) dX2_sight_1 rfl (fun v1 hp1 => ?_)
  subst hp1
  show J p l e _ s m args below meth c 0 0 _ _ D A _ _ [_] _
  refine j_if_eq (tgt := 41) (pc' := 7) C dX2_sight_4 (by decide) rfl (fun h4 => ?_) (fun h4 => ?_)
  · skip
    have hF : mSight t tb a b ct al = (-1, t) := by rw [mSight, if_pos (Or.inl h4)]
    refine j_iconst (pc' := 42) C dX2_sight_41 rfl (-1) (by decide) ?_
    refine j_ireturn _ C dX2_sight_42 ?_
    exact ⟨by rw [hF] <;> rfl, by rw [hF] <;> rfl⟩
  · skip
    obtain ⟨i, hi, rfl⟩ := isTb h4
    refine j_iload_n (pc' := 8) C dX2_sight_7 rfl rfl ?_
    refine j_iload_n (pc' := 9) C dX2_sight_8 rfl rfl ?_
    refine jc_nil (pc' := 12) C (c_isSpanM l D cI cO _ _) 2 gX2_sight_X2_isSpan rfl (by decide +kernel) (by decide) rfl rfl (Nat.le_of_ble_eq_true rfl) dX2_sight_9 rfl (fun v1 hp1 => ?_)
    subst hp1
    show J p l e _ s m args below meth c 0 0 _ _ D A _ _ [_] _
    refine j_if_eq (tgt := 41) (pc' := 15) C dX2_sight_12 (by decide) rfl (fun h12 => ?_) (fun h12 => ?_)
    · skip
      have hF : mSight t (nI i) a b ct al = (-1, t) := by rw [mSight, nI_clamp (by omega), if_pos (Or.inr (Or.inl h12))]
      refine j_iconst (pc' := 42) C dX2_sight_41 rfl (-1) (by decide) ?_
      refine j_ireturn _ C dX2_sight_42 ?_
      exact ⟨by rw [hF] <;> rfl, by rw [hF] <;> rfl⟩
    · skip
      refine j_iload (pc' := 17) C dX2_sight_15 rfl rfl ?_
      refine j_iconst (pc' := 18) C dX2_sight_17 rfl 0 (by decide) ?_
      refine j_aload_n (pc' := 19) C dX2_sight_18 rfl rfl ?_
      refine jMa (pc' := 22) C dX2_sight_19 rfl 0 (by decide) hinM (by decide +kernel) ?_
      refine j_iload_n (pc' := 23) C dX2_sight_22 rfl rfl ?_
      refine jMlN (pc' := 24) C dX2_sight_23 rfl 0 (by decide) i rfl (by unfold lenM; simp; omega) ?_
      refine jc_nil (pc' := 27) C (c_isIn l D cI cO _ _ _) 3 gX2_sight_X2_isIn rfl (by decide +kernel) (by decide) rfl rfl (Nat.le_of_ble_eq_true rfl) dX2_sight_24 rfl (fun v1 hp1 => ?_)
      subst hp1
      show J p l e _ s m args below meth c 0 0 _ _ D A _ _ [_] _
      refine j_if_eq (tgt := 41) (pc' := 30) C dX2_sight_27 (by decide) rfl (fun h27 => ?_) (fun h27 => ?_)
      · skip
        have hF : mSight t (nI i) a b ct al = (-1, t) := by rw [mSight, nI_clamp (by omega), if_pos (Or.inr (Or.inr (Or.inl h27)))]
        refine j_iconst (pc' := 42) C dX2_sight_41 rfl (-1) (by decide) ?_
        refine j_ireturn _ C dX2_sight_42 ?_
        exact ⟨by rw [hF] <;> rfl, by rw [hF] <;> rfl⟩
      · skip
        refine j_aload_n (pc' := 31) C dX2_sight_30 rfl rfl ?_
        refine jMa (pc' := 34) C dX2_sight_31 rfl 1 (by decide) hinM (by decide +kernel) ?_
        refine j_iload_n (pc' := 35) C dX2_sight_34 rfl rfl ?_
        refine jMlN (pc' := 36) C dX2_sight_35 rfl 1 (by decide) i rfl (by unfold lenM; simp; omega) ?_
        refine j_bipush (pc' := 38) C dX2_sight_36 rfl 40 (by decide) ?_
        refine j_icmp_ne (tgt := 43) (pc' := 41) C dX2_sight_38 (by decide) rfl (fun h38 => ?_) (fun h38 => ?_)
        · skip
          obtain ⟨en, hn41⟩ := vp_in_c (hok i hi).1 (by decide)
          generalize hN : (t.2 1 i).toNatClampNeg = N at en hn41
          have hn40 : N < 40 := by
            rcases Nat.lt_or_ge N 40 with q | q
            · exact q
            · exact absurd (by rw [en, show N = 40 by omega]; rfl) h38
          have ek : (40 : Int32) * nI i + t.2 1 i = nI (40 * i + N) := by rw [en]; exact e40 i N
          have hF : mSight t (nI i) a b ct al = (t.2 1 i + 1 - 1, (upd t.1 10 (-1), ua (ua (ua (ua (ua t.2 3 (upd (t.2 3) (40 * i + N) a)) 4 (upd (t.2 4) (40 * i + N) b)) 5 (upd (t.2 5) (40 * i + N) ct)) 6 (upd (t.2 6) (40 * i + N) (if al = 0 then ct else 1000001))) 1 (upd (t.2 1) i (t.2 1 i + 1)))) := by
            rw [mSight, nI_clamp (by omega), if_neg (fun q => q.elim h4 (fun q => q.elim h12 (fun q => q.elim h27 h38))), hN]
          have h99 : ∀ x : Int32, x = (if al = 0 then ct else 1000001) → J p l e (rmH 2) s m args below meth c 0 0 (RQ below args s D (wM cI B) (fun r u => r = some (.int (mSight t (nI i) a b ct al).1) ∧ u = (mSight t (nI i) a b ct al).2) A) 7 D A 99 [some (.ref (B 10)), some (.int (nI i)), some (.int a), some (.int b), some (.int ct), some (.int al), some (.int (40 * nI i + t.2 1 i))] [.int x, .int (40 * nI i + t.2 1 i), .ref (B 6)] (wM cI B (t.1, ua (ua (ua t.2 3 (upd (t.2 3) (40 * i + N) a)) 4 (upd (t.2 4) (40 * i + N) b)) 5 (upd (t.2 5) (40 * i + N) ct))) := by
            intro x ex
            refine jMsN (pc' := 100) C dX2_sight_99 rfl 6 (by decide) (40 * i + N) ek (by unfold lenM; simp; omega) ?_
            refine j_aload_n (pc' := 101) C dX2_sight_100 rfl rfl ?_
            refine jMa (pc' := 104) C dX2_sight_101 rfl 1 (by decide) hinM (by decide +kernel) ?_
            refine j_iload_n (pc' := 105) C dX2_sight_104 rfl rfl ?_
            refine j_dup2 (pc' := 106) C dX2_sight_105 rfl rfl rfl ?_
            refine jMlN (pc' := 107) C dX2_sight_106 rfl 1 (by decide) i rfl (by unfold lenM; simp; omega) ?_
            refine j_iconst (pc' := 108) C dX2_sight_107 rfl 1 (by decide) ?_
            refine j_iadd (pc' := 109) C dX2_sight_108 rfl ?_
            refine jMsN (pc' := 110) C dX2_sight_109 rfl 1 (by decide) i rfl (by unfold lenM; simp; omega) ?_
            refine j_aload_n (pc' := 111) C dX2_sight_110 rfl rfl ?_
            refine j_iconst (pc' := 112) C dX2_sight_111 rfl (-1) (by decide) ?_
            refine jMp (pc' := 115) C dX2_sight_112 rfl hinM (by decide +kernel) ?_
            refine j_aload_n (pc' := 116) C dX2_sight_115 rfl rfl ?_
            refine jMa (pc' := 119) C dX2_sight_116 rfl 1 (by decide) hinM (by decide +kernel) ?_
            refine j_iload_n (pc' := 120) C dX2_sight_119 rfl rfl ?_
            refine jMlN (pc' := 121) C dX2_sight_120 rfl 1 (by decide) i rfl (by unfold lenM; simp; omega) ?_
            refine j_iconst (pc' := 122) C dX2_sight_121 rfl 1 (by decide) ?_
            refine j_isub (pc' := 123) C dX2_sight_122 rfl ?_
            refine j_ireturn _ C dX2_sight_123 ?_
            rw [ex]
            refine ⟨?_, by rw [hF] <;> rfl⟩
            rw [hF]
            show some (Value.int (upd (t.2 1) i (t.2 1 i + 1) i - 1)) = _
            rw [pk_us]
          
          refine j_bipush (pc' := 45) C dX2_sight_43 rfl 40 (by decide) ?_
          refine j_iload_n (pc' := 46) C dX2_sight_45 rfl rfl ?_
          refine j_imul (pc' := 47) C dX2_sight_46 rfl ?_
          refine j_aload_n (pc' := 48) C dX2_sight_47 rfl rfl ?_
          refine jMa (pc' := 51) C dX2_sight_48 rfl 1 (by decide) hinM (by decide +kernel) ?_
          refine j_iload_n (pc' := 52) C dX2_sight_51 rfl rfl ?_
          refine jMlN (pc' := 53) C dX2_sight_52 rfl 1 (by decide) i rfl (by unfold lenM; simp; omega) ?_
          refine j_iadd (pc' := 54) C dX2_sight_53 rfl ?_
          refine j_istore (pc' := 56) C dX2_sight_54 rfl (by decide) rfl ?_
          refine j_aload_n (pc' := 57) C dX2_sight_56 rfl rfl ?_
          refine jMa (pc' := 60) C dX2_sight_57 rfl 3 (by decide) hinM (by decide +kernel) ?_
          refine j_iload (pc' := 62) C dX2_sight_60 rfl rfl ?_
          refine j_iload_n (pc' := 63) C dX2_sight_62 rfl rfl ?_
          refine jMsN (pc' := 64) C dX2_sight_63 rfl 3 (by decide) (40 * i + N) ek (by unfold lenM; simp; omega) ?_
          refine j_aload_n (pc' := 65) C dX2_sight_64 rfl rfl ?_
          refine jMa (pc' := 68) C dX2_sight_65 rfl 4 (by decide) hinM (by decide +kernel) ?_
          refine j_iload (pc' := 70) C dX2_sight_68 rfl rfl ?_
          refine j_iload_n (pc' := 71) C dX2_sight_70 rfl rfl ?_
          refine jMsN (pc' := 72) C dX2_sight_71 rfl 4 (by decide) (40 * i + N) ek (by unfold lenM; simp; omega) ?_
          refine j_aload_n (pc' := 73) C dX2_sight_72 rfl rfl ?_
          refine jMa (pc' := 76) C dX2_sight_73 rfl 5 (by decide) hinM (by decide +kernel) ?_
          refine j_iload (pc' := 78) C dX2_sight_76 rfl rfl ?_
          refine j_iload (pc' := 80) C dX2_sight_78 rfl rfl ?_
          refine jMsN (pc' := 81) C dX2_sight_80 rfl 5 (by decide) (40 * i + N) ek (by unfold lenM; simp; omega) ?_
          refine j_aload_n (pc' := 82) C dX2_sight_81 rfl rfl ?_
          refine jMa (pc' := 85) C dX2_sight_82 rfl 6 (by decide) hinM (by decide +kernel) ?_
          refine j_iload (pc' := 87) C dX2_sight_85 rfl rfl ?_
          refine j_iload (pc' := 89) C dX2_sight_87 rfl rfl ?_
          refine j_if_eq (tgt := 97) (pc' := 92) C dX2_sight_89 (by decide) rfl (fun h89 => ?_) (fun h89 => ?_)
          · skip
            refine j_iload (pc' := 99) C dX2_sight_97 rfl rfl ?_
            first | exact h99 _ (by rw [if_pos h89]) | exact h99 _ (by rw [if_neg h89])
          · skip
            refine j_ldc (pc' := 94) C dX2_sight_92 rfl 1000001 (by decide +kernel) ?_
            refine j_goto (pc' := 99) C dX2_sight_94 (by decide) ?_
            first | exact h99 _ (by rw [if_pos h89]) | exact h99 _ (by rw [if_neg h89])
        · skip
          have hF : mSight t (nI i) a b ct al = (-1, t) := by rw [mSight, nI_clamp (by omega), if_pos (Or.inr (Or.inr (Or.inr h38)))]
          refine j_iconst (pc' := 42) C dX2_sight_41 rfl (-1) (by decide) ?_
          refine j_ireturn _ C dX2_sight_42 ?_
          exact ⟨by rw [hF] <;> rfl, by rw [hF] <;> rfl⟩
      
    
  
set_option maxRecDepth 100000 in
set_option maxHeartbeats 4000000 in
theorem c_Mbegins (l : Launch) (D : va_G) (cI cO : ClassId) (B : Nat → Nat) (t : TS) (hok : okM t) (tb n v ct : Int32) : Kt l yX2_begins wsX2_begins 3 (wM cI B) D cI cO (fun _ => True) [.ref (B 10), .int tb, .int n, .int v, .int ct] t (fun r u => r = some (.int (mBegins t tb n v ct).1) ∧ u = (mBegins t tb n v ct).2) := by
  refine Kt_of (cc := cX2_begins) (n := 6) (ret := some .int) rfl (by decide +kernel) (Nat.le_of_ble_eq_true rfl) rfl [some (.ref (B 10)), some (.int tb), some (.int n), some (.int v), some (.int ct), none] rfl ?_
  intro p e s m args below meth c A C _ _
  have hinM : ∀ w ∈ wsX20, w ∈ wsX2_begins := by decide +kernel
  refine j_iload_n (pc' := 1) C dX2_begins_0 rfl rfl ?_
  refine j_iconst (pc' := 2) C dX2_begins_1 rfl 0 (by decide) ?_
  refine j_iconst (pc' := 3) C dX2_begins_2 rfl 3 (by decide) ?_
  refine jc_nil (pc' := 6) C (c_isIn l D cI cO _ _ _) 3 gX2_begins_X2_isIn rfl (by decide +kernel) (by decide) rfl rfl (Nat.le_of_ble_eq_true rfl) dX2_begins_3 rfl (fun v1 hp1 => ?_)
  subst hp1
  show J p l e _ s m args below meth c 0 0 _ _ D A _ _ [_] _
  refine j_if_ne (tgt := 11) (pc' := 9) C dX2_begins_6 (by decide) rfl (fun h6 => ?_) (fun h6 => ?_)
  · skip
    refine j_bipush (pc' := 13) C dX2_begins_11 rfl 64 (by decide) ?_
    refine j_iconst (pc' := 14) C dX2_begins_13 rfl 2 (by decide) ?_
    refine j_iload_n (pc' := 15) C dX2_begins_14 rfl rfl ?_
    refine j_imul (pc' := 16) C dX2_begins_15 rfl ?_
    refine j_ishr (pc' := 17) C dX2_begins_16 rfl ?_
    refine j_istore (pc' := 19) C dX2_begins_17 rfl (by decide) rfl ?_
    refine j_iload_n (pc' := 20) C dX2_begins_19 rfl rfl ?_
    refine j_iconst (pc' := 21) C dX2_begins_20 rfl 0 (by decide) ?_
    refine j_bipush (pc' := 23) C dX2_begins_21 rfl 64 (by decide) ?_
    refine j_iload (pc' := 25) C dX2_begins_23 rfl rfl ?_
    refine j_idiv (pc' := 26) C dX2_begins_25 rfl (wideF_ne h6) ?_
    refine j_iconst (pc' := 27) C dX2_begins_26 rfl 1 (by decide) ?_
    refine j_isub (pc' := 28) C dX2_begins_27 rfl ?_
    refine jc_nil (pc' := 31) C (c_isIn l D cI cO _ _ _) 3 gX2_begins_X2_isIn rfl (by decide +kernel) (by decide) rfl rfl (Nat.le_of_ble_eq_true rfl) dX2_begins_28 rfl (fun v1 hp1 => ?_)
    subst hp1
    show J p l e _ s m args below meth c 0 0 _ _ D A _ _ [_] _
    refine j_if_eq (tgt := 56) (pc' := 34) C dX2_begins_31 (by decide) rfl (fun h31 => ?_) (fun h31 => ?_)
    · skip
      have hF : mBegins t tb n v ct = (-1, t) := by rw [mBegins, if_neg h6]; exact if_pos h31
      refine j_iconst (pc' := 57) C dX2_begins_56 rfl (-1) (by decide) ?_
      refine j_ireturn _ C dX2_begins_57 ?_
      exact ⟨by rw [hF] <;> rfl, by rw [hF] <;> rfl⟩
    · skip
      refine j_aload_n (pc' := 35) C dX2_begins_34 rfl rfl ?_
      refine j_iload_n (pc' := 36) C dX2_begins_35 rfl rfl ?_
      refine j_iload_n (pc' := 37) C dX2_begins_36 rfl rfl ?_
      refine j_iload (pc' := 39) C dX2_begins_37 rfl rfl ?_
      refine j_imul (pc' := 40) C dX2_begins_39 rfl ?_
      refine j_iload_n (pc' := 41) C dX2_begins_40 rfl rfl ?_
      refine j_iload (pc' := 43) C dX2_begins_41 rfl rfl ?_
      refine j_imul (pc' := 44) C dX2_begins_43 rfl ?_
      refine j_iload (pc' := 46) C dX2_begins_44 rfl rfl ?_
      refine j_iadd (pc' := 47) C dX2_begins_46 rfl ?_
      refine j_iload (pc' := 49) C dX2_begins_47 rfl rfl ?_
      refine j_iconst (pc' := 50) C dX2_begins_49 rfl 0 (by decide) ?_
      have hF : mBegins t tb n v ct = mSight t tb (v * wideF n) (v * wideF n + wideF n) ct 0 := by rw [mBegins, if_neg h6]; exact if_neg h31
      refine jc_same (pc' := 53) C (c_Msight l D cI cO B t hok tb (v * wideF n) (v * wideF n + wideF n) ct 0) 5 gX2_begins_X2_sight rfl (by decide +kernel) (by decide) rfl rfl (by decide) 2 10 rfl rfl (wM_obj cI B _) (wM_addr cI B _) dX2_begins_50 rfl (fun v1 u1 hp1 => ?_)
      obtain ⟨rfl, rfl⟩ := hp1
      show J p l e _ s m args below meth c 0 0 _ _ D A _ _ [_] _
      refine j_goto (pc' := 57) C dX2_begins_53 (by decide) ?_
      refine j_ireturn _ C dX2_begins_57 ?_
      exact ⟨by rw [hF], by rw [hF]⟩
      
    
  · skip
    have hF : mBegins t tb n v ct = (-1, t) := by rw [mBegins, if_pos (h6)]
    refine j_iconst (pc' := 10) C dX2_begins_9 rfl (-1) (by decide) ?_
    refine j_ireturn _ C dX2_begins_10 ?_
    exact ⟨by rw [hF] <;> rfl, by rw [hF] <;> rfl⟩
  
set_option maxRecDepth 100000 in
set_option maxHeartbeats 4000000 in
theorem c_most (l : Launch) (D : va_G) (cI cO : ClassId) (B : Nat → Nat) (t : TS) (a b : Int32) (x y : Nat) (ea : a = nI x) (eb : b = nI y) (hx : x ≤ 64) (hy : y ≤ 64) : Kt l yX2_most wsX2_most 0 (wM cI B) D cI cO (fun _ => True) [.ref (B 10), .int a, .int b] t (fun r u => r = some (.int (t.2 9 (65 * x + y))) ∧ u = t) := by
  refine Kt_of (cc := cX2_most) (n := 3) (ret := some .int) rfl (by decide +kernel) (Nat.le_of_ble_eq_true rfl) rfl [some (.ref (B 10)), some (.int a), some (.int b)] rfl ?_
  intro p e s m args below meth c A C _ _
  have hinM : ∀ w ∈ wsX20, w ∈ wsX2_most := by decide +kernel
  subst ea
  subst eb
  refine j_aload_n (pc' := 1) C dX2_most_0 rfl rfl ?_
  refine jMa (pc' := 4) C dX2_most_1 rfl 9 (by decide) hinM (by decide +kernel) ?_
  refine j_bipush (pc' := 6) C dX2_most_4 rfl 65 (by decide) ?_
  refine j_iload_n (pc' := 7) C dX2_most_6 rfl rfl ?_
  refine j_imul (pc' := 8) C dX2_most_7 rfl ?_
  refine j_iload_n (pc' := 9) C dX2_most_8 rfl rfl ?_
  refine j_iadd (pc' := 10) C dX2_most_9 rfl ?_
  refine jMlN (pc' := 11) C dX2_most_10 rfl 9 (by decide) (65 * x + y) (e65 x y) (by unfold lenM; simp; omega) ?_
  refine j_ireturn _ C dX2_most_11 ?_
  exact ⟨rfl, rfl⟩
set_option maxRecDepth 100000 in
set_option maxHeartbeats 4000000 in
theorem c_trueIn (l : Launch) (D : va_G) (cI cO : ClassId) (B : Nat → Nat) (t : TS) (tb a b : Int32) (i x y : Nat) (et : tb = nI i) (ea : a = nI x) (eb : b = nI y) (hi : i < 3) (hx : x ≤ 64) (hy : y ≤ 64) : Kt l yX2_trueIn wsX2_trueIn 0 (wM cI B) D cI cO (fun _ => True) [.ref (B 10), .int tb, .int a, .int b] t (fun r u => r = some (.long (sumT (t.2 8) (64 * i + x) (y - x))) ∧ u = t) := by
  refine Kt_of (cc := cX2_trueIn) (n := 7) (ret := some .long) rfl (by decide +kernel) (Nat.le_of_ble_eq_true rfl) rfl [some (.ref (B 10)), some (.int tb), some (.int a), some (.int b), none, none, none] rfl ?_
  intro p e s m args below meth c A C _ _
  have hinM : ∀ w ∈ wsX20, w ∈ wsX2_trueIn := by decide +kernel
  subst et
  subst ea
  subst eb
  have loop : ∀ (k j : Nat), j + k = y - x → J p l e (rmH 0) s m args below meth c 0 0 (RQ below args s D (wM cI B) (fun r u => r = some (.long (sumT (t.2 8) (64 * i + x) (y - x))) ∧ u = t) A) 7 D A 6 [some (.ref (B 10)), some (.int (nI i)), some (.int (nI x)), some (.int (nI y)), some (.long (sumT (t.2 8) (64 * i + x) j)), none, some (.int (nI (x + j)))] [] (wM cI B t) := by
    intro k
    induction k with
    | zero =>
      intro j hj
      have hj2 : j = y - x := by omega
      subst hj2
      refine j_iload (pc' := 8) C dX2_trueIn_6 rfl rfl ?_
      refine j_iload_n (pc' := 9) C dX2_trueIn_8 rfl rfl ?_
      refine j_icmp_ge (tgt := 36) (pc' := 12) C dX2_trueIn_9 (by decide) rfl (fun h9 => ?_) (fun h9 => ?_)
      · skip
        refine j_lload (pc' := 38) C dX2_trueIn_36 rfl rfl ?_
        refine j_lreturn _ C dX2_trueIn_38 ?_
        exact ⟨rfl, rfl⟩
      · skip
        exact absurd (nI_le (by omega) (by omega)) h9 -- done
    | succ k ih =>
      intro j hj
      refine j_iload (pc' := 8) C dX2_trueIn_6 rfl rfl ?_
      refine j_iload_n (pc' := 9) C dX2_trueIn_8 rfl rfl ?_
      refine j_icmp_ge (tgt := 36) (pc' := 12) C dX2_trueIn_9 (by decide) rfl (fun h9 => ?_) (fun h9 => ?_)
      · skip
        exact absurd h9 (nI_ge (by omega) (by omega)) -- done
      · skip
        refine j_lload (pc' := 14) C dX2_trueIn_12 rfl rfl ?_
        refine j_aload_n (pc' := 15) C dX2_trueIn_14 rfl rfl ?_
        refine jMa (pc' := 18) C dX2_trueIn_15 rfl 8 (by decide) hinM (by decide +kernel) ?_
        refine j_bipush (pc' := 20) C dX2_trueIn_18 rfl 64 (by decide) ?_
        refine j_iload_n (pc' := 21) C dX2_trueIn_20 rfl rfl ?_
        refine j_imul (pc' := 22) C dX2_trueIn_21 rfl ?_
        refine j_iload (pc' := 24) C dX2_trueIn_22 rfl rfl ?_
        refine j_iadd (pc' := 25) C dX2_trueIn_24 rfl ?_
        refine jMlN (pc' := 26) C dX2_trueIn_25 rfl 8 (by decide) (64 * i + x + j) (by rw [e64]; rw [Nat.add_assoc]) (by unfold lenM; simp; omega) ?_
        refine j_i2l (pc' := 27) C dX2_trueIn_26 rfl ?_
        refine j_ladd (pc' := 28) C dX2_trueIn_27 rfl ?_
        refine j_lstore (pc' := 30) C dX2_trueIn_28 rfl (by decide) rfl ?_
        refine j_iinc (pc' := 33) C dX2_trueIn_30 rfl 1 (by decide) rfl (by decide) rfl ?_
        refine j_goto (pc' := 6) C dX2_trueIn_33 (by decide) ?_
        rw [nI_1]
        exact ih (j + 1) (by omega)
  refine j_lconst (pc' := 1) C dX2_trueIn_0 rfl 0 (by decide) ?_
  refine j_lstore (pc' := 3) C dX2_trueIn_1 rfl (by decide) rfl ?_
  refine j_iload_n (pc' := 4) C dX2_trueIn_3 rfl rfl ?_
  refine j_istore (pc' := 6) C dX2_trueIn_4 rfl (by decide) rfl ?_
  exact loop (y - x) 0 (by omega)
set_option maxRecDepth 100000 in
set_option maxHeartbeats 4000000 in
theorem c_guessOf (l : Launch) (D : va_G) (cI cO : ClassId) (B : Nat → Nat) (t : TS) (tb a : Int32) (i v : Nat) (et : tb = nI i) (ea : a = nI v) (hi : i < 3) (hv : v < 64) : Kt l yX2_guessOf wsX2_guessOf 0 (wM cI B) D cI cO (fun _ => True) [.ref (B 10), .int tb, .int a] t (fun r u => r = some (.long (guessOfF t i v)) ∧ u = t) := by
  refine Kt_of (cc := cX2_guessOf) (n := 3) (ret := some .long) rfl (by decide +kernel) (Nat.le_of_ble_eq_true rfl) rfl [some (.ref (B 10)), some (.int tb), some (.int a)] rfl ?_
  intro p e s m args below meth c A C _ _
  have hinM : ∀ w ∈ wsX20, w ∈ wsX2_guessOf := by decide +kernel
  subst et
  subst ea
  refine j_aload_n (pc' := 1) C dX2_guessOf_0 rfl rfl ?_
  refine jMa (pc' := 4) C dX2_guessOf_1 rfl 11 (by decide) hinM (by decide +kernel) ?_
  refine j_bipush (pc' := 6) C dX2_guessOf_4 rfl 65 (by decide) ?_
  refine j_iload_n (pc' := 7) C dX2_guessOf_6 rfl rfl ?_
  refine j_imul (pc' := 8) C dX2_guessOf_7 rfl ?_
  refine j_iload_n (pc' := 9) C dX2_guessOf_8 rfl rfl ?_
  refine j_iadd (pc' := 10) C dX2_guessOf_9 rfl ?_
  refine j_iconst (pc' := 11) C dX2_guessOf_10 rfl 1 (by decide) ?_
  refine j_iadd (pc' := 12) C dX2_guessOf_11 rfl ?_
  refine jMlN (pc' := 13) C dX2_guessOf_12 rfl 11 (by decide) (65 * i + v + 1) (by rw [e65, nI_1]) (by unfold lenM; simp; omega) ?_
  refine j_aload_n (pc' := 14) C dX2_guessOf_13 rfl rfl ?_
  refine jMa (pc' := 17) C dX2_guessOf_14 rfl 11 (by decide) hinM (by decide +kernel) ?_
  refine j_bipush (pc' := 19) C dX2_guessOf_17 rfl 65 (by decide) ?_
  refine j_iload_n (pc' := 20) C dX2_guessOf_19 rfl rfl ?_
  refine j_imul (pc' := 21) C dX2_guessOf_20 rfl ?_
  refine j_iload_n (pc' := 22) C dX2_guessOf_21 rfl rfl ?_
  refine j_iadd (pc' := 23) C dX2_guessOf_22 rfl ?_
  refine jMlN (pc' := 24) C dX2_guessOf_23 rfl 11 (by decide) (65 * i + v) (e65 i v) (by unfold lenM; simp; omega) ?_
  refine j_isub (pc' := 25) C dX2_guessOf_24 rfl ?_
  refine j_i2l (pc' := 26) C dX2_guessOf_25 rfl ?_
  refine j_lreturn _ C dX2_guessOf_26 ?_
  exact ⟨rfl, rfl⟩
set_option maxRecDepth 100000 in
set_option maxHeartbeats 4000000 in
theorem c_MrowsOf (l : Launch) (D : va_G) (cI cO : ClassId) (B : Nat → Nat) (t : TS) (tb a by_ : Int32) (i v : Nat) (et : tb = nI i) (ea : a = nI v) (hi : i < 3) (hv : v < 64) : Kt l yX2_rowsOf wsX2_rowsOf 1 (wM cI B) D cI cO (fun _ => True) [.ref (B 10), .int tb, .int a, .int by_] t (fun r u => r = some (.long (mRowsOf t i v by_)) ∧ u = t) := by
  refine Kt_of (cc := cX2_rowsOf) (n := 4) (ret := some .long) rfl (by decide +kernel) (Nat.le_of_ble_eq_true rfl) rfl [some (.ref (B 10)), some (.int tb), some (.int a), some (.int by_)] rfl ?_
  intro p e s m args below meth c A C _ _
  have hinM : ∀ w ∈ wsX20, w ∈ wsX2_rowsOf := by decide +kernel
  refine j_iload_n (pc' := 1) C dX2_rowsOf_0 rfl rfl ?_
  refine j_if_eq (tgt := 19) (pc' := 4) C dX2_rowsOf_1 (by decide) rfl (fun h1 => ?_) (fun h1 => ?_)
  · skip
    refine j_aload_n (pc' := 20) C dX2_rowsOf_19 rfl rfl ?_
    refine j_iload_n (pc' := 21) C dX2_rowsOf_20 rfl rfl ?_
    refine j_iload_n (pc' := 22) C dX2_rowsOf_21 rfl rfl ?_
    refine jc_same (pc' := 25) C (c_guessOf l D cI cO B t tb a i v et ea hi hv) 2 gX2_rowsOf_X2_guessOf rfl (by decide +kernel) (by decide) rfl rfl (by decide) 2 10 rfl rfl (wM_obj cI B _) (wM_addr cI B _) dX2_rowsOf_22 rfl (fun v1 u1 hp1 => ?_)
    obtain ⟨rfl, rfl⟩ := hp1
    show J p l e _ s m args below meth c 0 0 _ _ D A _ _ [_] _
    refine j_lreturn _ C dX2_rowsOf_25 ?_
    exact ⟨by rw [mRowsOf, if_pos h1], rfl⟩
    
  · skip
    refine j_aload_n (pc' := 5) C dX2_rowsOf_4 rfl rfl ?_
    refine jMa (pc' := 8) C dX2_rowsOf_5 rfl 8 (by decide) hinM (by decide +kernel) ?_
    refine j_bipush (pc' := 10) C dX2_rowsOf_8 rfl 64 (by decide) ?_
    refine j_iload_n (pc' := 11) C dX2_rowsOf_10 rfl rfl ?_
    refine j_imul (pc' := 12) C dX2_rowsOf_11 rfl ?_
    refine j_iload_n (pc' := 13) C dX2_rowsOf_12 rfl rfl ?_
    refine j_iadd (pc' := 14) C dX2_rowsOf_13 rfl ?_
    refine jMlN (pc' := 15) C dX2_rowsOf_14 rfl 8 (by decide) (64 * i + v) (by rw [et, ea]; exact e64 i v) (by unfold lenM; simp; omega) ?_
    refine j_i2l (pc' := 16) C dX2_rowsOf_15 rfl ?_
    refine j_goto (pc' := 25) C dX2_rowsOf_16 (by decide) ?_
    refine j_lreturn _ C dX2_rowsOf_25 ?_
    exact ⟨by rw [mRowsOf, if_neg h1], rfl⟩
set_option maxRecDepth 100000 in
set_option maxHeartbeats 4000000 in
theorem c_binds (l : Launch) (D : va_G) (cI cO : ClassId) (B : Nat → Nat) (t : TS) (a b by_ : Int32) (x y : Nat) (ea : a = nI x) (eb : b = nI y) (hx : x ≤ 64) (hy : y ≤ 64) : Kt l yX2_binds wsX2_binds 1 (wM cI B) D cI cO (fun _ => True) [.ref (B 10), .int a, .int b, .int by_] t (fun r u => r = none ∧ u = (t.1, ua t.2 9 (bindsF (t.2 9) x y by_))) := by
  refine Kt_of (cc := cX2_binds) (n := 7) (ret := none) rfl (by decide +kernel) (Nat.le_of_ble_eq_true rfl) rfl [some (.ref (B 10)), some (.int a), some (.int b), some (.int by_), none, none, none] rfl ?_
  intro p e s m args below meth c A C _ _
  have hinM : ∀ w ∈ wsX20, w ∈ wsX2_binds := by decide +kernel
  subst ea
  subst eb
  have outer : by_ < t.2 9 (65 * x + y) → ∀ (k i : Nat) (g : Nat → Int32) (x5 x6 : Option Value), i + k = 65 → bindsI x y by_ k i g = bindsI x y by_ 65 0 (t.2 9) → J p l e (rmH 1) s m args below meth c 0 0 (RQ below args s D (wM cI B) (fun r u => r = none ∧ u = (t.1, ua t.2 9 (bindsF (t.2 9) x y by_))) A) 7 D A 14 [some (.ref (B 10)), some (.int (nI x)), some (.int (nI y)), some (.int by_), some (.int (nI i)), x5, x6] [] (wM cI B (t.1, ua t.2 9 (g))) := by
    intro hlt k
    have hB : bindsF (t.2 9) x y by_ = bindsI x y by_ 65 0 (t.2 9) := by rw [bindsF, if_pos hlt]
    induction k with
    | zero =>
      intro i g x5 x6 hi hr
      have hi2 : i = 65 := by omega
      subst hi2
      refine j_iload (pc' := 16) C dX2_binds_14 rfl rfl ?_
      refine j_bipush (pc' := 18) C dX2_binds_16 rfl 65 (by decide) ?_
      refine j_icmp_ge (tgt := 93) (pc' := 21) C dX2_binds_18 (by decide) rfl (fun h18 => ?_) (fun h18 => ?_)
      · skip
        refine j_return _ C dX2_binds_93 ?_
        exact ⟨rfl, by rw [hB, ← hr]; rfl⟩
      · skip
        exact absurd (by decide) h18 -- done
    | succ k ih =>
      intro i g x5 x6 hi hr
      have inner : ∀ (q j : Nat) (g1 : Nat → Int32), j + q = 65 → bindsJ y i (g (65 * i + x) + by_) q j g1 = bindsJ y i (g (65 * i + x) + by_) 65 0 g → J p l e (rmH 1) s m args below meth c 0 0 (RQ below args s D (wM cI B) (fun r u => r = none ∧ u = (t.1, ua t.2 9 (bindsF (t.2 9) x y by_))) A) 7 D A 35 [some (.ref (B 10)), some (.int (nI x)), some (.int (nI y)), some (.int by_), some (.int (nI i)), some (.int (g (65 * i + x) + by_)), some (.int (nI j))] [] (wM cI B (t.1, ua t.2 9 (g1))) := by
        intro q
        induction q with
        | zero =>
          intro j g1 hj hq
          have hj2 : j = 65 := by omega
          subst hj2
          refine j_iload (pc' := 37) C dX2_binds_35 rfl rfl ?_
          refine j_bipush (pc' := 39) C dX2_binds_37 rfl 65 (by decide) ?_
          refine j_icmp_ge (tgt := 87) (pc' := 42) C dX2_binds_39 (by decide) rfl (fun h39 => ?_) (fun h39 => ?_)
          · skip
            refine j_iinc (pc' := 90) C dX2_binds_87 rfl 1 (by decide) rfl (by decide) rfl ?_
            refine j_goto (pc' := 14) C dX2_binds_90 (by decide) ?_
            rw [nI_1]
            exact ih (i + 1) g1 _ _ (by omega) (by rw [show g1 = bindsJ y i (g (65 * i + x) + by_) 65 0 g from hq]; exact hr)
          · skip
            exact absurd (by decide) h39 -- done
        | succ q jh =>
          intro j g1 hj hq
          refine j_iload (pc' := 37) C dX2_binds_35 rfl rfl ?_
          refine j_bipush (pc' := 39) C dX2_binds_37 rfl 65 (by decide) ?_
          refine j_icmp_ge (tgt := 87) (pc' := 42) C dX2_binds_39 (by decide) rfl (fun h39 => ?_) (fun h39 => ?_)
          · skip
            exact absurd h39 (nI_ge (b := 65) (by omega) (by decide)) -- done
          · skip
            refine j_aload_n (pc' := 43) C dX2_binds_42 rfl rfl ?_
            refine jMa (pc' := 46) C dX2_binds_43 rfl 9 (by decide) hinM (by decide +kernel) ?_
            refine j_bipush (pc' := 48) C dX2_binds_46 rfl 65 (by decide) ?_
            refine j_iload (pc' := 50) C dX2_binds_48 rfl rfl ?_
            refine j_imul (pc' := 51) C dX2_binds_50 rfl ?_
            refine j_iload (pc' := 53) C dX2_binds_51 rfl rfl ?_
            refine j_iadd (pc' := 54) C dX2_binds_53 rfl ?_
            refine j_aload_n (pc' := 55) C dX2_binds_54 rfl rfl ?_
            refine jMa (pc' := 58) C dX2_binds_55 rfl 9 (by decide) hinM (by decide +kernel) ?_
            refine j_bipush (pc' := 60) C dX2_binds_58 rfl 65 (by decide) ?_
            refine j_iload (pc' := 62) C dX2_binds_60 rfl rfl ?_
            refine j_imul (pc' := 63) C dX2_binds_62 rfl ?_
            refine j_iload (pc' := 65) C dX2_binds_63 rfl rfl ?_
            refine j_iadd (pc' := 66) C dX2_binds_65 rfl ?_
            refine jMlN (pc' := 67) C dX2_binds_66 rfl 9 (by decide) (65 * i + j) (e65 i j) (by unfold lenM; simp; omega) ?_
            refine j_iload (pc' := 69) C dX2_binds_67 rfl rfl ?_
            refine j_aload_n (pc' := 70) C dX2_binds_69 rfl rfl ?_
            refine j_iload_n (pc' := 71) C dX2_binds_70 rfl rfl ?_
            refine j_iload (pc' := 73) C dX2_binds_71 rfl rfl ?_
            refine jc_same (pc' := 76) C (c_most l D cI cO B ((t.1, ua t.2 9 g1)) (nI y) (nI j) (y) (j) rfl rfl hy (by omega)) 2 gX2_binds_X2_most rfl (by decide +kernel) (by decide) rfl rfl (Nat.le_of_ble_eq_true rfl) 2 10 rfl rfl (wM_obj cI B _) (wM_addr cI B _) dX2_binds_73 rfl (fun v1 u1 hp1 => ?_)
            obtain ⟨rfl, hu1⟩ := hp1
            rw [hu1]
            clear hu1 u1
            show J p l e _ s m args below meth c 0 0 _ _ D A _ _ [_, _, _, _, _] _
            refine j_iadd (pc' := 77) C dX2_binds_76 rfl ?_
            refine j_min (pc' := 80) C dX2_binds_77 rfl (by decide +kernel) (by decide +kernel) (by decide +kernel) (by decide +kernel) (by decide) (Nat.le_of_ble_eq_true rfl) ?_
            refine jMsN (pc' := 81) C dX2_binds_80 rfl 9 (by decide) (65 * i + j) (e65 i j) (by unfold lenM; simp; omega) ?_
            refine j_iinc (pc' := 84) C dX2_binds_81 rfl 1 (by decide) rfl (by decide) rfl ?_
            refine j_goto (pc' := 35) C dX2_binds_84 (by decide) ?_
            rw [nI_1]
            refine j_ws (ws' := wM cI B (t.1, ua t.2 9 (upd g1 (65 * i + j) (if g (65 * i + x) + by_ + g1 (65 * y + j) < g1 (65 * i + j) then g (65 * i + x) + by_ + g1 (65 * y + j) else g1 (65 * i + j))))) (by show wM cI B (t.1, ua (ua t.2 9 g1) 9 _) = _; rw [ua_ua]; rfl) ?_
            exact jh (j + 1) _ (by omega) (by rw [← hq]; rfl)
            
      refine j_iload (pc' := 16) C dX2_binds_14 rfl rfl ?_
      refine j_bipush (pc' := 18) C dX2_binds_16 rfl 65 (by decide) ?_
      refine j_icmp_ge (tgt := 93) (pc' := 21) C dX2_binds_18 (by decide) rfl (fun h18 => ?_) (fun h18 => ?_)
      · skip
        exact absurd h18 (nI_ge (b := 65) (by omega) (by decide)) -- done
      · skip
        refine j_aload_n (pc' := 22) C dX2_binds_21 rfl rfl ?_
        refine j_iload (pc' := 24) C dX2_binds_22 rfl rfl ?_
        refine j_iload_n (pc' := 25) C dX2_binds_24 rfl rfl ?_
        refine jc_same (pc' := 28) C (c_most l D cI cO B ((t.1, ua t.2 9 g)) (nI i) (nI x) (i) (x) rfl rfl (by omega) hx) 2 gX2_binds_X2_most rfl (by decide +kernel) (by decide) rfl rfl (Nat.le_of_ble_eq_true rfl) 2 10 rfl rfl (wM_obj cI B _) (wM_addr cI B _) dX2_binds_25 rfl (fun v1 u1 hp1 => ?_)
        obtain ⟨rfl, hu1⟩ := hp1
        rw [hu1]
        clear hu1 u1
        show J p l e _ s m args below meth c 0 0 _ _ D A _ _ [_] _
        refine j_iload_n (pc' := 29) C dX2_binds_28 rfl rfl ?_
        refine j_iadd (pc' := 30) C dX2_binds_29 rfl ?_
        refine j_istore (pc' := 32) C dX2_binds_30 rfl (by decide) rfl ?_
        refine j_iconst (pc' := 33) C dX2_binds_32 rfl 0 (by decide) ?_
        refine j_istore (pc' := 35) C dX2_binds_33 rfl (by decide) rfl ?_
        exact inner 65 0 g (by omega) rfl
        
  refine j_iload_n (pc' := 1) C dX2_binds_0 rfl rfl ?_
  refine j_aload_n (pc' := 2) C dX2_binds_1 rfl rfl ?_
  refine j_iload_n (pc' := 3) C dX2_binds_2 rfl rfl ?_
  refine j_iload_n (pc' := 4) C dX2_binds_3 rfl rfl ?_
  refine jc_same (pc' := 7) C (c_most l D cI cO B (t) (nI x) (nI y) (x) (y) rfl rfl hx hy) 2 gX2_binds_X2_most rfl (by decide +kernel) (by decide) rfl rfl (Nat.le_of_ble_eq_true rfl) 2 10 rfl rfl (wM_obj cI B _) (wM_addr cI B _) dX2_binds_4 rfl (fun v1 u1 hp1 => ?_)
  obtain ⟨rfl, hu1⟩ := hp1
  rw [hu1]
  clear hu1 u1
  show J p l e _ s m args below meth c 0 0 _ _ D A _ _ [_, _] _
  refine j_icmp_lt (tgt := 11) (pc' := 10) C dX2_binds_7 (by decide) rfl (fun h7 => ?_) (fun h7 => ?_)
  · skip
    refine j_iconst (pc' := 12) C dX2_binds_11 rfl 0 (by decide) ?_
    refine j_istore (pc' := 14) C dX2_binds_12 rfl (by decide) rfl ?_
    refine j_ws (ws' := wM cI B (t.1, ua t.2 9 (t.2 9))) (by rw [ua_self]) ?_
    exact outer h7 65 0 _ _ _ (by omega) rfl
  · skip
    refine j_return _ C dX2_binds_10 ?_
    exact ⟨rfl, by rw [bindsF, if_neg h7, ua_self]⟩
  
end
section
/-! the Model: closes and what asks it -/
def farJ (r : Int32) (i : Nat) : Nat → Nat → (Nat → Int32) → (Nat → Int32)
  | 0, _, f => f
  | k + 1, j, f => farJ r i k (j + 1) (upd f (65 * i + j) (if i < j then r else 0))
def farI (r : Int32) : Nat → Nat → (Nat → Int32) → (Nat → Int32)
  | 0, _, f => f
  | k + 1, i, f => farI r k (i + 1) (farJ r i 65 0 f)
def far0 (r : Int32) (f : Nat → Int32) : Nat → Int32 := upd (farI r 65 0 f) 4160 (-r)
def lowF (t : TS) (K : Nat) : Int32 := if t.2 5 K < - t.2 9 (65 * (t.2 4 K).toNatClampNeg + (t.2 3 K).toNatClampNeg) then - t.2 9 (65 * (t.2 4 K).toNatClampNeg + (t.2 3 K).toNatClampNeg) else t.2 5 K
def highF (t : TS) (K : Nat) : Int32 := if t.2 9 (65 * (t.2 3 K).toNatClampNeg + (t.2 4 K).toNatClampNeg) < t.2 6 K then t.2 9 (65 * (t.2 3 K).toNatClampNeg + (t.2 4 K).toNatClampNeg) else t.2 6 K
def closS (i : Nat) (t : TS) (c : Nat) : TS :=
  if t.2 1 i - nI c ≤ t.2 2 i then
    (if lowF t (40 * i + c) ≤ highF t (40 * i + c) then
      (t.1, ua (ua t.2 7 (upd (t.2 7) (40 * i + c) 0)) 9 (bindsF (bindsF (t.2 9) (t.2 3 (40 * i + c)).toNatClampNeg (t.2 4 (40 * i + c)).toNatClampNeg (highF t (40 * i + c))) (t.2 4 (40 * i + c)).toNatClampNeg (t.2 3 (40 * i + c)).toNatClampNeg (- lowF t (40 * i + c))))
    else (t.1, ua t.2 7 (upd (t.2 7) (40 * i + c) 1)))
  else (t.1, ua t.2 7 (upd (t.2 7) (40 * i + c) 2))
def closL (i : Nat) : Nat → TS → TS
  | 0, t => t
  | c + 1, t => closL i c (closS i t c)
def clos0 (t : TS) (i : Nat) : TS := (upd t.1 10 (nI i), ua t.2 9 (far0 (t.2 0 i) (t.2 9)))
def closF (t : TS) (i : Nat) : TS := if t.1 10 = nI i then t else closL i (t.2 1 i).toNatClampNeg (clos0 t i)
def sameM (tt t : TS) : Prop := ∀ k, k ≠ 7 → k ≠ 9 → tt.2 k = t.2 k
theorem sameM.rf (t : TS) : sameM t t := fun _ _ _ => rfl
theorem sameM_7 {tt t : TS} (h : sameM tt t) (g : Nat → Int32) : sameM (tt.1, ua tt.2 7 g) t := fun k h1 h2 => by
  show ua tt.2 7 g k = _
  rw [ua_n _ _ h1]; exact h k h1 h2
theorem sameM_9 {tt t : TS} (h : sameM tt t) (a : Nat → Int32) (g : Nat → Int32) : sameM (a, ua tt.2 9 g) t := fun k h1 h2 => by
  show ua tt.2 9 g k = _
  rw [ua_n _ _ h2]; exact h k h1 h2
theorem closS_same {tt t : TS} (i c : Nat) (h : sameM tt t) : sameM (closS i tt c) t := by
  unfold closS
  split
  · split
    · exact fun k h1 h2 => by
        show ua (ua tt.2 7 _) 9 _ k = _
        rw [ua_n _ _ h2, ua_n _ _ h1]; exact h k h1 h2
    · exact sameM_7 h _
  · exact sameM_7 h _
theorem closL_same (i : Nat) : ∀ (c : Nat) (tt t : TS), sameM tt t → sameM (closL i c tt) t
  | 0, _, _, h => h
  | c + 1, tt, t, h => closL_same i c _ _ (closS_same i c h)
theorem closF_same (t : TS) (i : Nat) : sameM (closF t i) t := by
  unfold closF; split
  · exact sameM.rf t
  · exact closL_same i _ _ _ (sameM_9 (sameM.rf t) _ _)
theorem sameM.ok {tt t : TS} (h : sameM tt t) (ho : okM t) : okM tt := by
  unfold okM at ho ⊢
  rw [h 1 (by decide) (by decide), h 3 (by decide) (by decide), h 4 (by decide) (by decide)]
  exact ho
set_option maxRecDepth 100000 in
set_option maxHeartbeats 4000000 in
theorem c_closes (l : Launch) (D : va_G) (cI cO : ClassId) (B : Nat → Nat) (t : TS) (hok : okM t) (tb : Int32) (i : Nat) (et : tb = nI i) (hi : i < 3) : Kt l yX2_closes wsX2_closes 2 (wM cI B) D cI cO (fun _ => True) [.ref (B 10), .int tb] t (fun r u => r = none ∧ u = closF t i) := by
  refine Kt_of (cc := cX2_closes) (n := 6) (ret := none) rfl (by decide +kernel) (Nat.le_of_ble_eq_true rfl) rfl [some (.ref (B 10)), some (.int tb), none, none, none, none] rfl ?_
  intro p e s m args below meth c0 A C _ _
  have hinM : ∀ w ∈ wsX20, w ∈ wsX2_closes := by decide +kernel
  subst et
  obtain ⟨en, hn41⟩ := vp_in_c (hok i hi).1 (by decide)
  obtain ⟨N, hN⟩ : ∃ N, N = (t.2 1 i).toNatClampNeg := ⟨_, rfl⟩
  rw [← hN] at en hn41
  have hft := (hok i hi).2
  rw [← hN] at hft
  have loopS : ¬ t.1 10 = nI i → ∀ (c : Nat) (tt : TS) (x3 x4 x5 : Option Value), c ≤ N → sameM tt t → closL i c tt = closL i N (clos0 t i) → J p l e (rmH 2) s m args below meth c0 0 0 (RQ below args s D (wM cI B) (fun r u => r = none ∧ u = closF t i) A) 6 D A 92 [some (.ref (B 10)), some (.int (nI i)), some (.int (nI c + (-1))), x3, x4, x5] [] (wM cI B tt) := by
    intro hne c
    have hC : closF t i = closL i N (clos0 t i) := by rw [closF, if_neg hne, hN]
    induction c with
    | zero =>
      intro tt x3 x4 x5 hc hs hr
      refine j_iload_n (pc' := 93) C dX2_closes_92 rfl rfl ?_
      refine j_if_lt (tgt := 256) (pc' := 96) C dX2_closes_93 (by decide) rfl (fun h93 => ?_) (fun h93 => ?_)
      · skip
        refine j_return _ C dX2_closes_256 ?_
        exact ⟨rfl, by rw [hC, ← hr]; rfl⟩
      · skip
        exact absurd (by decide) h93 -- done
    | succ c ih =>
      intro tt x3 x4 x5 hc hs hr
      rw [pk_m1]
      have ek := e40 i c
      have hfa : vp_in (tt.2 3 (40 * i + c)) 65 := by rw [hs 3 (by decide) (by decide)]; exact (hft c (by omega)).1
      have hfb : vp_in (tt.2 4 (40 * i + c)) 65 := by rw [hs 4 (by decide) (by decide)]; exact (hft c (by omega)).2
      obtain ⟨ea, hal⟩ := vp_in_c hfa (by decide)
      obtain ⟨eb, hbl⟩ := vp_in_c hfb (by decide)
      have h250 : ∀ (t2 : TS) (x3 x4 x5 : Option Value), t2 = closS i tt c → J p l e (rmH 2) s m args below meth c0 0 0 (RQ below args s D (wM cI B) (fun r u => r = none ∧ u = closF t i) A) 6 D A 250 [some (.ref (B 10)), some (.int (nI i)), some (.int (nI c)), x3, x4, x5] [] (wM cI B t2) := by
        intro t2 x3 x4 x5 e2
        refine j_iinc (pc' := 253) C dX2_closes_250 rfl (-1) (by decide) rfl (by decide) rfl ?_
        refine j_goto (pc' := 92) C dX2_closes_253 (by decide) ?_
        exact ih t2 _ _ _ (by omega) (by rw [e2]; exact closS_same i c hs) (by rw [e2]; exact hr)
      refine j_iload_n (pc' := 93) C dX2_closes_92 rfl rfl ?_
      refine j_if_lt (tgt := 256) (pc' := 96) C dX2_closes_93 (by decide) rfl (fun h93 => ?_) (fun h93 => ?_)
      · skip
        exact absurd h93 (nI_pos (by omega)) -- done
      · skip
        refine j_bipush (pc' := 98) C dX2_closes_96 rfl 40 (by decide) ?_
        refine j_iload_n (pc' := 99) C dX2_closes_98 rfl rfl ?_
        refine j_imul (pc' := 100) C dX2_closes_99 rfl ?_
        refine j_iload_n (pc' := 101) C dX2_closes_100 rfl rfl ?_
        refine j_iadd (pc' := 102) C dX2_closes_101 rfl ?_
        refine j_istore_n (pc' := 103) C dX2_closes_102 rfl (by decide) rfl ?_
        refine j_aload_n (pc' := 104) C dX2_closes_103 rfl rfl ?_
        refine jMa (pc' := 107) C dX2_closes_104 rfl 1 (by decide) hinM (by decide +kernel) ?_
        refine j_iload_n (pc' := 108) C dX2_closes_107 rfl rfl ?_
        refine jMlN (pc' := 109) C dX2_closes_108 rfl 1 (by decide) i rfl (by unfold lenM; simp; omega) ?_
        refine j_iload_n (pc' := 110) C dX2_closes_109 rfl rfl ?_
        refine j_isub (pc' := 111) C dX2_closes_110 rfl ?_
        refine j_aload_n (pc' := 112) C dX2_closes_111 rfl rfl ?_
        refine jMa (pc' := 115) C dX2_closes_112 rfl 2 (by decide) hinM (by decide +kernel) ?_
        refine j_iload_n (pc' := 116) C dX2_closes_115 rfl rfl ?_
        refine jMlN (pc' := 117) C dX2_closes_116 rfl 2 (by decide) i rfl (by unfold lenM; simp; omega) ?_
        refine j_icmp_le (tgt := 130) (pc' := 120) C dX2_closes_117 (by decide) rfl (fun h117 => ?_) (fun h117 => ?_)
        · skip
          refine j_aload_n (pc' := 131) C dX2_closes_130 rfl rfl ?_
          refine jMa (pc' := 134) C dX2_closes_131 rfl 5 (by decide) hinM (by decide +kernel) ?_
          refine j_iload_n (pc' := 135) C dX2_closes_134 rfl rfl ?_
          refine jMlN (pc' := 136) C dX2_closes_135 rfl 5 (by decide) (40 * i + c) ek (by unfold lenM; simp; omega) ?_
          refine j_aload_n (pc' := 137) C dX2_closes_136 rfl rfl ?_
          refine j_aload_n (pc' := 138) C dX2_closes_137 rfl rfl ?_
          refine jMa (pc' := 141) C dX2_closes_138 rfl 4 (by decide) hinM (by decide +kernel) ?_
          refine j_iload_n (pc' := 142) C dX2_closes_141 rfl rfl ?_
          refine jMlN (pc' := 143) C dX2_closes_142 rfl 4 (by decide) (40 * i + c) ek (by unfold lenM; simp; omega) ?_
          refine j_aload_n (pc' := 144) C dX2_closes_143 rfl rfl ?_
          refine jMa (pc' := 147) C dX2_closes_144 rfl 3 (by decide) hinM (by decide +kernel) ?_
          refine j_iload_n (pc' := 148) C dX2_closes_147 rfl rfl ?_
          refine jMlN (pc' := 149) C dX2_closes_148 rfl 3 (by decide) (40 * i + c) ek (by unfold lenM; simp; omega) ?_
          refine jc_same (pc' := 152) C (c_most l D cI cO B (tt) (tt.2 4 (40 * i + c)) (tt.2 3 (40 * i + c)) ((tt.2 4 (40 * i + c)).toNatClampNeg) ((tt.2 3 (40 * i + c)).toNatClampNeg) eb ea (by omega) (by omega)) 2 gX2_closes_X2_most rfl (by decide +kernel) (by decide) rfl rfl (Nat.le_of_ble_eq_true rfl) 2 10 rfl rfl (wM_obj cI B _) (wM_addr cI B _) dX2_closes_149 rfl (fun v1 u1 hp1 => ?_)
          obtain ⟨rfl, hu1⟩ := hp1
          rw [hu1]
          clear hu1 u1
          show J p l e _ s m args below meth c0 0 0 _ _ D A _ _ [_, _] _
          refine j_ineg (pc' := 153) C dX2_closes_152 rfl ?_
          refine j_max (pc' := 156) C dX2_closes_153 rfl (by decide +kernel) (by decide +kernel) (by decide +kernel) (by decide +kernel) (by decide) (Nat.le_of_ble_eq_true rfl) ?_
          refine j_istore (pc' := 158) C dX2_closes_156 rfl (by decide) rfl ?_
          refine j_aload_n (pc' := 159) C dX2_closes_158 rfl rfl ?_
          refine jMa (pc' := 162) C dX2_closes_159 rfl 6 (by decide) hinM (by decide +kernel) ?_
          refine j_iload_n (pc' := 163) C dX2_closes_162 rfl rfl ?_
          refine jMlN (pc' := 164) C dX2_closes_163 rfl 6 (by decide) (40 * i + c) ek (by unfold lenM; simp; omega) ?_
          refine j_aload_n (pc' := 165) C dX2_closes_164 rfl rfl ?_
          refine j_aload_n (pc' := 166) C dX2_closes_165 rfl rfl ?_
          refine jMa (pc' := 169) C dX2_closes_166 rfl 3 (by decide) hinM (by decide +kernel) ?_
          refine j_iload_n (pc' := 170) C dX2_closes_169 rfl rfl ?_
          refine jMlN (pc' := 171) C dX2_closes_170 rfl 3 (by decide) (40 * i + c) ek (by unfold lenM; simp; omega) ?_
          refine j_aload_n (pc' := 172) C dX2_closes_171 rfl rfl ?_
          refine jMa (pc' := 175) C dX2_closes_172 rfl 4 (by decide) hinM (by decide +kernel) ?_
          refine j_iload_n (pc' := 176) C dX2_closes_175 rfl rfl ?_
          refine jMlN (pc' := 177) C dX2_closes_176 rfl 4 (by decide) (40 * i + c) ek (by unfold lenM; simp; omega) ?_
          refine jc_same (pc' := 180) C (c_most l D cI cO B (tt) (tt.2 3 (40 * i + c)) (tt.2 4 (40 * i + c)) ((tt.2 3 (40 * i + c)).toNatClampNeg) ((tt.2 4 (40 * i + c)).toNatClampNeg) ea eb (by omega) (by omega)) 2 gX2_closes_X2_most rfl (by decide +kernel) (by decide) rfl rfl (Nat.le_of_ble_eq_true rfl) 2 10 rfl rfl (wM_obj cI B _) (wM_addr cI B _) dX2_closes_177 rfl (fun v1 u1 hp1 => ?_)
          obtain ⟨rfl, hu1⟩ := hp1
          rw [hu1]
          clear hu1 u1
          show J p l e _ s m args below meth c0 0 0 _ _ D A _ _ [_, _] _
          refine j_min (pc' := 183) C dX2_closes_180 rfl (by decide +kernel) (by decide +kernel) (by decide +kernel) (by decide +kernel) (by decide) (Nat.le_of_ble_eq_true rfl) ?_
          refine j_istore (pc' := 185) C dX2_closes_183 rfl (by decide) rfl ?_
          have h203g : J p l e (rmH 2) s m args below meth c0 0 0 (RQ below args s D (wM cI B) (fun r u => r = none ∧ u = closF t i) A) 6 D A 203 [some (.ref (B 10)), some (.int (nI i)), some (.int (nI c)), some (.int (40 * nI i + nI c)), some (.int (lowF tt (40 * i + c))), some (.int (highF tt (40 * i + c)))] [] (wM cI B (tt.1, ua tt.2 7 (upd (tt.2 7) (40 * i + c) (if highF tt (40 * i + c) < lowF tt (40 * i + c) then 1 else 0)))) := by
            refine j_iload (pc' := 205) C dX2_closes_203 rfl rfl ?_
            refine j_iload (pc' := 207) C dX2_closes_205 rfl rfl ?_
            refine j_icmp_le (tgt := 213) (pc' := 210) C dX2_closes_207 (by decide) rfl (fun h207 => ?_) (fun h207 => ?_)
            · skip
              rw [if_neg (i32_le_nlt h207)]
              refine j_aload_n (pc' := 214) C dX2_closes_213 rfl rfl ?_
              refine j_aload_n (pc' := 215) C dX2_closes_214 rfl rfl ?_
              refine jMa (pc' := 218) C dX2_closes_215 rfl 3 (by decide) hinM (by decide +kernel) ?_
              refine j_iload_n (pc' := 219) C dX2_closes_218 rfl rfl ?_
              refine jMlN (pc' := 220) C dX2_closes_219 rfl 3 (by decide) (40 * i + c) ek (by unfold lenM; simp; omega) ?_
              refine j_aload_n (pc' := 221) C dX2_closes_220 rfl rfl ?_
              refine jMa (pc' := 224) C dX2_closes_221 rfl 4 (by decide) hinM (by decide +kernel) ?_
              refine j_iload_n (pc' := 225) C dX2_closes_224 rfl rfl ?_
              refine jMlN (pc' := 226) C dX2_closes_225 rfl 4 (by decide) (40 * i + c) ek (by unfold lenM; simp; omega) ?_
              refine j_iload (pc' := 228) C dX2_closes_226 rfl rfl ?_
              refine jc_same (pc' := 231) C (c_binds l D cI cO B ((tt.1, ua tt.2 7 (upd (tt.2 7) (40 * i + c) 0))) (tt.2 3 (40 * i + c)) (tt.2 4 (40 * i + c)) (highF tt (40 * i + c)) ((tt.2 3 (40 * i + c)).toNatClampNeg) ((tt.2 4 (40 * i + c)).toNatClampNeg) ea eb (by omega) (by omega)) 3 gX2_closes_X2_binds rfl (by decide +kernel) (by decide) rfl rfl (Nat.le_of_ble_eq_true rfl) 2 10 rfl rfl (wM_obj cI B _) (wM_addr cI B _) dX2_closes_228 rfl (fun v1 u1 hp1 => ?_)
              obtain ⟨rfl, rfl⟩ := hp1
              show J p l e _ s m args below meth c0 0 0 _ _ D A _ _ [] _
              refine j_ws (ws' := wM cI B (tt.1, ua (ua tt.2 7 (upd (tt.2 7) (40 * i + c) 0)) 9 (bindsF (tt.2 9) (tt.2 3 (40 * i + c)).toNatClampNeg (tt.2 4 (40 * i + c)).toNatClampNeg (highF tt (40 * i + c))))) rfl ?_
              refine j_aload_n (pc' := 232) C dX2_closes_231 rfl rfl ?_
              refine j_aload_n (pc' := 233) C dX2_closes_232 rfl rfl ?_
              refine jMa (pc' := 236) C dX2_closes_233 rfl 4 (by decide) hinM (by decide +kernel) ?_
              refine j_iload_n (pc' := 237) C dX2_closes_236 rfl rfl ?_
              refine jMlN (pc' := 238) C dX2_closes_237 rfl 4 (by decide) (40 * i + c) ek (by unfold lenM; simp; omega) ?_
              refine j_aload_n (pc' := 239) C dX2_closes_238 rfl rfl ?_
              refine jMa (pc' := 242) C dX2_closes_239 rfl 3 (by decide) hinM (by decide +kernel) ?_
              refine j_iload_n (pc' := 243) C dX2_closes_242 rfl rfl ?_
              refine jMlN (pc' := 244) C dX2_closes_243 rfl 3 (by decide) (40 * i + c) ek (by unfold lenM; simp; omega) ?_
              refine j_iload (pc' := 246) C dX2_closes_244 rfl rfl ?_
              refine j_ineg (pc' := 247) C dX2_closes_246 rfl ?_
              refine jc_same (pc' := 250) C (c_binds l D cI cO B ((tt.1, ua (ua tt.2 7 (upd (tt.2 7) (40 * i + c) 0)) 9 (bindsF (tt.2 9) (tt.2 3 (40 * i + c)).toNatClampNeg (tt.2 4 (40 * i + c)).toNatClampNeg (highF tt (40 * i + c))))) (tt.2 4 (40 * i + c)) (tt.2 3 (40 * i + c)) (- lowF tt (40 * i + c)) ((tt.2 4 (40 * i + c)).toNatClampNeg) ((tt.2 3 (40 * i + c)).toNatClampNeg) eb ea (by omega) (by omega)) 3 gX2_closes_X2_binds rfl (by decide +kernel) (by decide) rfl rfl (Nat.le_of_ble_eq_true rfl) 2 10 rfl rfl (wM_obj cI B _) (wM_addr cI B _) dX2_closes_247 rfl (fun v1 u1 hp1 => ?_)
              obtain ⟨rfl, rfl⟩ := hp1
              show J p l e _ s m args below meth c0 0 0 _ _ D A _ _ [] _
              refine j_ws (ws' := wM cI B (closS i tt c)) (by rw [closS, if_pos h117, if_pos h207]; show wM cI B (tt.1, ua (ua (ua tt.2 7 _) 9 _) 9 _) = _; rw [ua_ua]; rfl) ?_
              exact h250 _ _ _ _ rfl
              
            · skip
              rw [if_pos (i32_nle h207)]
              refine j_goto (pc' := 250) C dX2_closes_210 (by decide) ?_
              exact h250 _ _ _ _ (by rw [closS, if_pos h117, if_neg h207])
          have h202 : ∀ x : Int32, x = (if highF tt (40 * i + c) < lowF tt (40 * i + c) then 1 else 0) → J p l e (rmH 2) s m args below meth c0 0 0 (RQ below args s D (wM cI B) (fun r u => r = none ∧ u = closF t i) A) 6 D A 202 [some (.ref (B 10)), some (.int (nI i)), some (.int (nI c)), some (.int (40 * nI i + nI c)), some (.int (lowF tt (40 * i + c))), some (.int (highF tt (40 * i + c)))] [.int x, .int (40 * nI i + nI c), .ref (B 7)] (wM cI B tt) := by
            intro x ex
            refine jMsN (pc' := 203) C dX2_closes_202 rfl 7 (by decide) (40 * i + c) ek (by unfold lenM; simp; omega) ?_
            rw [ex]
            exact h203g
          refine j_aload_n (pc' := 186) C dX2_closes_185 rfl rfl ?_
          refine jMa (pc' := 189) C dX2_closes_186 rfl 7 (by decide) hinM (by decide +kernel) ?_
          refine j_iload_n (pc' := 190) C dX2_closes_189 rfl rfl ?_
          refine j_iload (pc' := 192) C dX2_closes_190 rfl rfl ?_
          refine j_iload (pc' := 194) C dX2_closes_192 rfl rfl ?_
          refine j_icmp_gt (tgt := 201) (pc' := 197) C dX2_closes_194 (by decide) rfl (fun h194 => ?_) (fun h194 => ?_)
          · skip
            refine j_iconst (pc' := 202) C dX2_closes_201 rfl 1 (by decide) ?_
            first | exact h202 _ (if_pos h194).symm | exact h202 _ (if_neg h194).symm
          · skip
            refine j_iconst (pc' := 198) C dX2_closes_197 rfl 0 (by decide) ?_
            refine j_goto (pc' := 202) C dX2_closes_198 (by decide) ?_
            first | exact h202 _ (if_pos h194).symm | exact h202 _ (if_neg h194).symm
          
          
          
        · skip
          refine j_aload_n (pc' := 121) C dX2_closes_120 rfl rfl ?_
          refine jMa (pc' := 124) C dX2_closes_121 rfl 7 (by decide) hinM (by decide +kernel) ?_
          refine j_iload_n (pc' := 125) C dX2_closes_124 rfl rfl ?_
          refine j_iconst (pc' := 126) C dX2_closes_125 rfl 2 (by decide) ?_
          refine jMsN (pc' := 127) C dX2_closes_126 rfl 7 (by decide) (40 * i + c) ek (by unfold lenM; simp; omega) ?_
          refine j_goto (pc' := 250) C dX2_closes_127 (by decide) ?_
          exact h250 _ _ _ _ (by rw [closS, if_neg h117])
  have outer : ¬ t.1 10 = nI i → ∀ (k a : Nat) (g : Nat → Int32) (x3 x4 x5 : Option Value), a + k = 65 → farI (t.2 0 i) k a g = farI (t.2 0 i) 65 0 (t.2 9) → J p l e (rmH 2) s m args below meth c0 0 0 (RQ below args s D (wM cI B) (fun r u => r = none ∧ u = closF t i) A) 6 D A 16 [some (.ref (B 10)), some (.int (nI i)), some (.int (nI a)), x3, x4, x5] [] (wM cI B (upd t.1 10 (nI i), ua t.2 9 (g))) := by
    intro hne k
    induction k with
    | zero =>
      intro a g x3 x4 x5 ha hr
      have ha2 : a = 65 := by omega
      subst ha2
      refine j_iload_n (pc' := 17) C dX2_closes_16 rfl rfl ?_
      refine j_bipush (pc' := 19) C dX2_closes_17 rfl 65 (by decide) ?_
      refine j_icmp_ge (tgt := 68) (pc' := 22) C dX2_closes_19 (by decide) rfl (fun h19 => ?_) (fun h19 => ?_)
      · skip
        refine j_aload_n (pc' := 69) C dX2_closes_68 rfl rfl ?_
        refine jMa (pc' := 72) C dX2_closes_69 rfl 9 (by decide) hinM (by decide +kernel) ?_
        refine j_sipush (pc' := 75) C dX2_closes_72 rfl 4160 (by decide) ?_
        refine j_aload_n (pc' := 76) C dX2_closes_75 rfl rfl ?_
        refine jMa (pc' := 79) C dX2_closes_76 rfl 0 (by decide) hinM (by decide +kernel) ?_
        refine j_iload_n (pc' := 80) C dX2_closes_79 rfl rfl ?_
        refine jMlN (pc' := 81) C dX2_closes_80 rfl 0 (by decide) i rfl (by unfold lenM; simp; omega) ?_
        refine j_ineg (pc' := 82) C dX2_closes_81 rfl ?_
        refine jMsN (pc' := 83) C dX2_closes_82 rfl 9 (by decide) 4160 rfl (by decide) ?_
        refine j_aload_n (pc' := 84) C dX2_closes_83 rfl rfl ?_
        refine jMa (pc' := 87) C dX2_closes_84 rfl 1 (by decide) hinM (by decide +kernel) ?_
        refine j_iload_n (pc' := 88) C dX2_closes_87 rfl rfl ?_
        refine jMlN (pc' := 89) C dX2_closes_88 rfl 1 (by decide) i rfl (by unfold lenM; simp; omega) ?_
        refine j_iconst (pc' := 90) C dX2_closes_89 rfl 1 (by decide) ?_
        refine j_isub (pc' := 91) C dX2_closes_90 rfl ?_
        refine j_istore_n (pc' := 92) C dX2_closes_91 rfl (by decide) rfl ?_
        refine j_ws (ws' := wM cI B (clos0 t i)) (by show wM cI B (upd t.1 10 (nI i), ua (ua t.2 9 g) 9 _) = _; rw [ua_ua, show g = farI (t.2 0 i) 65 0 (t.2 9) from hr]; rfl) ?_
        have hb0 := loopS hne N (clos0 t i) x3 x4 x5 (Nat.le_refl _) (sameM_9 (sameM.rf t) _ _) rfl
        rw [← en, show (t.2 1 i) + (-1) = t.2 1 i - 1 from (Int32.sub_eq_add_neg _ _).symm] at hb0
        exact hb0
      · skip
        exact absurd (by decide) h19 -- done
    | succ k ih =>
      intro a g x3 x4 x5 ha hr
      have inner : ∀ (q j : Nat) (g1 : Nat → Int32) (x4 x5 : Option Value), j + q = 65 → farJ (t.2 0 i) a q j g1 = farJ (t.2 0 i) a 65 0 g → J p l e (rmH 2) s m args below meth c0 0 0 (RQ below args s D (wM cI B) (fun r u => r = none ∧ u = closF t i) A) 6 D A 24 [some (.ref (B 10)), some (.int (nI i)), some (.int (nI a)), some (.int (nI j)), x4, x5] [] (wM cI B (upd t.1 10 (nI i), ua t.2 9 (g1))) := by
        intro q
        induction q with
        | zero =>
          intro j g1 x4 x5 hj hq
          have hj2 : j = 65 := by omega
          subst hj2
          refine j_iload_n (pc' := 25) C dX2_closes_24 rfl rfl ?_
          refine j_bipush (pc' := 27) C dX2_closes_25 rfl 65 (by decide) ?_
          refine j_icmp_ge (tgt := 62) (pc' := 30) C dX2_closes_27 (by decide) rfl (fun h27 => ?_) (fun h27 => ?_)
          · skip
            refine j_iinc (pc' := 65) C dX2_closes_62 rfl 1 (by decide) rfl (by decide) rfl ?_
            refine j_goto (pc' := 16) C dX2_closes_65 (by decide) ?_
            rw [nI_1]
            exact ih (a + 1) g1 _ _ _ (by omega) (by rw [show g1 = farJ (t.2 0 i) a 65 0 g from hq]; exact hr)
          · skip
            exact absurd (by decide) h27 -- done
        | succ q jh =>
          intro j g1 x4 x5 hj hq
          have h55 : ∀ x : Int32, x = (if a < j then t.2 0 i else 0) → J p l e (rmH 2) s m args below meth c0 0 0 (RQ below args s D (wM cI B) (fun r u => r = none ∧ u = closF t i) A) 6 D A 55 [some (.ref (B 10)), some (.int (nI i)), some (.int (nI a)), some (.int (nI j)), x4, x5] [.int x, .int (65 * nI a + nI j), .ref (B 9)] (wM cI B (upd t.1 10 (nI i), ua t.2 9 (g1))) := by
            intro x ex
            refine jMsN (pc' := 56) C dX2_closes_55 rfl 9 (by decide) (65 * a + j) (e65 a j) (by unfold lenM; simp; omega) ?_
            refine j_iinc (pc' := 59) C dX2_closes_56 rfl 1 (by decide) rfl (by decide) rfl ?_
            refine j_goto (pc' := 24) C dX2_closes_59 (by decide) ?_
            rw [nI_1]
            refine j_ws (ws' := wM cI B (upd t.1 10 (nI i), ua t.2 9 (upd g1 (65 * a + j) (if a < j then t.2 0 i else 0)))) (by show wM cI B (upd t.1 10 (nI i), ua (ua t.2 9 g1) 9 _) = _; rw [ua_ua, ex]; rfl) ?_
            exact jh (j + 1) _ _ _ (by omega) (by rw [← hq]; rfl)
          refine j_iload_n (pc' := 25) C dX2_closes_24 rfl rfl ?_
          refine j_bipush (pc' := 27) C dX2_closes_25 rfl 65 (by decide) ?_
          refine j_icmp_ge (tgt := 62) (pc' := 30) C dX2_closes_27 (by decide) rfl (fun h27 => ?_) (fun h27 => ?_)
          · skip
            exact absurd h27 (nI_ge (b := 65) (by omega) (by decide)) -- done
          · skip
            refine j_aload_n (pc' := 31) C dX2_closes_30 rfl rfl ?_
            refine jMa (pc' := 34) C dX2_closes_31 rfl 9 (by decide) hinM (by decide +kernel) ?_
            refine j_bipush (pc' := 36) C dX2_closes_34 rfl 65 (by decide) ?_
            refine j_iload_n (pc' := 37) C dX2_closes_36 rfl rfl ?_
            refine j_imul (pc' := 38) C dX2_closes_37 rfl ?_
            refine j_iload_n (pc' := 39) C dX2_closes_38 rfl rfl ?_
            refine j_iadd (pc' := 40) C dX2_closes_39 rfl ?_
            refine j_iload_n (pc' := 41) C dX2_closes_40 rfl rfl ?_
            refine j_iload_n (pc' := 42) C dX2_closes_41 rfl rfl ?_
            refine j_icmp_ge (tgt := 54) (pc' := 45) C dX2_closes_42 (by decide) rfl (fun h42 => ?_) (fun h42 => ?_)
            · skip
              have hx0 : ¬ a < j := fun q => absurd h42 (nI_ge q (by omega))
              refine j_iconst (pc' := 55) C dX2_closes_54 rfl 0 (by decide) ?_
              first | exact h55 _ (if_pos hx1).symm | exact h55 _ (if_neg hx0).symm
            · skip
              have hx1 : a < j := by
                rcases Nat.lt_or_ge a j with q | q
                · exact q
                · exact absurd (nI_le q (by omega)) h42
              refine j_aload_n (pc' := 46) C dX2_closes_45 rfl rfl ?_
              refine jMa (pc' := 49) C dX2_closes_46 rfl 0 (by decide) hinM (by decide +kernel) ?_
              refine j_iload_n (pc' := 50) C dX2_closes_49 rfl rfl ?_
              refine jMlN (pc' := 51) C dX2_closes_50 rfl 0 (by decide) i rfl (by unfold lenM; simp; omega) ?_
              refine j_goto (pc' := 55) C dX2_closes_51 (by decide) ?_
              first | exact h55 _ (if_pos hx1).symm | exact h55 _ (if_neg hx0).symm
      refine j_iload_n (pc' := 17) C dX2_closes_16 rfl rfl ?_
      refine j_bipush (pc' := 19) C dX2_closes_17 rfl 65 (by decide) ?_
      refine j_icmp_ge (tgt := 68) (pc' := 22) C dX2_closes_19 (by decide) rfl (fun h19 => ?_) (fun h19 => ?_)
      · skip
        exact absurd h19 (nI_ge (b := 65) (by omega) (by decide)) -- done
      · skip
        refine j_iconst (pc' := 23) C dX2_closes_22 rfl 0 (by decide) ?_
        refine j_istore_n (pc' := 24) C dX2_closes_23 rfl (by decide) rfl ?_
        exact inner 65 0 g _ _ (by omega) rfl
  refine j_aload_n (pc' := 1) C dX2_closes_0 rfl rfl ?_
  refine jMi (pc' := 4) C dX2_closes_1 rfl hinM (by decide +kernel) ?_
  refine j_iload_n (pc' := 5) C dX2_closes_4 rfl rfl ?_
  refine j_icmp_ne (tgt := 9) (pc' := 8) C dX2_closes_5 (by decide) rfl (fun h5 => ?_) (fun h5 => ?_)
  · skip
    refine j_aload_n (pc' := 10) C dX2_closes_9 rfl rfl ?_
    refine j_iload_n (pc' := 11) C dX2_closes_10 rfl rfl ?_
    refine jMp (pc' := 14) C dX2_closes_11 rfl hinM (by decide +kernel) ?_
    refine j_iconst (pc' := 15) C dX2_closes_14 rfl 0 (by decide) ?_
    refine j_istore_n (pc' := 16) C dX2_closes_15 rfl (by decide) rfl ?_
    refine j_ws (ws' := wM cI B (upd t.1 10 (nI i), ua t.2 9 (t.2 9))) (by rw [ua_self]) ?_
    exact outer h5 65 0 _ _ _ _ (by omega) rfl
  · skip
    refine j_return _ C dX2_closes_8 ?_
    exact ⟨rfl, by rw [closF, if_pos h5]⟩
end
section
/-! the Model: sightOf, least, greatest, many, table, agrees -/
theorem isIn_pred {sg : Int32} {n : Nat} (hn : n < 2 ^ 30) (h : ¬ isInF sg 0 (nI n - 1) = 0) : ∃ j : Nat, j < n ∧ sg = nI j := by
  cases n with
  | zero =>
    obtain ⟨h1, h2⟩ := isInF_1 h
    rw [Int32.le_iff_toInt_le] at h1 h2
    have e1 : (nI 0 - 1 : Int32).toInt = -1 := by decide
    have e2 : (0 : Int32).toInt = 0 := rfl
    omega
  | succ n =>
    rw [nI_pred] at h
    obtain ⟨i, h1, h2⟩ := isInF_nI n (by omega) h
    exact ⟨i, by omega, h2⟩
def mSightVal (t : TS) (K : Nat) (w : Int32) : Int32 := if w = 0 then t.2 3 K else if w = 1 then t.2 4 K else if w = 2 then t.2 5 K else if w = 3 then t.2 6 K else if w = 4 then t.2 7 K else -1
def mSightOf (t : TS) (tb sg w : Int32) : Int32 × TS := if isInF tb 0 2 = 0 ∨ isInF sg 0 (t.2 1 tb.toNatClampNeg - 1) = 0 then (-1, t) else (mSightVal (closF t tb.toNatClampNeg) (40 * tb.toNatClampNeg + sg.toNatClampNeg) w, closF t tb.toNatClampNeg)
def mLeast (t : TS) (tb a b : Int32) : Int32 × TS := if isInF tb 0 2 = 0 ∨ isSpanF a b = 0 then (-1, t) else (- (closF t tb.toNatClampNeg).2 9 (65 * b.toNatClampNeg + a.toNatClampNeg), closF t tb.toNatClampNeg)
def mGreatest (t : TS) (tb a b : Int32) : Int32 × TS := if isInF tb 0 2 = 0 ∨ isSpanF a b = 0 then (-1, t) else ((closF t tb.toNatClampNeg).2 9 (65 * a.toNatClampNeg + b.toNatClampNeg), closF t tb.toNatClampNeg)
def cntR (f : Nat → Int32) (st : Int32) (lo : Nat) : Nat → Int32
  | 0 => 0
  | n + 1 => cntR f st lo n + (if f (lo + n) = st then 1 else 0)
def manyF (t : TS) (i : Nat) (st : Int32) : Int32 := cntR ((closF t i).2 7) st (40 * i) (t.2 1 i).toNatClampNeg
def mTable (t : TS) (tb w : Int32) : Int32 × TS := if isInF tb 0 2 = 0 then (-1, t) else if w = 0 then (t.2 0 tb.toNatClampNeg, t) else if w = 1 then (t.2 1 tb.toNatClampNeg, t) else if w = 2 then (manyF t tb.toNatClampNeg 0, closF t tb.toNatClampNeg) else if w = 3 then (manyF t tb.toNatClampNeg 1, closF t tb.toNatClampNeg) else if w = 4 then (manyF t tb.toNatClampNeg 2, closF t tb.toNatClampNeg) else if w = 5 then (t.2 2 tb.toNatClampNeg, t) else (-1, t)
def agV (a : Int32) (t : TS) (i K : Nat) : Int32 := if a = 0 then 0 else if ¬ t.2 7 K = 0 then 1 else if lg_cmp (sumT (t.2 8) (64 * i + (t.2 3 K).toNatClampNeg) ((t.2 4 K).toNatClampNeg - (t.2 3 K).toNatClampNeg)) (t.2 5 K).toInt64 < 0 then 0 else if t.2 6 K = 1000001 then 1 else if 0 < lg_cmp (sumT (t.2 8) (64 * i + (t.2 3 K).toNatClampNeg) ((t.2 4 K).toNatClampNeg - (t.2 3 K).toNatClampNeg)) (t.2 6 K).toInt64 then 0 else 1
def magL (t : TS) (i : Nat) : Nat → Nat → Int32 → Int32
  | 0, _, a => a
  | k + 1, c, a => magL t i k (c + 1) (agV a t i (40 * i + c))
def magF (t : TS) (i : Nat) : Int32 := magL (closF t i) i (t.2 1 i).toNatClampNeg 0 (if lg_cmp (sumT ((closF t i).2 8) (64 * i) 64) ((closF t i).2 0 i).toInt64 = 0 then 1 else 0)
def mAgrees (t : TS) (tb : Int32) : Int32 × TS := if isInF tb 0 2 = 0 then (-1, t) else (if magF t tb.toNatClampNeg = 0 then 0 else 1, closF t tb.toNatClampNeg)
theorem agV_01 (a : Int32) (t : TS) (i K : Nat) : agV a t i K = 0 ∨ agV a t i K = 1 := by
  unfold agV; (repeat' split) <;> first | exact Or.inl rfl | exact Or.inr rfl
set_option maxRecDepth 100000 in
set_option maxHeartbeats 4000000 in
theorem c_MsightOf (l : Launch) (D : va_G) (cI cO : ClassId) (B : Nat → Nat) (t : TS) (hok : okM t) (tb sg w : Int32) : Kt l yX2_sightOf wsX2_sightOf 3 (wM cI B) D cI cO (fun _ => True) [.ref (B 10), .int tb, .int sg, .int w] t (fun r u => r = some (.int (mSightOf t tb sg w).1) ∧ u = (mSightOf t tb sg w).2) := by
  refine Kt_of (cc := cX2_sightOf) (n := 5) (ret := some .int) rfl (by decide +kernel) (Nat.le_of_ble_eq_true rfl) rfl [some (.ref (B 10)), some (.int tb), some (.int sg), some (.int w), none] rfl ?_
  intro p e s m args below meth c A C _ _
  have hinM : ∀ w ∈ wsX20, w ∈ wsX2_sightOf := by decide +kernel
  refine j_iload_n (pc' := 1) C dX2_sightOf_0 rfl rfl ?_
  refine jc_nil (pc' := 4) C (c_isTable l D cI cO _) 1 gX2_sightOf_X2_isTable rfl (by decide +kernel) (by decide) rfl rfl (Nat.le_of_ble_eq_true rfl) dX2_sightOf_1 rfl (fun v1 hp1 => ?_)
  subst hp1
  show J p l e _ s m args below meth c 0 0 _ _ D A _ _ [_] _
  refine j_if_eq (tgt := 23) (pc' := 7) C dX2_sightOf_4 (by decide) rfl (fun h4 => ?_) (fun h4 => ?_)
  · skip
    have hF : mSightOf t tb sg w = (-1, t) := by rw [mSightOf, if_pos (Or.inl h4)]
    refine j_iconst (pc' := 24) C dX2_sightOf_23 rfl (-1) (by decide) ?_
    refine j_ireturn _ C dX2_sightOf_24 ?_
    exact ⟨by rw [hF] <;> rfl, by rw [hF] <;> rfl⟩
  · skip
    obtain ⟨i, hi, rfl⟩ := isTb h4
    refine j_iload_n (pc' := 8) C dX2_sightOf_7 rfl rfl ?_
    refine j_iconst (pc' := 9) C dX2_sightOf_8 rfl 0 (by decide) ?_
    refine j_aload_n (pc' := 10) C dX2_sightOf_9 rfl rfl ?_
    refine jMa (pc' := 13) C dX2_sightOf_10 rfl 1 (by decide) hinM (by decide +kernel) ?_
    refine j_iload_n (pc' := 14) C dX2_sightOf_13 rfl rfl ?_
    refine jMlN (pc' := 15) C dX2_sightOf_14 rfl 1 (by decide) i rfl (by unfold lenM; simp; omega) ?_
    refine j_iconst (pc' := 16) C dX2_sightOf_15 rfl 1 (by decide) ?_
    refine j_isub (pc' := 17) C dX2_sightOf_16 rfl ?_
    refine jc_nil (pc' := 20) C (c_isIn l D cI cO _ _ _) 3 gX2_sightOf_X2_isIn rfl (by decide +kernel) (by decide) rfl rfl (Nat.le_of_ble_eq_true rfl) dX2_sightOf_17 rfl (fun v1 hp1 => ?_)
    subst hp1
    show J p l e _ s m args below meth c 0 0 _ _ D A _ _ [_] _
    refine j_if_ne (tgt := 25) (pc' := 23) C dX2_sightOf_20 (by decide) rfl (fun h20 => ?_) (fun h20 => ?_)
    · skip
      obtain ⟨en, hn41⟩ := vp_in_c (hok i hi).1 (by decide)
      have hF0 : mSightOf t (nI i) sg w = (mSightVal (closF t i) (40 * i + sg.toNatClampNeg) w, closF t i) := by rw [mSightOf, nI_clamp (by omega), if_neg (fun q => q.elim h4 h20)]
      rw [en] at h20
      obtain ⟨j, hj, rfl⟩ := isIn_pred (by omega) h20
      rw [nI_clamp (show j < 2 ^ 31 by omega)] at hF0
      refine j_aload_n (pc' := 26) C dX2_sightOf_25 rfl rfl ?_
      refine j_iload_n (pc' := 27) C dX2_sightOf_26 rfl rfl ?_
      refine jc_same (pc' := 30) C (c_closes l D cI cO B t hok (nI i) i rfl hi) 1 gX2_sightOf_X2_closes rfl (by decide +kernel) (by decide) rfl rfl (by decide) 2 10 rfl rfl (wM_obj cI B _) (wM_addr cI B _) dX2_sightOf_27 rfl (fun v1 u1 hp1 => ?_)
      obtain ⟨rfl, rfl⟩ := hp1
      show J p l e _ s m args below meth c 0 0 _ _ D A _ _ [] _
      have hokc : okM (closF t i) := (closF_same t i).ok hok
      refine j_bipush (pc' := 32) C dX2_sightOf_30 rfl 40 (by decide) ?_
      refine j_iload_n (pc' := 33) C dX2_sightOf_32 rfl rfl ?_
      refine j_imul (pc' := 34) C dX2_sightOf_33 rfl ?_
      refine j_iload_n (pc' := 35) C dX2_sightOf_34 rfl rfl ?_
      refine j_iadd (pc' := 36) C dX2_sightOf_35 rfl ?_
      refine j_istore (pc' := 38) C dX2_sightOf_36 rfl (by decide) rfl ?_
      refine j_iload_n (pc' := 39) C dX2_sightOf_38 rfl rfl ?_
      refine j_if_ne (tgt := 52) (pc' := 42) C dX2_sightOf_39 (by decide) rfl (fun h39 => ?_) (fun h39 => ?_)
      · skip
        refine j_iload_n (pc' := 53) C dX2_sightOf_52 rfl rfl ?_
        refine j_iconst (pc' := 54) C dX2_sightOf_53 rfl 1 (by decide) ?_
        refine j_icmp_ne (tgt := 67) (pc' := 57) C dX2_sightOf_54 (by decide) rfl (fun h54 => ?_) (fun h54 => ?_)
        · skip
          refine j_iload_n (pc' := 68) C dX2_sightOf_67 rfl rfl ?_
          refine j_iconst (pc' := 69) C dX2_sightOf_68 rfl 2 (by decide) ?_
          refine j_icmp_ne (tgt := 82) (pc' := 72) C dX2_sightOf_69 (by decide) rfl (fun h69 => ?_) (fun h69 => ?_)
          · skip
            refine j_iload_n (pc' := 83) C dX2_sightOf_82 rfl rfl ?_
            refine j_iconst (pc' := 84) C dX2_sightOf_83 rfl 3 (by decide) ?_
            refine j_icmp_ne (tgt := 97) (pc' := 87) C dX2_sightOf_84 (by decide) rfl (fun h84 => ?_) (fun h84 => ?_)
            · skip
              refine j_iload_n (pc' := 98) C dX2_sightOf_97 rfl rfl ?_
              refine j_iconst (pc' := 99) C dX2_sightOf_98 rfl 4 (by decide) ?_
              refine j_icmp_ne (tgt := 112) (pc' := 102) C dX2_sightOf_99 (by decide) rfl (fun h99 => ?_) (fun h99 => ?_)
              · skip
                have hv : mSightVal (closF t i) (40 * i + j) w = -1 := by rw [mSightVal, if_neg h39, if_neg h54, if_neg h69, if_neg h84, if_neg h99]
                refine j_iconst (pc' := 113) C dX2_sightOf_112 rfl (-1) (by decide) ?_
                refine j_ireturn _ C dX2_sightOf_113 ?_
                exact ⟨by rw [hF0, hv] <;> rfl, by rw [hF0] <;> rfl⟩
              · skip
                have hv : mSightVal (closF t i) (40 * i + j) w = (closF t i).2 7 (40 * i + j) := by rw [mSightVal, if_neg h39, if_neg h54, if_neg h69, if_neg h84, if_pos h99]
                refine j_aload_n (pc' := 103) C dX2_sightOf_102 rfl rfl ?_
                refine jMa (pc' := 106) C dX2_sightOf_103 rfl 7 (by decide) hinM (by decide +kernel) ?_
                refine j_iload (pc' := 108) C dX2_sightOf_106 rfl rfl ?_
                refine jMlN (pc' := 109) C dX2_sightOf_108 rfl 7 (by decide) (40 * i + j) (e40 i j) (by unfold lenM; simp; omega) ?_
                refine j_goto (pc' := 113) C dX2_sightOf_109 (by decide) ?_
                refine j_ireturn _ C dX2_sightOf_113 ?_
                exact ⟨by rw [hF0, hv] <;> rfl, by rw [hF0] <;> rfl⟩
            · skip
              have hv : mSightVal (closF t i) (40 * i + j) w = (closF t i).2 6 (40 * i + j) := by rw [mSightVal, if_neg h39, if_neg h54, if_neg h69, if_pos h84]
              refine j_aload_n (pc' := 88) C dX2_sightOf_87 rfl rfl ?_
              refine jMa (pc' := 91) C dX2_sightOf_88 rfl 6 (by decide) hinM (by decide +kernel) ?_
              refine j_iload (pc' := 93) C dX2_sightOf_91 rfl rfl ?_
              refine jMlN (pc' := 94) C dX2_sightOf_93 rfl 6 (by decide) (40 * i + j) (e40 i j) (by unfold lenM; simp; omega) ?_
              refine j_goto (pc' := 113) C dX2_sightOf_94 (by decide) ?_
              refine j_ireturn _ C dX2_sightOf_113 ?_
              exact ⟨by rw [hF0, hv] <;> rfl, by rw [hF0] <;> rfl⟩
          · skip
            have hv : mSightVal (closF t i) (40 * i + j) w = (closF t i).2 5 (40 * i + j) := by rw [mSightVal, if_neg h39, if_neg h54, if_pos h69]
            refine j_aload_n (pc' := 73) C dX2_sightOf_72 rfl rfl ?_
            refine jMa (pc' := 76) C dX2_sightOf_73 rfl 5 (by decide) hinM (by decide +kernel) ?_
            refine j_iload (pc' := 78) C dX2_sightOf_76 rfl rfl ?_
            refine jMlN (pc' := 79) C dX2_sightOf_78 rfl 5 (by decide) (40 * i + j) (e40 i j) (by unfold lenM; simp; omega) ?_
            refine j_goto (pc' := 113) C dX2_sightOf_79 (by decide) ?_
            refine j_ireturn _ C dX2_sightOf_113 ?_
            exact ⟨by rw [hF0, hv] <;> rfl, by rw [hF0] <;> rfl⟩
        · skip
          have hv : mSightVal (closF t i) (40 * i + j) w = (closF t i).2 4 (40 * i + j) := by rw [mSightVal, if_neg h39, if_pos h54]
          refine j_aload_n (pc' := 58) C dX2_sightOf_57 rfl rfl ?_
          refine jMa (pc' := 61) C dX2_sightOf_58 rfl 4 (by decide) hinM (by decide +kernel) ?_
          refine j_iload (pc' := 63) C dX2_sightOf_61 rfl rfl ?_
          refine jMlN (pc' := 64) C dX2_sightOf_63 rfl 4 (by decide) (40 * i + j) (e40 i j) (by unfold lenM; simp; omega) ?_
          refine j_goto (pc' := 113) C dX2_sightOf_64 (by decide) ?_
          refine j_ireturn _ C dX2_sightOf_113 ?_
          exact ⟨by rw [hF0, hv] <;> rfl, by rw [hF0] <;> rfl⟩
      · skip
        have hv : mSightVal (closF t i) (40 * i + j) w = (closF t i).2 3 (40 * i + j) := by rw [mSightVal, if_pos h39]
        refine j_aload_n (pc' := 43) C dX2_sightOf_42 rfl rfl ?_
        refine jMa (pc' := 46) C dX2_sightOf_43 rfl 3 (by decide) hinM (by decide +kernel) ?_
        refine j_iload (pc' := 48) C dX2_sightOf_46 rfl rfl ?_
        refine jMlN (pc' := 49) C dX2_sightOf_48 rfl 3 (by decide) (40 * i + j) (e40 i j) (by unfold lenM; simp; omega) ?_
        refine j_goto (pc' := 113) C dX2_sightOf_49 (by decide) ?_
        refine j_ireturn _ C dX2_sightOf_113 ?_
        exact ⟨by rw [hF0, hv] <;> rfl, by rw [hF0] <;> rfl⟩
      
    · skip
      have hF : mSightOf t (nI i) sg w = (-1, t) := by rw [mSightOf, nI_clamp (by omega), if_pos (Or.inr h20)]
      refine j_iconst (pc' := 24) C dX2_sightOf_23 rfl (-1) (by decide) ?_
      refine j_ireturn _ C dX2_sightOf_24 ?_
      exact ⟨by rw [hF] <;> rfl, by rw [hF] <;> rfl⟩
    
  
set_option maxRecDepth 100000 in
set_option maxHeartbeats 4000000 in
theorem c_Mleast (l : Launch) (D : va_G) (cI cO : ClassId) (B : Nat → Nat) (t : TS) (hok : okM t) (tb a b : Int32) : Kt l yX2_least wsX2_least 3 (wM cI B) D cI cO (fun _ => True) [.ref (B 10), .int tb, .int a, .int b] t (fun r u => r = some (.int (mLeast t tb a b).1) ∧ u = (mLeast t tb a b).2) := by
  refine Kt_of (cc := cX2_least) (n := 4) (ret := some .int) rfl (by decide +kernel) (Nat.le_of_ble_eq_true rfl) rfl [some (.ref (B 10)), some (.int tb), some (.int a), some (.int b)] rfl ?_
  intro p e s m args below meth c A C _ _
  have hinM : ∀ w ∈ wsX20, w ∈ wsX2_least := by decide +kernel
  refine j_iload_n (pc' := 1) C dX2_least_0 rfl rfl ?_
  refine jc_nil (pc' := 4) C (c_isTable l D cI cO _) 1 gX2_least_X2_isTable rfl (by decide +kernel) (by decide) rfl rfl (Nat.le_of_ble_eq_true rfl) dX2_least_1 rfl (fun v1 hp1 => ?_)
  subst hp1
  show J p l e _ s m args below meth c 0 0 _ _ D A _ _ [_] _
  refine j_if_eq (tgt := 15) (pc' := 7) C dX2_least_4 (by decide) rfl (fun h4 => ?_) (fun h4 => ?_)
  · skip
    have hF : mLeast t tb a b = (-1, t) := by rw [mLeast, if_pos (Or.inl h4)]
    refine j_iconst (pc' := 16) C dX2_least_15 rfl (-1) (by decide) ?_
    refine j_ireturn _ C dX2_least_16 ?_
    exact ⟨by rw [hF] <;> rfl, by rw [hF] <;> rfl⟩
  · skip
    obtain ⟨i, hi, rfl⟩ := isTb h4
    refine j_iload_n (pc' := 8) C dX2_least_7 rfl rfl ?_
    refine j_iload_n (pc' := 9) C dX2_least_8 rfl rfl ?_
    refine jc_nil (pc' := 12) C (c_isSpanM l D cI cO _ _) 2 gX2_least_X2_isSpan rfl (by decide +kernel) (by decide) rfl rfl (Nat.le_of_ble_eq_true rfl) dX2_least_9 rfl (fun v1 hp1 => ?_)
    subst hp1
    show J p l e _ s m args below meth c 0 0 _ _ D A _ _ [_] _
    refine j_if_ne (tgt := 17) (pc' := 15) C dX2_least_12 (by decide) rfl (fun h12 => ?_) (fun h12 => ?_)
    · skip
      have hF0 : mLeast t (nI i) a b = (- (closF t i).2 9 (65 * b.toNatClampNeg + a.toNatClampNeg), closF t i) := by rw [mLeast, nI_clamp (by omega), if_neg (fun q => q.elim h4 h12)]
      obtain ⟨x, y, hxy, hy, rfl, rfl⟩ := isSpanF_1 h12
      rw [nI_clamp (show x < 2 ^ 31 by omega), nI_clamp (show y < 2 ^ 31 by omega)] at hF0
      refine j_aload_n (pc' := 18) C dX2_least_17 rfl rfl ?_
      refine j_iload_n (pc' := 19) C dX2_least_18 rfl rfl ?_
      refine jc_same (pc' := 22) C (c_closes l D cI cO B t hok (nI i) i rfl hi) 1 gX2_least_X2_closes rfl (by decide +kernel) (by decide) rfl rfl (by decide) 2 10 rfl rfl (wM_obj cI B _) (wM_addr cI B _) dX2_least_19 rfl (fun v1 u1 hp1 => ?_)
      obtain ⟨rfl, rfl⟩ := hp1
      show J p l e _ s m args below meth c 0 0 _ _ D A _ _ [] _
      have hokc : okM (closF t i) := (closF_same t i).ok hok
      refine j_aload_n (pc' := 23) C dX2_least_22 rfl rfl ?_
      refine j_iload_n (pc' := 24) C dX2_least_23 rfl rfl ?_
      refine j_iload_n (pc' := 25) C dX2_least_24 rfl rfl ?_
      refine jc_same (pc' := 28) C (c_most l D cI cO B (closF t i) (nI y) (nI x) (y) (x) rfl rfl (by omega) (by omega)) 2 gX2_least_X2_most rfl (by decide +kernel) (by decide) rfl rfl (Nat.le_of_ble_eq_true rfl) 2 10 rfl rfl (wM_obj cI B _) (wM_addr cI B _) dX2_least_25 rfl (fun v1 u1 hp1 => ?_)
      obtain ⟨rfl, hu1⟩ := hp1
      rw [hu1]
      clear hu1 u1
      show J p l e _ s m args below meth c 0 0 _ _ D A _ _ [_] _
      refine j_ineg (pc' := 29) C dX2_least_28 rfl ?_
      refine j_ireturn _ C dX2_least_29 ?_
      exact ⟨by rw [hF0] <;> rfl, by rw [hF0] <;> rfl⟩
      
      
    · skip
      have hF : mLeast t (nI i) a b = (-1, t) := by rw [mLeast, if_pos (Or.inr h12)]
      refine j_iconst (pc' := 16) C dX2_least_15 rfl (-1) (by decide) ?_
      refine j_ireturn _ C dX2_least_16 ?_
      exact ⟨by rw [hF] <;> rfl, by rw [hF] <;> rfl⟩
    
  
set_option maxRecDepth 100000 in
set_option maxHeartbeats 4000000 in
theorem c_Mgreatest (l : Launch) (D : va_G) (cI cO : ClassId) (B : Nat → Nat) (t : TS) (hok : okM t) (tb a b : Int32) : Kt l yX2_greatest wsX2_greatest 3 (wM cI B) D cI cO (fun _ => True) [.ref (B 10), .int tb, .int a, .int b] t (fun r u => r = some (.int (mGreatest t tb a b).1) ∧ u = (mGreatest t tb a b).2) := by
  refine Kt_of (cc := cX2_greatest) (n := 4) (ret := some .int) rfl (by decide +kernel) (Nat.le_of_ble_eq_true rfl) rfl [some (.ref (B 10)), some (.int tb), some (.int a), some (.int b)] rfl ?_
  intro p e s m args below meth c A C _ _
  have hinM : ∀ w ∈ wsX20, w ∈ wsX2_greatest := by decide +kernel
  refine j_iload_n (pc' := 1) C dX2_greatest_0 rfl rfl ?_
  refine jc_nil (pc' := 4) C (c_isTable l D cI cO _) 1 gX2_greatest_X2_isTable rfl (by decide +kernel) (by decide) rfl rfl (Nat.le_of_ble_eq_true rfl) dX2_greatest_1 rfl (fun v1 hp1 => ?_)
  subst hp1
  show J p l e _ s m args below meth c 0 0 _ _ D A _ _ [_] _
  refine j_if_eq (tgt := 15) (pc' := 7) C dX2_greatest_4 (by decide) rfl (fun h4 => ?_) (fun h4 => ?_)
  · skip
    have hF : mGreatest t tb a b = (-1, t) := by rw [mGreatest, if_pos (Or.inl h4)]
    refine j_iconst (pc' := 16) C dX2_greatest_15 rfl (-1) (by decide) ?_
    refine j_ireturn _ C dX2_greatest_16 ?_
    exact ⟨by rw [hF] <;> rfl, by rw [hF] <;> rfl⟩
  · skip
    obtain ⟨i, hi, rfl⟩ := isTb h4
    refine j_iload_n (pc' := 8) C dX2_greatest_7 rfl rfl ?_
    refine j_iload_n (pc' := 9) C dX2_greatest_8 rfl rfl ?_
    refine jc_nil (pc' := 12) C (c_isSpanM l D cI cO _ _) 2 gX2_greatest_X2_isSpan rfl (by decide +kernel) (by decide) rfl rfl (Nat.le_of_ble_eq_true rfl) dX2_greatest_9 rfl (fun v1 hp1 => ?_)
    subst hp1
    show J p l e _ s m args below meth c 0 0 _ _ D A _ _ [_] _
    refine j_if_ne (tgt := 17) (pc' := 15) C dX2_greatest_12 (by decide) rfl (fun h12 => ?_) (fun h12 => ?_)
    · skip
      have hF0 : mGreatest t (nI i) a b = ((closF t i).2 9 (65 * a.toNatClampNeg + b.toNatClampNeg), closF t i) := by rw [mGreatest, nI_clamp (by omega), if_neg (fun q => q.elim h4 h12)]
      obtain ⟨x, y, hxy, hy, rfl, rfl⟩ := isSpanF_1 h12
      rw [nI_clamp (show x < 2 ^ 31 by omega), nI_clamp (show y < 2 ^ 31 by omega)] at hF0
      refine j_aload_n (pc' := 18) C dX2_greatest_17 rfl rfl ?_
      refine j_iload_n (pc' := 19) C dX2_greatest_18 rfl rfl ?_
      refine jc_same (pc' := 22) C (c_closes l D cI cO B t hok (nI i) i rfl hi) 1 gX2_greatest_X2_closes rfl (by decide +kernel) (by decide) rfl rfl (by decide) 2 10 rfl rfl (wM_obj cI B _) (wM_addr cI B _) dX2_greatest_19 rfl (fun v1 u1 hp1 => ?_)
      obtain ⟨rfl, rfl⟩ := hp1
      show J p l e _ s m args below meth c 0 0 _ _ D A _ _ [] _
      have hokc : okM (closF t i) := (closF_same t i).ok hok
      refine j_aload_n (pc' := 23) C dX2_greatest_22 rfl rfl ?_
      refine j_iload_n (pc' := 24) C dX2_greatest_23 rfl rfl ?_
      refine j_iload_n (pc' := 25) C dX2_greatest_24 rfl rfl ?_
      refine jc_same (pc' := 28) C (c_most l D cI cO B (closF t i) (nI x) (nI y) (x) (y) rfl rfl (by omega) (by omega)) 2 gX2_greatest_X2_most rfl (by decide +kernel) (by decide) rfl rfl (Nat.le_of_ble_eq_true rfl) 2 10 rfl rfl (wM_obj cI B _) (wM_addr cI B _) dX2_greatest_25 rfl (fun v1 u1 hp1 => ?_)
      obtain ⟨rfl, hu1⟩ := hp1
      rw [hu1]
      clear hu1 u1
      show J p l e _ s m args below meth c 0 0 _ _ D A _ _ [_] _
      refine j_ireturn _ C dX2_greatest_28 ?_
      exact ⟨by rw [hF0] <;> rfl, by rw [hF0] <;> rfl⟩
      
      
    · skip
      have hF : mGreatest t (nI i) a b = (-1, t) := by rw [mGreatest, if_pos (Or.inr h12)]
      refine j_iconst (pc' := 16) C dX2_greatest_15 rfl (-1) (by decide) ?_
      refine j_ireturn _ C dX2_greatest_16 ?_
      exact ⟨by rw [hF] <;> rfl, by rw [hF] <;> rfl⟩
    
  
set_option maxRecDepth 100000 in
set_option maxHeartbeats 4000000 in
theorem c_many (l : Launch) (D : va_G) (cI cO : ClassId) (B : Nat → Nat) (t : TS) (hok : okM t) (tb st : Int32) (i : Nat) (et : tb = nI i) (hi : i < 3) : Kt l yX2_many wsX2_many 3 (wM cI B) D cI cO (fun _ => True) [.ref (B 10), .int tb, .int st] t (fun r u => r = some (.int (manyF t i st)) ∧ u = closF t i) := by
  refine Kt_of (cc := cX2_many) (n := 5) (ret := some .int) rfl (by decide +kernel) (Nat.le_of_ble_eq_true rfl) rfl [some (.ref (B 10)), some (.int tb), some (.int st), none, none] rfl ?_
  intro p e s m args below meth c A C _ _
  have hinM : ∀ w ∈ wsX20, w ∈ wsX2_many := by decide +kernel
  subst et
  obtain ⟨en, hn41⟩ := vp_in_c (hok i hi).1 (by decide)
  obtain ⟨N, hN⟩ : ∃ N, N = (t.2 1 i).toNatClampNeg := ⟨_, rfl⟩
  rw [← hN] at en hn41
  have en2 : (closF t i).2 1 i = nI N := by rw [closF_same t i 1 (by decide) (by decide)]; exact en
  have loop : ∀ (k j : Nat), j + k = N → J p l e (rmH 3) s m args below meth c 0 0 (RQ below args s D (wM cI B) (fun r u => r = some (.int (manyF t i st)) ∧ u = closF t i) A) 5 D A 13 [some (.ref (B 10)), some (.int (nI i)), some (.int st), some (.int (cntR ((closF t i).2 7) st (40 * i) j)), some (.int (nI (40 * i + j)))] [] (wM cI B (closF t i)) := by
    intro k
    induction k with
    | zero =>
      intro j hj
      have hj2 : j = N := by omega
      subst hj2
      refine j_iload (pc' := 15) C dX2_many_13 rfl rfl ?_
      refine j_bipush (pc' := 17) C dX2_many_15 rfl 40 (by decide) ?_
      refine j_iload_n (pc' := 18) C dX2_many_17 rfl rfl ?_
      refine j_imul (pc' := 19) C dX2_many_18 rfl ?_
      refine j_aload_n (pc' := 20) C dX2_many_19 rfl rfl ?_
      refine jMa (pc' := 23) C dX2_many_20 rfl 1 (by decide) hinM (by decide +kernel) ?_
      refine j_iload_n (pc' := 24) C dX2_many_23 rfl rfl ?_
      refine jMlN (pc' := 25) C dX2_many_24 rfl 1 (by decide) i rfl (by unfold lenM; simp; omega) ?_
      refine j_iadd (pc' := 26) C dX2_many_25 rfl ?_
      refine j_icmp_ge (tgt := 54) (pc' := 29) C dX2_many_26 (by decide) rfl (fun h26 => ?_) (fun h26 => ?_)
      · skip
        refine j_iload_n (pc' := 55) C dX2_many_54 rfl rfl ?_
        refine j_ireturn _ C dX2_many_55 ?_
        exact ⟨by rw [manyF, ← hN], rfl⟩
      · skip
        exact absurd (by rw [en2, e40]; exact nI_le (Nat.le_refl _) (by omega)) h26 -- done
    | succ k ih =>
      intro j hj
      have h46 : ∀ x : Int32, x = (if (closF t i).2 7 (40 * i + j) = st then 1 else 0) → J p l e (rmH 3) s m args below meth c 0 0 (RQ below args s D (wM cI B) (fun r u => r = some (.int (manyF t i st)) ∧ u = closF t i) A) 5 D A 46 [some (.ref (B 10)), some (.int (nI i)), some (.int st), some (.int (cntR ((closF t i).2 7) st (40 * i) j)), some (.int (nI (40 * i + j)))] [.int x, .int (cntR ((closF t i).2 7) st (40 * i) j)] (wM cI B (closF t i)) := by
        intro x ex
        refine j_iadd (pc' := 47) C dX2_many_46 rfl ?_
        refine j_istore_n (pc' := 48) C dX2_many_47 rfl (by decide) rfl ?_
        refine j_iinc (pc' := 51) C dX2_many_48 rfl 1 (by decide) rfl (by decide) rfl ?_
        refine j_goto (pc' := 13) C dX2_many_51 (by decide) ?_
        rw [nI_1, ex]
        exact ih (j + 1) (by omega)
      refine j_iload (pc' := 15) C dX2_many_13 rfl rfl ?_
      refine j_bipush (pc' := 17) C dX2_many_15 rfl 40 (by decide) ?_
      refine j_iload_n (pc' := 18) C dX2_many_17 rfl rfl ?_
      refine j_imul (pc' := 19) C dX2_many_18 rfl ?_
      refine j_aload_n (pc' := 20) C dX2_many_19 rfl rfl ?_
      refine jMa (pc' := 23) C dX2_many_20 rfl 1 (by decide) hinM (by decide +kernel) ?_
      refine j_iload_n (pc' := 24) C dX2_many_23 rfl rfl ?_
      refine jMlN (pc' := 25) C dX2_many_24 rfl 1 (by decide) i rfl (by unfold lenM; simp; omega) ?_
      refine j_iadd (pc' := 26) C dX2_many_25 rfl ?_
      refine j_icmp_ge (tgt := 54) (pc' := 29) C dX2_many_26 (by decide) rfl (fun h26 => ?_) (fun h26 => ?_)
      · skip
        exact absurd h26 (by rw [en2, e40]; exact nI_ge (by omega) (by omega)) -- done
      · skip
        refine j_iload_n (pc' := 30) C dX2_many_29 rfl rfl ?_
        refine j_aload_n (pc' := 31) C dX2_many_30 rfl rfl ?_
        refine jMa (pc' := 34) C dX2_many_31 rfl 7 (by decide) hinM (by decide +kernel) ?_
        refine j_iload (pc' := 36) C dX2_many_34 rfl rfl ?_
        refine jMlN (pc' := 37) C dX2_many_36 rfl 7 (by decide) (40 * i + j) rfl (by unfold lenM; simp; omega) ?_
        refine j_iload_n (pc' := 38) C dX2_many_37 rfl rfl ?_
        refine j_icmp_ne (tgt := 45) (pc' := 41) C dX2_many_38 (by decide) rfl (fun h38 => ?_) (fun h38 => ?_)
        · skip
          refine j_iconst (pc' := 46) C dX2_many_45 rfl 0 (by decide) ?_
          first | exact h46 _ (if_pos h38).symm | exact h46 _ (if_neg h38).symm
        · skip
          refine j_iconst (pc' := 42) C dX2_many_41 rfl 1 (by decide) ?_
          refine j_goto (pc' := 46) C dX2_many_42 (by decide) ?_
          first | exact h46 _ (if_pos h38).symm | exact h46 _ (if_neg h38).symm
  refine j_aload_n (pc' := 1) C dX2_many_0 rfl rfl ?_
  refine j_iload_n (pc' := 2) C dX2_many_1 rfl rfl ?_
  refine jc_same (pc' := 5) C (c_closes l D cI cO B t hok (nI i) i rfl hi) 1 gX2_many_X2_closes rfl (by decide +kernel) (by decide) rfl rfl (by decide) 2 10 rfl rfl (wM_obj cI B _) (wM_addr cI B _) dX2_many_2 rfl (fun v1 u1 hp1 => ?_)
  obtain ⟨rfl, rfl⟩ := hp1
  show J p l e _ s m args below meth c 0 0 _ _ D A _ _ [] _
  have hokc : okM (closF t i) := (closF_same t i).ok hok
  refine j_iconst (pc' := 6) C dX2_many_5 rfl 0 (by decide) ?_
  refine j_istore_n (pc' := 7) C dX2_many_6 rfl (by decide) rfl ?_
  refine j_bipush (pc' := 9) C dX2_many_7 rfl 40 (by decide) ?_
  refine j_iload_n (pc' := 10) C dX2_many_9 rfl rfl ?_
  refine j_imul (pc' := 11) C dX2_many_10 rfl ?_
  refine j_istore (pc' := 13) C dX2_many_11 rfl (by decide) rfl ?_
  rw [show (40 : Int32) * nI i = nI (40 * i + 0) from pk_mul 40 i]
  exact loop N 0 (by omega)
  
set_option maxRecDepth 100000 in
set_option maxHeartbeats 4000000 in
theorem c_Mtable (l : Launch) (D : va_G) (cI cO : ClassId) (B : Nat → Nat) (t : TS) (hok : okM t) (tb w : Int32) : Kt l yX2_table wsX2_table 4 (wM cI B) D cI cO (fun _ => True) [.ref (B 10), .int tb, .int w] t (fun r u => r = some (.int (mTable t tb w).1) ∧ u = (mTable t tb w).2) := by
  refine Kt_of (cc := cX2_table) (n := 3) (ret := some .int) rfl (by decide +kernel) (Nat.le_of_ble_eq_true rfl) rfl [some (.ref (B 10)), some (.int tb), some (.int w)] rfl ?_
  intro p e s m args below meth c A C _ _
  have hinM : ∀ w ∈ wsX20, w ∈ wsX2_table := by decide +kernel
  refine j_iload_n (pc' := 1) C dX2_table_0 rfl rfl ?_
  refine jc_nil (pc' := 4) C (c_isTable l D cI cO _) 1 gX2_table_X2_isTable rfl (by decide +kernel) (by decide) rfl rfl (Nat.le_of_ble_eq_true rfl) dX2_table_1 rfl (fun v1 hp1 => ?_)
  subst hp1
  show J p l e _ s m args below meth c 0 0 _ _ D A _ _ [_] _
  refine j_if_ne (tgt := 9) (pc' := 7) C dX2_table_4 (by decide) rfl (fun h4 => ?_) (fun h4 => ?_)
  · skip
    obtain ⟨i, hi, rfl⟩ := isTb h4
    refine j_iload_n (pc' := 10) C dX2_table_9 rfl rfl ?_
    by_cases hw : w.toInt < 0 ∨ 5 < w.toInt
    · have hne : ∀ q : Nat, q ≤ 5 → ¬ w = nI q := by
        intro q hq e
        rw [e, nI_toInt (by omega)] at hw
        omega
      have hF : mTable t (nI i) w = (-1, t) := by
        rw [mTable, if_neg h4, if_neg (show ¬ w = 0 from hne 0 (by decide)), if_neg (show ¬ w = 1 from hne 1 (by decide)), if_neg (show ¬ w = 2 from hne 2 (by decide)), if_neg (show ¬ w = 3 from hne 3 (by decide)), if_neg (show ¬ w = 4 from hne 4 (by decide)), if_neg (show ¬ w = 5 from hne 5 (by decide))]
      refine j_swOut (pc' := 90) C dX2_table_10 (by decide) hw ?_
      refine j_iconst (pc' := 91) C dX2_table_90 rfl (-1) (by decide) ?_
      refine j_ireturn _ C dX2_table_91 ?_
      exact ⟨by rw [hF] <;> rfl, by rw [hF] <;> rfl⟩
    · obtain ⟨q, hq, rfl⟩ : ∃ q : Nat, q ≤ 5 ∧ w = nI q := by
        refine nI_of2 (M := 5) (n := 5) (by decide) ?_ ?_
        · intro z
          rw [Int32.lt_iff_toInt_lt] at z
          exact hw (Or.inl z)
        · rw [Int32.le_iff_toInt_le]
          have : (5 : Int32).toInt = 5 := rfl
          omega
      rcases (show q = 0 ∨ q = 1 ∨ q = 2 ∨ q = 3 ∨ q = 4 ∨ q = 5 by omega) with rfl | rfl | rfl | rfl | rfl | rfl
      · have hF : mTable t (nI i) (nI 0) = (t.2 0 i, t) := by rw [mTable, if_neg h4, nI_clamp (by omega), if_pos (show nI 0 = 0 by decide)]
        refine j_swIn (pc' := 48) (off := 38) C dX2_table_10 (by decide) (by decide) (by decide) (by decide) ?_
        refine j_aload_n (pc' := 49) C dX2_table_48 rfl rfl ?_
        refine jMa (pc' := 52) C dX2_table_49 rfl 0 (by decide) hinM (by decide +kernel) ?_
        refine j_iload_n (pc' := 53) C dX2_table_52 rfl rfl ?_
        refine jMlN (pc' := 54) C dX2_table_53 rfl 0 (by decide) i rfl (by unfold lenM; simp; omega) ?_
        refine j_ireturn _ C dX2_table_54 ?_
        exact ⟨by rw [hF] <;> rfl, by rw [hF] <;> rfl⟩
      · have hF : mTable t (nI i) (nI 1) = (t.2 1 i, t) := by rw [mTable, if_neg h4, nI_clamp (by omega), if_neg (show ¬ nI 1 = 0 by decide), if_pos (show nI 1 = 1 by decide)]
        refine j_swIn (pc' := 55) (off := 45) C dX2_table_10 (by decide) (by decide) (by decide) (by decide) ?_
        refine j_aload_n (pc' := 56) C dX2_table_55 rfl rfl ?_
        refine jMa (pc' := 59) C dX2_table_56 rfl 1 (by decide) hinM (by decide +kernel) ?_
        refine j_iload_n (pc' := 60) C dX2_table_59 rfl rfl ?_
        refine jMlN (pc' := 61) C dX2_table_60 rfl 1 (by decide) i rfl (by unfold lenM; simp; omega) ?_
        refine j_ireturn _ C dX2_table_61 ?_
        exact ⟨by rw [hF] <;> rfl, by rw [hF] <;> rfl⟩
      · have hF : mTable t (nI i) (nI 2) = (manyF t i 0, closF t i) := by rw [mTable, if_neg h4, nI_clamp (by omega), if_neg (show ¬ nI 2 = 0 by decide), if_neg (show ¬ nI 2 = 1 by decide), if_pos (show nI 2 = 2 by decide)]
        refine j_swIn (pc' := 62) (off := 52) C dX2_table_10 (by decide) (by decide) (by decide) (by decide) ?_
        refine j_aload_n (pc' := 63) C dX2_table_62 rfl rfl ?_
        refine j_iload_n (pc' := 64) C dX2_table_63 rfl rfl ?_
        refine j_iconst (pc' := 65) C dX2_table_64 rfl 0 (by decide) ?_
        refine jc_same (pc' := 68) C (c_many l D cI cO B t hok (nI i) 0 i rfl hi) 2 gX2_table_X2_many rfl (by decide +kernel) (by decide) rfl rfl (by decide) 2 10 rfl rfl (wM_obj cI B _) (wM_addr cI B _) dX2_table_65 rfl (fun v1 u1 hp1 => ?_)
        obtain ⟨rfl, rfl⟩ := hp1
        show J p l e _ s m args below meth c 0 0 _ _ D A _ _ [_] _
        refine j_ireturn _ C dX2_table_68 ?_
        exact ⟨by rw [hF] <;> rfl, by rw [hF] <;> rfl⟩
        
      · have hF : mTable t (nI i) (nI 3) = (manyF t i 1, closF t i) := by rw [mTable, if_neg h4, nI_clamp (by omega), if_neg (show ¬ nI 3 = 0 by decide), if_neg (show ¬ nI 3 = 1 by decide), if_neg (show ¬ nI 3 = 2 by decide), if_pos (show nI 3 = 3 by decide)]
        refine j_swIn (pc' := 69) (off := 59) C dX2_table_10 (by decide) (by decide) (by decide) (by decide) ?_
        refine j_aload_n (pc' := 70) C dX2_table_69 rfl rfl ?_
        refine j_iload_n (pc' := 71) C dX2_table_70 rfl rfl ?_
        refine j_iconst (pc' := 72) C dX2_table_71 rfl 1 (by decide) ?_
        refine jc_same (pc' := 75) C (c_many l D cI cO B t hok (nI i) 1 i rfl hi) 2 gX2_table_X2_many rfl (by decide +kernel) (by decide) rfl rfl (by decide) 2 10 rfl rfl (wM_obj cI B _) (wM_addr cI B _) dX2_table_72 rfl (fun v1 u1 hp1 => ?_)
        obtain ⟨rfl, rfl⟩ := hp1
        show J p l e _ s m args below meth c 0 0 _ _ D A _ _ [_] _
        refine j_ireturn _ C dX2_table_75 ?_
        exact ⟨by rw [hF] <;> rfl, by rw [hF] <;> rfl⟩
        
      · have hF : mTable t (nI i) (nI 4) = (manyF t i 2, closF t i) := by rw [mTable, if_neg h4, nI_clamp (by omega), if_neg (show ¬ nI 4 = 0 by decide), if_neg (show ¬ nI 4 = 1 by decide), if_neg (show ¬ nI 4 = 2 by decide), if_neg (show ¬ nI 4 = 3 by decide), if_pos (show nI 4 = 4 by decide)]
        refine j_swIn (pc' := 76) (off := 66) C dX2_table_10 (by decide) (by decide) (by decide) (by decide) ?_
        refine j_aload_n (pc' := 77) C dX2_table_76 rfl rfl ?_
        refine j_iload_n (pc' := 78) C dX2_table_77 rfl rfl ?_
        refine j_iconst (pc' := 79) C dX2_table_78 rfl 2 (by decide) ?_
        refine jc_same (pc' := 82) C (c_many l D cI cO B t hok (nI i) 2 i rfl hi) 2 gX2_table_X2_many rfl (by decide +kernel) (by decide) rfl rfl (by decide) 2 10 rfl rfl (wM_obj cI B _) (wM_addr cI B _) dX2_table_79 rfl (fun v1 u1 hp1 => ?_)
        obtain ⟨rfl, rfl⟩ := hp1
        show J p l e _ s m args below meth c 0 0 _ _ D A _ _ [_] _
        refine j_ireturn _ C dX2_table_82 ?_
        exact ⟨by rw [hF] <;> rfl, by rw [hF] <;> rfl⟩
        
      · have hF : mTable t (nI i) (nI 5) = (t.2 2 i, t) := by rw [mTable, if_neg h4, nI_clamp (by omega), if_neg (show ¬ nI 5 = 0 by decide), if_neg (show ¬ nI 5 = 1 by decide), if_neg (show ¬ nI 5 = 2 by decide), if_neg (show ¬ nI 5 = 3 by decide), if_neg (show ¬ nI 5 = 4 by decide), if_pos (show nI 5 = 5 by decide)]
        refine j_swIn (pc' := 83) (off := 73) C dX2_table_10 (by decide) (by decide) (by decide) (by decide) ?_
        refine j_aload_n (pc' := 84) C dX2_table_83 rfl rfl ?_
        refine jMa (pc' := 87) C dX2_table_84 rfl 2 (by decide) hinM (by decide +kernel) ?_
        refine j_iload_n (pc' := 88) C dX2_table_87 rfl rfl ?_
        refine jMlN (pc' := 89) C dX2_table_88 rfl 2 (by decide) i rfl (by unfold lenM; simp; omega) ?_
        refine j_ireturn _ C dX2_table_89 ?_
        exact ⟨by rw [hF] <;> rfl, by rw [hF] <;> rfl⟩
    
  · skip
    have hF : mTable t tb w = (-1, t) := by rw [mTable, if_pos (h4)]
    refine j_iconst (pc' := 8) C dX2_table_7 rfl (-1) (by decide) ?_
    refine j_ireturn _ C dX2_table_8 ?_
    exact ⟨by rw [hF] <;> rfl, by rw [hF] <;> rfl⟩
  
set_option maxRecDepth 100000 in
set_option maxHeartbeats 4000000 in
theorem c_Magrees (l : Launch) (D : va_G) (cI cO : ClassId) (B : Nat → Nat) (t : TS) (hok : okM t) (tb : Int32) : Kt l yX2_agrees wsX2_agrees 3 (wM cI B) D cI cO (fun _ => True) [.ref (B 10), .int tb] t (fun r u => r = some (.int (mAgrees t tb).1) ∧ u = (mAgrees t tb).2) := by
  refine Kt_of (cc := cX2_agrees) (n := 6) (ret := some .int) rfl (by decide +kernel) (Nat.le_of_ble_eq_true rfl) rfl [some (.ref (B 10)), some (.int tb), none, none, none, none] rfl ?_
  intro p e s m args below meth c A C _ _
  have hinM : ∀ w ∈ wsX20, w ∈ wsX2_agrees := by decide +kernel
  refine j_iload_n (pc' := 1) C dX2_agrees_0 rfl rfl ?_
  refine jc_nil (pc' := 4) C (c_isTable l D cI cO _) 1 gX2_agrees_X2_isTable rfl (by decide +kernel) (by decide) rfl rfl (Nat.le_of_ble_eq_true rfl) dX2_agrees_1 rfl (fun v1 hp1 => ?_)
  subst hp1
  show J p l e _ s m args below meth c 0 0 _ _ D A _ _ [_] _
  refine j_if_ne (tgt := 9) (pc' := 7) C dX2_agrees_4 (by decide) rfl (fun h4 => ?_) (fun h4 => ?_)
  · skip
    obtain ⟨i, hi, rfl⟩ := isTb h4
    refine j_aload_n (pc' := 10) C dX2_agrees_9 rfl rfl ?_
    refine j_iload_n (pc' := 11) C dX2_agrees_10 rfl rfl ?_
    refine jc_same (pc' := 14) C (c_closes l D cI cO B t hok (nI i) i rfl hi) 1 gX2_agrees_X2_closes rfl (by decide +kernel) (by decide) rfl rfl (by decide) 2 10 rfl rfl (wM_obj cI B _) (wM_addr cI B _) dX2_agrees_11 rfl (fun v1 u1 hp1 => ?_)
    obtain ⟨rfl, rfl⟩ := hp1
    show J p l e _ s m args below meth c 0 0 _ _ D A _ _ [] _
    have hokc : okM (closF t i) := (closF_same t i).ok hok
    obtain ⟨en, hn41⟩ := vp_in_c (hok i hi).1 (by decide)
    obtain ⟨N, hN⟩ : ∃ N, N = (t.2 1 i).toNatClampNeg := ⟨_, rfl⟩
    rw [← hN] at en hn41
    have en2 : (closF t i).2 1 i = nI N := by rw [closF_same t i 1 (by decide) (by decide)]; exact en
    have hF : mAgrees t (nI i) = (if magF t i = 0 then 0 else 1, closF t i) := by rw [mAgrees, if_neg h4, nI_clamp (by omega)]
    have hft := (hokc i hi).2
    rw [en2, nI_clamp (by omega)] at hft
    have h140 : ∀ (a : Int32) (x3 x4 x5 : Option Value), a = magF t i → J p l e (rmH 3) s m args below meth c 0 0 (RQ below args s D (wM cI B) (fun r u => r = some (.int (mAgrees t (nI i)).1) ∧ u = (mAgrees t (nI i)).2) A) 6 D A 140 [some (.ref (B 10)), some (.int (nI i)), some (.int a), x3, x4, x5] [] (wM cI B (closF t i)) := by
      intro a x3 x4 x5 ea
      refine j_iload_n (pc' := 141) C dX2_agrees_140 rfl rfl ?_
      refine j_if_eq (tgt := 148) (pc' := 144) C dX2_agrees_141 (by decide) rfl (fun h141 => ?_) (fun h141 => ?_)
      · skip
        have hv : magF t i = 0 := by rw [← ea]; exact h141
        refine j_iconst (pc' := 149) C dX2_agrees_148 rfl 0 (by decide) ?_
        refine j_ireturn _ C dX2_agrees_149 ?_
        first | exact ⟨by rw [hF, if_pos hv], by rw [hF]⟩ | exact ⟨by rw [hF, if_neg hv], by rw [hF]⟩
      · skip
        have hv : ¬ magF t i = 0 := by rw [← ea]; exact h141
        refine j_iconst (pc' := 145) C dX2_agrees_144 rfl 1 (by decide) ?_
        refine j_goto (pc' := 149) C dX2_agrees_145 (by decide) ?_
        refine j_ireturn _ C dX2_agrees_149 ?_
        first | exact ⟨by rw [hF, if_pos hv], by rw [hF]⟩ | exact ⟨by rw [hF, if_neg hv], by rw [hF]⟩
    have loop : ∀ (k j : Nat) (a : Int32) (x4 x5 : Option Value), j + k = N → (a = 0 ∨ a = 1) → magL (closF t i) i k j a = magF t i → J p l e (rmH 3) s m args below meth c 0 0 (RQ below args s D (wM cI B) (fun r u => r = some (.int (mAgrees t (nI i)).1) ∧ u = (mAgrees t (nI i)).2) A) 6 D A 44 [some (.ref (B 10)), some (.int (nI i)), some (.int a), some (.int (nI (40 * i + j))), x4, x5] [] (wM cI B (closF t i)) := by
      intro k
      induction k with
      | zero =>
        intro j a x4 x5 hj ha hr
        have hj2 : j = N := by omega
        subst hj2
        refine j_iload_n (pc' := 45) C dX2_agrees_44 rfl rfl ?_
        refine j_bipush (pc' := 47) C dX2_agrees_45 rfl 40 (by decide) ?_
        refine j_iload_n (pc' := 48) C dX2_agrees_47 rfl rfl ?_
        refine j_imul (pc' := 49) C dX2_agrees_48 rfl ?_
        refine j_aload_n (pc' := 50) C dX2_agrees_49 rfl rfl ?_
        refine jMa (pc' := 53) C dX2_agrees_50 rfl 1 (by decide) hinM (by decide +kernel) ?_
        refine j_iload_n (pc' := 54) C dX2_agrees_53 rfl rfl ?_
        refine jMlN (pc' := 55) C dX2_agrees_54 rfl 1 (by decide) i rfl (by unfold lenM; simp; omega) ?_
        refine j_iadd (pc' := 56) C dX2_agrees_55 rfl ?_
        refine j_icmp_ge (tgt := 140) (pc' := 59) C dX2_agrees_56 (by decide) rfl (fun h56 => ?_) (fun h56 => ?_)
        · skip
          exact h140 _ _ _ _ hr
        · skip
          exact absurd (by rw [en2, e40]; exact nI_le (Nat.le_refl _) (by omega)) h56 -- done
      | succ k ih =>
        intro j a x4 x5 hj ha hr
        obtain ⟨ea, hal⟩ := vp_in_c (hft j (by omega)).1 (by decide)
        obtain ⟨eb, hbl⟩ := vp_in_c (hft j (by omega)).2 (by decide)
        have h133 : ∀ (x : Int32) (x4 x5 : Option Value), x = agV a (closF t i) i (40 * i + j) → J p l e (rmH 3) s m args below meth c 0 0 (RQ below args s D (wM cI B) (fun r u => r = some (.int (mAgrees t (nI i)).1) ∧ u = (mAgrees t (nI i)).2) A) 6 D A 133 [some (.ref (B 10)), some (.int (nI i)), some (.int a), some (.int (nI (40 * i + j))), x4, x5] [.int x] (wM cI B (closF t i)) := by
          intro x x4 x5 ex
          refine j_istore_n (pc' := 134) C dX2_agrees_133 rfl (by decide) rfl ?_
          refine j_iinc (pc' := 137) C dX2_agrees_134 rfl 1 (by decide) rfl (by decide) rfl ?_
          refine j_goto (pc' := 44) C dX2_agrees_137 (by decide) ?_
          rw [nI_1]
          exact ih (j + 1) x _ _ (by omega) (by rw [ex]; exact agV_01 _ _ _ _) (by rw [ex]; exact hr)
        refine j_iload_n (pc' := 45) C dX2_agrees_44 rfl rfl ?_
        refine j_bipush (pc' := 47) C dX2_agrees_45 rfl 40 (by decide) ?_
        refine j_iload_n (pc' := 48) C dX2_agrees_47 rfl rfl ?_
        refine j_imul (pc' := 49) C dX2_agrees_48 rfl ?_
        refine j_aload_n (pc' := 50) C dX2_agrees_49 rfl rfl ?_
        refine jMa (pc' := 53) C dX2_agrees_50 rfl 1 (by decide) hinM (by decide +kernel) ?_
        refine j_iload_n (pc' := 54) C dX2_agrees_53 rfl rfl ?_
        refine jMlN (pc' := 55) C dX2_agrees_54 rfl 1 (by decide) i rfl (by unfold lenM; simp; omega) ?_
        refine j_iadd (pc' := 56) C dX2_agrees_55 rfl ?_
        refine j_icmp_ge (tgt := 140) (pc' := 59) C dX2_agrees_56 (by decide) rfl (fun h56 => ?_) (fun h56 => ?_)
        · skip
          exact absurd h56 (by rw [en2, e40]; exact nI_ge (by omega) (by omega)) -- done
        · skip
          refine j_aload_n (pc' := 60) C dX2_agrees_59 rfl rfl ?_
          refine j_iload_n (pc' := 61) C dX2_agrees_60 rfl rfl ?_
          refine j_aload_n (pc' := 62) C dX2_agrees_61 rfl rfl ?_
          refine jMa (pc' := 65) C dX2_agrees_62 rfl 3 (by decide) hinM (by decide +kernel) ?_
          refine j_iload_n (pc' := 66) C dX2_agrees_65 rfl rfl ?_
          refine jMlN (pc' := 67) C dX2_agrees_66 rfl 3 (by decide) (40 * i + j) rfl (by unfold lenM; simp; omega) ?_
          refine j_aload_n (pc' := 68) C dX2_agrees_67 rfl rfl ?_
          refine jMa (pc' := 71) C dX2_agrees_68 rfl 4 (by decide) hinM (by decide +kernel) ?_
          refine j_iload_n (pc' := 72) C dX2_agrees_71 rfl rfl ?_
          refine jMlN (pc' := 73) C dX2_agrees_72 rfl 4 (by decide) (40 * i + j) rfl (by unfold lenM; simp; omega) ?_
          refine jc_same (pc' := 76) C (c_trueIn l D cI cO B (closF t i) (nI i) (((closF t i).2 3 (40 * i + j))) (((closF t i).2 4 (40 * i + j))) i (((closF t i).2 3 (40 * i + j)).toNatClampNeg) (((closF t i).2 4 (40 * i + j)).toNatClampNeg) rfl ea eb hi (by omega) (by omega)) 3 gX2_agrees_X2_trueIn rfl (by decide +kernel) (by decide) rfl rfl (Nat.le_of_ble_eq_true rfl) 2 10 rfl rfl (wM_obj cI B _) (wM_addr cI B _) dX2_agrees_73 rfl (fun v1 u1 hp1 => ?_)
          obtain ⟨rfl, hu1⟩ := hp1
          rw [hu1]
          clear hu1 u1
          show J p l e _ s m args below meth c 0 0 _ _ D A _ _ [_] _
          refine j_lstore (pc' := 78) C dX2_agrees_76 rfl (by decide) rfl ?_
          refine j_iload_n (pc' := 79) C dX2_agrees_78 rfl rfl ?_
          refine j_if_eq (tgt := 132) (pc' := 82) C dX2_agrees_79 (by decide) rfl (fun h79 => ?_) (fun h79 => ?_)
          · skip
            have hv : agV a (closF t i) i (40 * i + j) = 0 := by rw [agV, if_pos h79]
            refine j_iconst (pc' := 133) C dX2_agrees_132 rfl 0 (by decide) ?_
            exact h133 _ _ _ hv.symm
          · skip
            refine j_aload_n (pc' := 83) C dX2_agrees_82 rfl rfl ?_
            refine jMa (pc' := 86) C dX2_agrees_83 rfl 7 (by decide) hinM (by decide +kernel) ?_
            refine j_iload_n (pc' := 87) C dX2_agrees_86 rfl rfl ?_
            refine jMlN (pc' := 88) C dX2_agrees_87 rfl 7 (by decide) (40 * i + j) rfl (by unfold lenM; simp; omega) ?_
            refine j_if_ne (tgt := 128) (pc' := 91) C dX2_agrees_88 (by decide) rfl (fun h88 => ?_) (fun h88 => ?_)
            · skip
              have hv : agV a (closF t i) i (40 * i + j) = 1 := by rw [agV, if_neg h79, if_pos h88]
              refine j_iconst (pc' := 129) C dX2_agrees_128 rfl 1 (by decide) ?_
              refine j_goto (pc' := 133) C dX2_agrees_129 (by decide) ?_
              exact h133 _ _ _ hv.symm
            · skip
              refine j_lload (pc' := 93) C dX2_agrees_91 rfl rfl ?_
              refine j_aload_n (pc' := 94) C dX2_agrees_93 rfl rfl ?_
              refine jMa (pc' := 97) C dX2_agrees_94 rfl 5 (by decide) hinM (by decide +kernel) ?_
              refine j_iload_n (pc' := 98) C dX2_agrees_97 rfl rfl ?_
              refine jMlN (pc' := 99) C dX2_agrees_98 rfl 5 (by decide) (40 * i + j) rfl (by unfold lenM; simp; omega) ?_
              refine j_i2l (pc' := 100) C dX2_agrees_99 rfl ?_
              refine j_lcmp (pc' := 101) C dX2_agrees_100 rfl ?_
              refine j_if_lt (tgt := 132) (pc' := 104) C dX2_agrees_101 (by decide) rfl (fun h101 => ?_) (fun h101 => ?_)
              · skip
                have hv : agV a (closF t i) i (40 * i + j) = 0 := by rw [agV, if_neg h79, if_neg (fun q => q h88), if_pos h101]
                refine j_iconst (pc' := 133) C dX2_agrees_132 rfl 0 (by decide) ?_
                exact h133 _ _ _ hv.symm
              · skip
                refine j_aload_n (pc' := 105) C dX2_agrees_104 rfl rfl ?_
                refine jMa (pc' := 108) C dX2_agrees_105 rfl 6 (by decide) hinM (by decide +kernel) ?_
                refine j_iload_n (pc' := 109) C dX2_agrees_108 rfl rfl ?_
                refine jMlN (pc' := 110) C dX2_agrees_109 rfl 6 (by decide) (40 * i + j) rfl (by unfold lenM; simp; omega) ?_
                refine j_ldc (pc' := 112) C dX2_agrees_110 rfl 1000001 (by decide +kernel) ?_
                refine j_icmp_eq (tgt := 128) (pc' := 115) C dX2_agrees_112 (by decide) rfl (fun h112 => ?_) (fun h112 => ?_)
                · skip
                  have hv : agV a (closF t i) i (40 * i + j) = 1 := by rw [agV, if_neg h79, if_neg (fun q => q h88), if_neg h101, if_pos h112]
                  refine j_iconst (pc' := 129) C dX2_agrees_128 rfl 1 (by decide) ?_
                  refine j_goto (pc' := 133) C dX2_agrees_129 (by decide) ?_
                  exact h133 _ _ _ hv.symm
                · skip
                  refine j_lload (pc' := 117) C dX2_agrees_115 rfl rfl ?_
                  refine j_aload_n (pc' := 118) C dX2_agrees_117 rfl rfl ?_
                  refine jMa (pc' := 121) C dX2_agrees_118 rfl 6 (by decide) hinM (by decide +kernel) ?_
                  refine j_iload_n (pc' := 122) C dX2_agrees_121 rfl rfl ?_
                  refine jMlN (pc' := 123) C dX2_agrees_122 rfl 6 (by decide) (40 * i + j) rfl (by unfold lenM; simp; omega) ?_
                  refine j_i2l (pc' := 124) C dX2_agrees_123 rfl ?_
                  refine j_lcmp (pc' := 125) C dX2_agrees_124 rfl ?_
                  refine j_if_gt (tgt := 132) (pc' := 128) C dX2_agrees_125 (by decide) rfl (fun h125 => ?_) (fun h125 => ?_)
                  · skip
                    have hv : agV a (closF t i) i (40 * i + j) = 0 := by rw [agV, if_neg h79, if_neg (fun q => q h88), if_neg h101, if_neg h112, if_pos h125]
                    refine j_iconst (pc' := 133) C dX2_agrees_132 rfl 0 (by decide) ?_
                    exact h133 _ _ _ hv.symm
                  · skip
                    have hv : agV a (closF t i) i (40 * i + j) = 1 := by rw [agV, if_neg h79, if_neg (fun q => q h88), if_neg h101, if_neg h112, if_neg h125]
                    refine j_iconst (pc' := 129) C dX2_agrees_128 rfl 1 (by decide) ?_
                    refine j_goto (pc' := 133) C dX2_agrees_129 (by decide) ?_
                    exact h133 _ _ _ hv.symm
          
    refine j_aload_n (pc' := 15) C dX2_agrees_14 rfl rfl ?_
    refine j_iload_n (pc' := 16) C dX2_agrees_15 rfl rfl ?_
    refine j_iconst (pc' := 17) C dX2_agrees_16 rfl 0 (by decide) ?_
    refine j_bipush (pc' := 19) C dX2_agrees_17 rfl 64 (by decide) ?_
    refine jc_same (pc' := 22) C (c_trueIn l D cI cO B (closF t i) (nI i) (0) (64) i (0) (64) rfl rfl rfl hi (by decide) (by decide)) 3 gX2_agrees_X2_trueIn rfl (by decide +kernel) (by decide) rfl rfl (Nat.le_of_ble_eq_true rfl) 2 10 rfl rfl (wM_obj cI B _) (wM_addr cI B _) dX2_agrees_19 rfl (fun v1 u1 hp1 => ?_)
    obtain ⟨rfl, hu1⟩ := hp1
    rw [hu1]
    clear hu1 u1
    show J p l e _ s m args below meth c 0 0 _ _ D A _ _ [_] _
    have h38 : ∀ x : Int32, x = (if lg_cmp (sumT ((closF t i).2 8) (64 * i) 64) ((closF t i).2 0 i).toInt64 = 0 then 1 else 0) → J p l e (rmH 3) s m args below meth c 0 0 (RQ below args s D (wM cI B) (fun r u => r = some (.int (mAgrees t (nI i)).1) ∧ u = (mAgrees t (nI i)).2) A) 6 D A 38 [some (.ref (B 10)), some (.int (nI i)), none, none, none, none] [.int x] (wM cI B (closF t i)) := by
      intro x ex
      refine j_istore_n (pc' := 39) C dX2_agrees_38 rfl (by decide) rfl ?_
      refine j_bipush (pc' := 41) C dX2_agrees_39 rfl 40 (by decide) ?_
      refine j_iload_n (pc' := 42) C dX2_agrees_41 rfl rfl ?_
      refine j_imul (pc' := 43) C dX2_agrees_42 rfl ?_
      refine j_istore_n (pc' := 44) C dX2_agrees_43 rfl (by decide) rfl ?_
      rw [show (40 : Int32) * nI i = nI (40 * i + 0) from pk_mul 40 i]
      exact loop N 0 x _ _ (by omega) (by rw [ex]; split <;> first | exact Or.inl rfl | exact Or.inr rfl) (by rw [magF, ← hN, ex])
    refine j_aload_n (pc' := 23) C dX2_agrees_22 rfl rfl ?_
    refine jMa (pc' := 26) C dX2_agrees_23 rfl 0 (by decide) hinM (by decide +kernel) ?_
    refine j_iload_n (pc' := 27) C dX2_agrees_26 rfl rfl ?_
    refine jMlN (pc' := 28) C dX2_agrees_27 rfl 0 (by decide) i rfl (by unfold lenM; simp; omega) ?_
    refine j_i2l (pc' := 29) C dX2_agrees_28 rfl ?_
    refine j_lcmp (pc' := 30) C dX2_agrees_29 rfl ?_
    refine j_if_ne (tgt := 37) (pc' := 33) C dX2_agrees_30 (by decide) rfl (fun h30 => ?_) (fun h30 => ?_)
    · skip
      refine j_iconst (pc' := 38) C dX2_agrees_37 rfl 0 (by decide) ?_
      first | exact h38 _ (if_pos h30).symm | exact h38 _ (if_neg h30).symm
    · skip
      refine j_iconst (pc' := 34) C dX2_agrees_33 rfl 1 (by decide) ?_
      refine j_goto (pc' := 38) C dX2_agrees_34 (by decide) ?_
      first | exact h38 _ (if_pos h30).symm | exact h38 _ (if_neg h30).symm
    
    
  · skip
    have hF : mAgrees t tb = (-1, t) := by rw [mAgrees, if_pos (h4)]
    refine j_iconst (pc' := 8) C dX2_agrees_7 rfl (-1) (by decide) ?_
    refine j_ireturn _ C dX2_agrees_8 ?_
    exact ⟨by rw [hF] <;> rfl, by rw [hF] <;> rfl⟩
  
end
section
/-! the Model: guesses, joins, costs -/
def gsJ (f g : Nat → Int32) (lo v : Nat) : Nat → Nat → Int32 × Int32 → Int32 × Int32
  | 0, _, p => p
  | k + 1, j, p => gsJ f g lo v k (j + 1) (if p.1 < g (lo + j) - f (65 * (v + 1) + j) then g (lo + j) - f (65 * (v + 1) + j) else p.1, if g (lo + j) + f (65 * j + (v + 1)) < p.2 then g (lo + j) + f (65 * j + (v + 1)) else p.2)
def evenF (r x : Int32) (v : Nat) : Int32 := x + (r - x) / (64 - nI v)
def clampF (lo hi x : Int32) : Int32 := if lo < (if x < hi then x else hi) then (if x < hi then x else hi) else lo
def gsV (f g : Nat → Int32) (r : Int32) (lo v : Nat) : Int32 := clampF (gsJ f g lo v (v + 1) 0 (0, r)).1 (gsJ f g lo v (v + 1) 0 (0, r)).2 (evenF r (g (lo + v)) v)
def gsL (f : Nat → Int32) (r : Int32) (lo : Nat) : Nat → Nat → (Nat → Int32) → (Nat → Int32)
  | 0, _, g => g
  | k + 1, v, g => gsL f r lo k (v + 1) (upd g (lo + v + 1) (gsV f g r lo v))
def gs0 (t : TS) (i : Nat) : Nat → Int32 := gsL ((closF t i).2 9) ((closF t i).2 0 i) (65 * i) 64 0 (upd ((closF t i).2 11) (65 * i) 0)
def guessF (t : TS) (i : Nat) : TS := ((closF t i).1, ua (closF t i).2 11 (gs0 t i))
theorem guessF_k (t : TS) (i : Nat) {k : Nat} (h1 : k ≠ 7) (h2 : k ≠ 9) (h3 : k ≠ 11) : (guessF t i).2 k = t.2 k := by
  show ua (closF t i).2 11 _ k = _
  rw [ua_n _ _ h3]
  exact closF_same t i k h1 h2
theorem guessF_ok {t : TS} (h : okM t) (i : Nat) : okM (guessF t i) := by
  unfold okM at h ⊢
  rw [guessF_k t i (by decide) (by decide) (by decide), guessF_k t i (by decide) (by decide) (by decide), guessF_k t i (by decide) (by decide) (by decide)]
  exact h
def mGuess (t : TS) (tb a b : Int32) : Int32 × TS := if isInF tb 0 2 = 0 ∨ isSpanF a b = 0 then (-1, t) else ((guessF t tb.toNatClampNeg).2 11 (65 * tb.toNatClampNeg + b.toNatClampNeg) - (guessF t tb.toNatClampNeg).2 11 (65 * tb.toNatClampNeg + a.toNatClampNeg), guessF t tb.toNatClampNeg)
def joinS (t : TS) (i j lo : Nat) : Nat → Int64
  | 0 => 0
  | n + 1 => joinS t i j lo n + guessOfF t i (lo + n) * guessOfF t j (lo + n)
def mJoin (t : TS) (tb ub a b : Int32) : Int64 × TS := if isInF tb 0 2 = 0 ∨ isInF ub 0 2 = 0 ∨ isSpanF a b = 0 then (-1, t) else (joinS (guessF (guessF t tb.toNatClampNeg) ub.toNatClampNeg) tb.toNatClampNeg ub.toNatClampNeg a.toNatClampNeg (b.toNatClampNeg - a.toNatClampNeg), guessF (guessF t tb.toNatClampNeg) ub.toNatClampNeg)
def ordX (o : Nat) : Nat := o / 2
def ordY (o : Nat) : Nat := if o = 0 then 1 else if o = 1 then 2 else if o = 2 then 0 else if o = 3 then 2 else if o = 4 then 0 else 1
def ordZ (o : Nat) : Nat := 3 - ordX o - ordY o
def mTwo (t : TS) (o v : Nat) (by_ : Int32) : Int64 := mRowsOf t (ordX o) v by_ * mRowsOf t (ordY o) v by_
def costS (t : TS) (o : Nat) (by_ : Int32) : Nat → Int64
  | 0 => 0
  | v + 1 => costS t o by_ v + (mTwo t o v by_ + mTwo t o v by_ * mRowsOf t (ordZ o) v by_)
def mCostOf (t : TS) (o : Nat) (by_ : Int32) : Int64 := costS t o by_ 64
def allG (t : TS) : TS := guessF (guessF (guessF t 0) 1) 2
def mCost (t : TS) (od by_ : Int32) : Int64 × TS := if isInF od 0 5 = 0 then (-1, t) else (mCostOf (allG t) od.toNatClampNeg by_, allG t)
def planL (t : TS) (by_ : Int32) : Nat → Nat → Nat → Nat
  | 0, _, b => b
  | k + 1, o, b => planL t by_ k (o + 1) (if lg_cmp (mCostOf t o by_) (mCostOf t b by_) < 0 then o else b)
theorem planL_lt (t : TS) (by_ : Int32) : ∀ (k o b : Nat), o + k ≤ 6 → b < 6 → planL t by_ k o b < 6
  | 0, _, _, _, h => h
  | k + 1, o, b, hk, hb => by
    unfold planL
    refine planL_lt t by_ k (o + 1) _ (by omega) ?_
    split <;> omega
def planN (t : TS) (by_ : Int32) : Nat := planL (allG t) by_ 5 1 0
theorem allG_ok {t : TS} (h : okM t) : okM (allG t) := guessF_ok (guessF_ok (guessF_ok h 0) 1) 2
set_option maxRecDepth 100000 in
set_option maxHeartbeats 4000000 in
theorem c_guesses (l : Launch) (D : va_G) (cI cO : ClassId) (B : Nat → Nat) (t : TS) (hok : okM t) (tb : Int32) (i : Nat) (et : tb = nI i) (hi : i < 3) : Kt l yX2_guesses wsX2_guesses 3 (wM cI B) D cI cO (fun _ => True) [.ref (B 10), .int tb] t (fun r u => r = none ∧ u = guessF t i) := by
  refine Kt_of (cc := cX2_guesses) (n := 7) (ret := none) rfl (by decide +kernel) (Nat.le_of_ble_eq_true rfl) rfl [some (.ref (B 10)), some (.int tb), none, none, none, none, none] rfl ?_
  intro p e s m args below meth c A C _ _
  have hinM : ∀ w ∈ wsX20, w ∈ wsX2_guesses := by decide +kernel
  subst et
  have outer : ∀ (k v : Nat) (g : Nat → Int32) (x4 x5 x6 : Option Value), v + k = 64 → gsL ((closF t i).2 9) ((closF t i).2 0 i) (65 * i) k v g = gs0 t i → J p l e (rmH 3) s m args below meth c 0 0 (RQ below args s D (wM cI B) (fun r u => r = none ∧ u = guessF t i) A) 7 D A 19 [some (.ref (B 10)), some (.int (nI i)), some (.int (nI (65 * i))), some (.int (nI v)), x4, x5, x6] [] (wM cI B ((closF t i).1, ua (closF t i).2 11 (g))) := by
    intro k
    induction k with
    | zero =>
      intro v g x4 x5 x6 hv hr
      have hv2 : v = 64 := by omega
      subst hv2
      refine j_iload_n (pc' := 20) C dX2_guesses_19 rfl rfl ?_
      refine j_bipush (pc' := 22) C dX2_guesses_20 rfl 64 (by decide) ?_
      refine j_icmp_ge (tgt := 162) (pc' := 25) C dX2_guesses_22 (by decide) rfl (fun h22 => ?_) (fun h22 => ?_)
      · skip
        refine j_return _ C dX2_guesses_162 ?_
        exact ⟨rfl, by rw [guessF, ← hr]; rfl⟩
      · skip
        exact absurd (by decide) h22 -- done
    | succ k ih =>
      intro v g x4 x5 x6 hv hr
      have hdv : (64 : Int32) - nI v = nI (64 - v) := pk_sub (a := 64) (b := v) (by omega)
      have h103 : ∀ (lo hi2 : Int32) (x6 : Option Value), (lo, hi2) = gsJ ((closF t i).2 9) g (65 * i) v (v + 1) 0 (0, ((closF t i).2 0 i)) → J p l e (rmH 3) s m args below meth c 0 0 (RQ below args s D (wM cI B) (fun r u => r = none ∧ u = guessF t i) A) 7 D A 103 [some (.ref (B 10)), some (.int (nI i)), some (.int (nI (65 * i))), some (.int (nI v)), some (.int lo), some (.int hi2), x6] [] (wM cI B ((closF t i).1, ua (closF t i).2 11 (g))) := by
        intro lo hi2 x6 e1
        have hV : gsV ((closF t i).2 9) g ((closF t i).2 0 i) (65 * i) v = clampF lo hi2 (evenF ((closF t i).2 0 i) (g (65 * i + v)) v) := by rw [gsV, ← e1]
        refine j_aload_n (pc' := 104) C dX2_guesses_103 rfl rfl ?_
        refine jMa (pc' := 107) C dX2_guesses_104 rfl 11 (by decide) hinM (by decide +kernel) ?_
        refine j_iload_n (pc' := 108) C dX2_guesses_107 rfl rfl ?_
        refine j_iload_n (pc' := 109) C dX2_guesses_108 rfl rfl ?_
        refine j_iadd (pc' := 110) C dX2_guesses_109 rfl ?_
        refine jMlN (pc' := 111) C dX2_guesses_110 rfl 11 (by decide) (65 * i + v) (nI_add _ _) (by unfold lenM; simp; omega) ?_
        refine j_aload_n (pc' := 112) C dX2_guesses_111 rfl rfl ?_
        refine jMa (pc' := 115) C dX2_guesses_112 rfl 0 (by decide) hinM (by decide +kernel) ?_
        refine j_iload_n (pc' := 116) C dX2_guesses_115 rfl rfl ?_
        refine jMlN (pc' := 117) C dX2_guesses_116 rfl 0 (by decide) i rfl (by unfold lenM; simp; omega) ?_
        refine j_aload_n (pc' := 118) C dX2_guesses_117 rfl rfl ?_
        refine jMa (pc' := 121) C dX2_guesses_118 rfl 11 (by decide) hinM (by decide +kernel) ?_
        refine j_iload_n (pc' := 122) C dX2_guesses_121 rfl rfl ?_
        refine j_iload_n (pc' := 123) C dX2_guesses_122 rfl rfl ?_
        refine j_iadd (pc' := 124) C dX2_guesses_123 rfl ?_
        refine jMlN (pc' := 125) C dX2_guesses_124 rfl 11 (by decide) (65 * i + v) (nI_add _ _) (by unfold lenM; simp; omega) ?_
        refine j_isub (pc' := 126) C dX2_guesses_125 rfl ?_
        refine j_bipush (pc' := 128) C dX2_guesses_126 rfl 64 (by decide) ?_
        refine j_iload_n (pc' := 129) C dX2_guesses_128 rfl rfl ?_
        refine j_isub (pc' := 130) C dX2_guesses_129 rfl ?_
        refine j_idiv (pc' := 131) C dX2_guesses_130 rfl (by rw [hdv]; exact nI_ne0 (by omega) (by omega)) ?_
        refine j_iadd (pc' := 132) C dX2_guesses_131 rfl ?_
        refine j_istore (pc' := 134) C dX2_guesses_132 rfl (by decide) rfl ?_
        refine j_aload_n (pc' := 135) C dX2_guesses_134 rfl rfl ?_
        refine jMa (pc' := 138) C dX2_guesses_135 rfl 11 (by decide) hinM (by decide +kernel) ?_
        refine j_iload_n (pc' := 139) C dX2_guesses_138 rfl rfl ?_
        refine j_iload_n (pc' := 140) C dX2_guesses_139 rfl rfl ?_
        refine j_iadd (pc' := 141) C dX2_guesses_140 rfl ?_
        refine j_iconst (pc' := 142) C dX2_guesses_141 rfl 1 (by decide) ?_
        refine j_iadd (pc' := 143) C dX2_guesses_142 rfl ?_
        refine j_iload (pc' := 145) C dX2_guesses_143 rfl rfl ?_
        refine j_iload (pc' := 147) C dX2_guesses_145 rfl rfl ?_
        refine j_iload (pc' := 149) C dX2_guesses_147 rfl rfl ?_
        refine j_min (pc' := 152) C dX2_guesses_149 rfl (by decide +kernel) (by decide +kernel) (by decide +kernel) (by decide +kernel) (by decide) (Nat.le_of_ble_eq_true rfl) ?_
        refine j_max (pc' := 155) C dX2_guesses_152 rfl (by decide +kernel) (by decide +kernel) (by decide +kernel) (by decide +kernel) (by decide) (Nat.le_of_ble_eq_true rfl) ?_
        refine jMsN (pc' := 156) C dX2_guesses_155 rfl 11 (by decide) (65 * i + v + 1) (by rw [nI_add, nI_1]) (by unfold lenM; simp; omega) ?_
        refine j_iinc (pc' := 159) C dX2_guesses_156 rfl 1 (by decide) rfl (by decide) rfl ?_
        refine j_goto (pc' := 19) C dX2_guesses_159 (by decide) ?_
        rw [nI_1]
        refine j_ws (ws' := wM cI B ((closF t i).1, ua (closF t i).2 11 (upd g (65 * i + v + 1) (gsV ((closF t i).2 9) g ((closF t i).2 0 i) (65 * i) v)))) (by rw [hV]; show wM cI B ((closF t i).1, ua (ua (closF t i).2 11 g) 11 _) = _; rw [ua_ua]; rfl) ?_
        exact ih (v + 1) _ _ _ _ (by omega) hr
      have inner : ∀ (q j : Nat) (lo hi2 : Int32), j + q = v + 1 → gsJ ((closF t i).2 9) g (65 * i) v q j (lo, hi2) = gsJ ((closF t i).2 9) g (65 * i) v (v + 1) 0 (0, ((closF t i).2 0 i)) → J p l e (rmH 3) s m args below meth c 0 0 (RQ below args s D (wM cI B) (fun r u => r = none ∧ u = guessF t i) A) 7 D A 39 [some (.ref (B 10)), some (.int (nI i)), some (.int (nI (65 * i))), some (.int (nI v)), some (.int lo), some (.int hi2), some (.int (nI j))] [] (wM cI B ((closF t i).1, ua (closF t i).2 11 (g))) := by
        intro q
        induction q with
        | zero =>
          intro j lo hi2 hj hq
          have hj2 : j = v + 1 := by omega
          subst hj2
          refine j_iload (pc' := 41) C dX2_guesses_39 rfl rfl ?_
          refine j_iload_n (pc' := 42) C dX2_guesses_41 rfl rfl ?_
          refine j_icmp_gt (tgt := 103) (pc' := 45) C dX2_guesses_42 (by decide) rfl (fun h42 => ?_) (fun h42 => ?_)
          · skip
            exact h103 _ _ _ hq
          · skip
            exact absurd (nI_lt (by omega) (by omega)) h42 -- done
        | succ q jh =>
          intro j lo hi2 hj hq
          refine j_iload (pc' := 41) C dX2_guesses_39 rfl rfl ?_
          refine j_iload_n (pc' := 42) C dX2_guesses_41 rfl rfl ?_
          refine j_icmp_gt (tgt := 103) (pc' := 45) C dX2_guesses_42 (by decide) rfl (fun h42 => ?_) (fun h42 => ?_)
          · skip
            exact absurd h42 (nI_nlt (by omega) (by omega)) -- done
          · skip
            refine j_iload (pc' := 47) C dX2_guesses_45 rfl rfl ?_
            refine j_aload_n (pc' := 48) C dX2_guesses_47 rfl rfl ?_
            refine jMa (pc' := 51) C dX2_guesses_48 rfl 11 (by decide) hinM (by decide +kernel) ?_
            refine j_iload_n (pc' := 52) C dX2_guesses_51 rfl rfl ?_
            refine j_iload (pc' := 54) C dX2_guesses_52 rfl rfl ?_
            refine j_iadd (pc' := 55) C dX2_guesses_54 rfl ?_
            refine jMlN (pc' := 56) C dX2_guesses_55 rfl 11 (by decide) (65 * i + j) (nI_add _ _) (by unfold lenM; simp; omega) ?_
            refine j_aload_n (pc' := 57) C dX2_guesses_56 rfl rfl ?_
            refine j_iload_n (pc' := 58) C dX2_guesses_57 rfl rfl ?_
            refine j_iconst (pc' := 59) C dX2_guesses_58 rfl 1 (by decide) ?_
            refine j_iadd (pc' := 60) C dX2_guesses_59 rfl ?_
            refine j_iload (pc' := 62) C dX2_guesses_60 rfl rfl ?_
            refine jc_same (pc' := 65) C (c_most l D cI cO B (((closF t i).1, ua (closF t i).2 11 g)) (nI v + 1) (nI j) (v + 1) (j) (nI_1 v) rfl (by omega) (by omega)) 2 gX2_guesses_X2_most rfl (by decide +kernel) (by decide) rfl rfl (Nat.le_of_ble_eq_true rfl) 2 10 rfl rfl (wM_obj cI B _) (wM_addr cI B _) dX2_guesses_62 rfl (fun v1 u1 hp1 => ?_)
            obtain ⟨rfl, hu1⟩ := hp1
            rw [hu1]
            clear hu1 u1
            show J p l e _ s m args below meth c 0 0 _ _ D A _ _ [_, _, _] _
            refine j_isub (pc' := 66) C dX2_guesses_65 rfl ?_
            refine j_max (pc' := 69) C dX2_guesses_66 rfl (by decide +kernel) (by decide +kernel) (by decide +kernel) (by decide +kernel) (by decide) (Nat.le_of_ble_eq_true rfl) ?_
            refine j_istore (pc' := 71) C dX2_guesses_69 rfl (by decide) rfl ?_
            refine j_iload (pc' := 73) C dX2_guesses_71 rfl rfl ?_
            refine j_aload_n (pc' := 74) C dX2_guesses_73 rfl rfl ?_
            refine jMa (pc' := 77) C dX2_guesses_74 rfl 11 (by decide) hinM (by decide +kernel) ?_
            refine j_iload_n (pc' := 78) C dX2_guesses_77 rfl rfl ?_
            refine j_iload (pc' := 80) C dX2_guesses_78 rfl rfl ?_
            refine j_iadd (pc' := 81) C dX2_guesses_80 rfl ?_
            refine jMlN (pc' := 82) C dX2_guesses_81 rfl 11 (by decide) (65 * i + j) (nI_add _ _) (by unfold lenM; simp; omega) ?_
            refine j_aload_n (pc' := 83) C dX2_guesses_82 rfl rfl ?_
            refine j_iload (pc' := 85) C dX2_guesses_83 rfl rfl ?_
            refine j_iload_n (pc' := 86) C dX2_guesses_85 rfl rfl ?_
            refine j_iconst (pc' := 87) C dX2_guesses_86 rfl 1 (by decide) ?_
            refine j_iadd (pc' := 88) C dX2_guesses_87 rfl ?_
            refine jc_same (pc' := 91) C (c_most l D cI cO B (((closF t i).1, ua (closF t i).2 11 g)) (nI j) (nI v + 1) (j) (v + 1) rfl (nI_1 v) (by omega) (by omega)) 2 gX2_guesses_X2_most rfl (by decide +kernel) (by decide) rfl rfl (Nat.le_of_ble_eq_true rfl) 2 10 rfl rfl (wM_obj cI B _) (wM_addr cI B _) dX2_guesses_88 rfl (fun v1 u1 hp1 => ?_)
            obtain ⟨rfl, hu1⟩ := hp1
            rw [hu1]
            clear hu1 u1
            show J p l e _ s m args below meth c 0 0 _ _ D A _ _ [_, _, _] _
            refine j_iadd (pc' := 92) C dX2_guesses_91 rfl ?_
            refine j_min (pc' := 95) C dX2_guesses_92 rfl (by decide +kernel) (by decide +kernel) (by decide +kernel) (by decide +kernel) (by decide) (Nat.le_of_ble_eq_true rfl) ?_
            refine j_istore (pc' := 97) C dX2_guesses_95 rfl (by decide) rfl ?_
            refine j_iinc (pc' := 100) C dX2_guesses_97 rfl 1 (by decide) rfl (by decide) rfl ?_
            refine j_goto (pc' := 39) C dX2_guesses_100 (by decide) ?_
            rw [nI_1]
            exact jh (j + 1) _ _ (by omega) (by rw [← hq]; rfl)
            
            
      refine j_iload_n (pc' := 20) C dX2_guesses_19 rfl rfl ?_
      refine j_bipush (pc' := 22) C dX2_guesses_20 rfl 64 (by decide) ?_
      refine j_icmp_ge (tgt := 162) (pc' := 25) C dX2_guesses_22 (by decide) rfl (fun h22 => ?_) (fun h22 => ?_)
      · skip
        exact absurd h22 (nI_ge (b := 64) (by omega) (by decide)) -- done
      · skip
        refine j_iconst (pc' := 26) C dX2_guesses_25 rfl 0 (by decide) ?_
        refine j_istore (pc' := 28) C dX2_guesses_26 rfl (by decide) rfl ?_
        refine j_aload_n (pc' := 29) C dX2_guesses_28 rfl rfl ?_
        refine jMa (pc' := 32) C dX2_guesses_29 rfl 0 (by decide) hinM (by decide +kernel) ?_
        refine j_iload_n (pc' := 33) C dX2_guesses_32 rfl rfl ?_
        refine jMlN (pc' := 34) C dX2_guesses_33 rfl 0 (by decide) i rfl (by unfold lenM; simp; omega) ?_
        refine j_istore (pc' := 36) C dX2_guesses_34 rfl (by decide) rfl ?_
        refine j_iconst (pc' := 37) C dX2_guesses_36 rfl 0 (by decide) ?_
        refine j_istore (pc' := 39) C dX2_guesses_37 rfl (by decide) rfl ?_
        exact inner (v + 1) 0 0 _ (by omega) rfl
  refine j_aload_n (pc' := 1) C dX2_guesses_0 rfl rfl ?_
  refine j_iload_n (pc' := 2) C dX2_guesses_1 rfl rfl ?_
  refine jc_same (pc' := 5) C (c_closes l D cI cO B t hok (nI i) i rfl hi) 1 gX2_guesses_X2_closes rfl (by decide +kernel) (by decide) rfl rfl (by decide) 2 10 rfl rfl (wM_obj cI B _) (wM_addr cI B _) dX2_guesses_2 rfl (fun v1 u1 hp1 => ?_)
  obtain ⟨rfl, rfl⟩ := hp1
  show J p l e _ s m args below meth c 0 0 _ _ D A _ _ [] _
  have hokc : okM (closF t i) := (closF_same t i).ok hok
  refine j_bipush (pc' := 7) C dX2_guesses_5 rfl 65 (by decide) ?_
  refine j_iload_n (pc' := 8) C dX2_guesses_7 rfl rfl ?_
  refine j_imul (pc' := 9) C dX2_guesses_8 rfl ?_
  refine j_istore_n (pc' := 10) C dX2_guesses_9 rfl (by decide) rfl ?_
  rw [show (65 : Int32) * nI i = nI (65 * i) from pk_mul 65 i]
  refine j_aload_n (pc' := 11) C dX2_guesses_10 rfl rfl ?_
  refine jMa (pc' := 14) C dX2_guesses_11 rfl 11 (by decide) hinM (by decide +kernel) ?_
  refine j_iload_n (pc' := 15) C dX2_guesses_14 rfl rfl ?_
  refine j_iconst (pc' := 16) C dX2_guesses_15 rfl 0 (by decide) ?_
  refine jMsN (pc' := 17) C dX2_guesses_16 rfl 11 (by decide) (65 * i) rfl (by unfold lenM; simp; omega) ?_
  refine j_iconst (pc' := 18) C dX2_guesses_17 rfl 0 (by decide) ?_
  refine j_istore_n (pc' := 19) C dX2_guesses_18 rfl (by decide) rfl ?_
  exact outer 64 0 _ _ _ _ (by omega) rfl
  
  
set_option maxRecDepth 100000 in
set_option maxHeartbeats 4000000 in
theorem c_Mguess (l : Launch) (D : va_G) (cI cO : ClassId) (B : Nat → Nat) (t : TS) (hok : okM t) (tb a b : Int32) : Kt l yX2_guess wsX2_guess 4 (wM cI B) D cI cO (fun _ => True) [.ref (B 10), .int tb, .int a, .int b] t (fun r u => r = some (.int (mGuess t tb a b).1) ∧ u = (mGuess t tb a b).2) := by
  refine Kt_of (cc := cX2_guess) (n := 4) (ret := some .int) rfl (by decide +kernel) (Nat.le_of_ble_eq_true rfl) rfl [some (.ref (B 10)), some (.int tb), some (.int a), some (.int b)] rfl ?_
  intro p e s m args below meth c A C _ _
  have hinM : ∀ w ∈ wsX20, w ∈ wsX2_guess := by decide +kernel
  refine j_iload_n (pc' := 1) C dX2_guess_0 rfl rfl ?_
  refine jc_nil (pc' := 4) C (c_isTable l D cI cO _) 1 gX2_guess_X2_isTable rfl (by decide +kernel) (by decide) rfl rfl (Nat.le_of_ble_eq_true rfl) dX2_guess_1 rfl (fun v1 hp1 => ?_)
  subst hp1
  show J p l e _ s m args below meth c 0 0 _ _ D A _ _ [_] _
  refine j_if_eq (tgt := 15) (pc' := 7) C dX2_guess_4 (by decide) rfl (fun h4 => ?_) (fun h4 => ?_)
  · skip
    have hF : mGuess t tb a b = (-1, t) := by rw [mGuess, if_pos (Or.inl h4)]
    refine j_iconst (pc' := 16) C dX2_guess_15 rfl (-1) (by decide) ?_
    refine j_ireturn _ C dX2_guess_16 ?_
    exact ⟨by rw [hF] <;> rfl, by rw [hF] <;> rfl⟩
  · skip
    obtain ⟨i, hi, rfl⟩ := isTb h4
    refine j_iload_n (pc' := 8) C dX2_guess_7 rfl rfl ?_
    refine j_iload_n (pc' := 9) C dX2_guess_8 rfl rfl ?_
    refine jc_nil (pc' := 12) C (c_isSpanM l D cI cO _ _) 2 gX2_guess_X2_isSpan rfl (by decide +kernel) (by decide) rfl rfl (Nat.le_of_ble_eq_true rfl) dX2_guess_9 rfl (fun v1 hp1 => ?_)
    subst hp1
    show J p l e _ s m args below meth c 0 0 _ _ D A _ _ [_] _
    refine j_if_ne (tgt := 17) (pc' := 15) C dX2_guess_12 (by decide) rfl (fun h12 => ?_) (fun h12 => ?_)
    · skip
      have hF0 : mGuess t (nI i) a b = ((guessF t i).2 11 (65 * i + b.toNatClampNeg) - (guessF t i).2 11 (65 * i + a.toNatClampNeg), guessF t i) := by rw [mGuess, nI_clamp (show i < 2 ^ 31 by omega), if_neg (fun q => q.elim h4 h12)]
      obtain ⟨x, y, hxy, hy, rfl, rfl⟩ := isSpanF_1 h12
      rw [nI_clamp (show x < 2 ^ 31 by omega), nI_clamp (show y < 2 ^ 31 by omega)] at hF0
      refine j_aload_n (pc' := 18) C dX2_guess_17 rfl rfl ?_
      refine j_iload_n (pc' := 19) C dX2_guess_18 rfl rfl ?_
      refine jc_same (pc' := 22) C (c_guesses l D cI cO B (t) hok (nI i) i rfl hi) 1 gX2_guess_X2_guesses rfl (by decide +kernel) (by decide) rfl rfl (by decide) 2 10 rfl rfl (wM_obj cI B _) (wM_addr cI B _) dX2_guess_19 rfl (fun v1 u1 hp1 => ?_)
      obtain ⟨rfl, rfl⟩ := hp1
      show J p l e _ s m args below meth c 0 0 _ _ D A _ _ [] _
      refine j_aload_n (pc' := 23) C dX2_guess_22 rfl rfl ?_
      refine jMa (pc' := 26) C dX2_guess_23 rfl 11 (by decide) hinM (by decide +kernel) ?_
      refine j_bipush (pc' := 28) C dX2_guess_26 rfl 65 (by decide) ?_
      refine j_iload_n (pc' := 29) C dX2_guess_28 rfl rfl ?_
      refine j_imul (pc' := 30) C dX2_guess_29 rfl ?_
      refine j_iload_n (pc' := 31) C dX2_guess_30 rfl rfl ?_
      refine j_iadd (pc' := 32) C dX2_guess_31 rfl ?_
      refine jMlN (pc' := 33) C dX2_guess_32 rfl 11 (by decide) (65 * i + y) (e65 i y) (by unfold lenM; simp; omega) ?_
      refine j_aload_n (pc' := 34) C dX2_guess_33 rfl rfl ?_
      refine jMa (pc' := 37) C dX2_guess_34 rfl 11 (by decide) hinM (by decide +kernel) ?_
      refine j_bipush (pc' := 39) C dX2_guess_37 rfl 65 (by decide) ?_
      refine j_iload_n (pc' := 40) C dX2_guess_39 rfl rfl ?_
      refine j_imul (pc' := 41) C dX2_guess_40 rfl ?_
      refine j_iload_n (pc' := 42) C dX2_guess_41 rfl rfl ?_
      refine j_iadd (pc' := 43) C dX2_guess_42 rfl ?_
      refine jMlN (pc' := 44) C dX2_guess_43 rfl 11 (by decide) (65 * i + x) (e65 i x) (by unfold lenM; simp; omega) ?_
      refine j_isub (pc' := 45) C dX2_guess_44 rfl ?_
      refine j_ireturn _ C dX2_guess_45 ?_
      exact ⟨by rw [hF0] <;> rfl, by rw [hF0] <;> rfl⟩
      
    · skip
      have hF : mGuess t (nI i) a b = (-1, t) := by rw [mGuess, if_pos (Or.inr h12)]
      refine j_iconst (pc' := 16) C dX2_guess_15 rfl (-1) (by decide) ?_
      refine j_ireturn _ C dX2_guess_16 ?_
      exact ⟨by rw [hF] <;> rfl, by rw [hF] <;> rfl⟩
    
  
set_option maxRecDepth 100000 in
set_option maxHeartbeats 4000000 in
theorem c_Mjoin (l : Launch) (D : va_G) (cI cO : ClassId) (B : Nat → Nat) (t : TS) (hok : okM t) (tb ub a b : Int32) : Kt l yX2_join wsX2_join 4 (wM cI B) D cI cO (fun _ => True) [.ref (B 10), .int tb, .int ub, .int a, .int b] t (fun r u => r = some (.long (mJoin t tb ub a b).1) ∧ u = (mJoin t tb ub a b).2) := by
  refine Kt_of (cc := cX2_join) (n := 8) (ret := some .long) rfl (by decide +kernel) (Nat.le_of_ble_eq_true rfl) rfl [some (.ref (B 10)), some (.int tb), some (.int ub), some (.int a), some (.int b), none, none, none] rfl ?_
  intro p e s m args below meth c A C _ _
  have hinM : ∀ w ∈ wsX20, w ∈ wsX2_join := by decide +kernel
  refine j_iload_n (pc' := 1) C dX2_join_0 rfl rfl ?_
  refine jc_nil (pc' := 4) C (c_isTable l D cI cO _) 1 gX2_join_X2_isTable rfl (by decide +kernel) (by decide) rfl rfl (Nat.le_of_ble_eq_true rfl) dX2_join_1 rfl (fun v1 hp1 => ?_)
  subst hp1
  show J p l e _ s m args below meth c 0 0 _ _ D A _ _ [_] _
  refine j_if_eq (tgt := 23) (pc' := 7) C dX2_join_4 (by decide) rfl (fun h4 => ?_) (fun h4 => ?_)
  · skip
    have hF : mJoin t tb ub a b = (-1, t) := by rw [mJoin, if_pos (Or.inl h4)]
    refine j_ldc2 (pc' := 26) C dX2_join_23 rfl (-1) (by decide +kernel) ?_
    refine j_lreturn _ C dX2_join_26 ?_
    exact ⟨by rw [hF] <;> rfl, by rw [hF] <;> rfl⟩
  · skip
    refine j_iload_n (pc' := 8) C dX2_join_7 rfl rfl ?_
    refine jc_nil (pc' := 11) C (c_isTable l D cI cO _) 1 gX2_join_X2_isTable rfl (by decide +kernel) (by decide) rfl rfl (Nat.le_of_ble_eq_true rfl) dX2_join_8 rfl (fun v1 hp1 => ?_)
    subst hp1
    show J p l e _ s m args below meth c 0 0 _ _ D A _ _ [_] _
    refine j_if_eq (tgt := 23) (pc' := 14) C dX2_join_11 (by decide) rfl (fun h11 => ?_) (fun h11 => ?_)
    · skip
      have hF : mJoin t tb ub a b = (-1, t) := by rw [mJoin, if_pos (Or.inr (Or.inl h11))]
      refine j_ldc2 (pc' := 26) C dX2_join_23 rfl (-1) (by decide +kernel) ?_
      refine j_lreturn _ C dX2_join_26 ?_
      exact ⟨by rw [hF] <;> rfl, by rw [hF] <;> rfl⟩
    · skip
      refine j_iload_n (pc' := 15) C dX2_join_14 rfl rfl ?_
      refine j_iload (pc' := 17) C dX2_join_15 rfl rfl ?_
      refine jc_nil (pc' := 20) C (c_isSpanM l D cI cO _ _) 2 gX2_join_X2_isSpan rfl (by decide +kernel) (by decide) rfl rfl (Nat.le_of_ble_eq_true rfl) dX2_join_17 rfl (fun v1 hp1 => ?_)
      subst hp1
      show J p l e _ s m args below meth c 0 0 _ _ D A _ _ [_] _
      refine j_if_ne (tgt := 27) (pc' := 23) C dX2_join_20 (by decide) rfl (fun h20 => ?_) (fun h20 => ?_)
      · skip
        have hF0 : mJoin t tb ub a b = (joinS (guessF (guessF t tb.toNatClampNeg) ub.toNatClampNeg) tb.toNatClampNeg ub.toNatClampNeg a.toNatClampNeg (b.toNatClampNeg - a.toNatClampNeg), guessF (guessF t tb.toNatClampNeg) ub.toNatClampNeg) := by rw [mJoin, if_neg (fun q => q.elim h4 (fun q => q.elim h11 h20))]
        obtain ⟨i, hi, rfl⟩ := isTb h4
        obtain ⟨j, hj, rfl⟩ := isTb h11
        obtain ⟨x, y, hxy, hy, rfl, rfl⟩ := isSpanF_1 h20
        rw [nI_clamp (show i < 2 ^ 31 by omega), nI_clamp (show j < 2 ^ 31 by omega), nI_clamp (show x < 2 ^ 31 by omega), nI_clamp (show y < 2 ^ 31 by omega)] at hF0
        have loop : ∀ (k q : Nat), q + k = y - x → J p l e (rmH 4) s m args below meth c 0 0 (RQ below args s D (wM cI B) (fun r u => r = some (.long (mJoin t (nI i) (nI j) (nI x) (nI y)).1) ∧ u = (mJoin t (nI i) (nI j) (nI x) (nI y)).2) A) 8 D A 43 [some (.ref (B 10)), some (.int (nI i)), some (.int (nI j)), some (.int (nI x)), some (.int (nI y)), some (.long (joinS (guessF (guessF t i) j) i j x q)), none, some (.int (nI (x + q)))] [] (wM cI B (guessF (guessF t i) j)) := by
          intro k
          induction k with
          | zero =>
            intro q hq
            have hq2 : q = y - x := by omega
            subst hq2
            refine j_iload (pc' := 45) C dX2_join_43 rfl rfl ?_
            refine j_iload (pc' := 47) C dX2_join_45 rfl rfl ?_
            refine j_icmp_ge (tgt := 76) (pc' := 50) C dX2_join_47 (by decide) rfl (fun h47 => ?_) (fun h47 => ?_)
            · skip
              refine j_lload (pc' := 78) C dX2_join_76 rfl rfl ?_
              refine j_lreturn _ C dX2_join_78 ?_
              exact ⟨by rw [hF0] <;> rfl, by rw [hF0] <;> rfl⟩
            · skip
              exact absurd (nI_le (by omega) (by omega)) h47 -- done
          | succ k ih =>
            intro q hq
            refine j_iload (pc' := 45) C dX2_join_43 rfl rfl ?_
            refine j_iload (pc' := 47) C dX2_join_45 rfl rfl ?_
            refine j_icmp_ge (tgt := 76) (pc' := 50) C dX2_join_47 (by decide) rfl (fun h47 => ?_) (fun h47 => ?_)
            · skip
              exact absurd h47 (nI_ge (by omega) (by omega)) -- done
            · skip
              refine j_lload (pc' := 52) C dX2_join_50 rfl rfl ?_
              refine j_aload_n (pc' := 53) C dX2_join_52 rfl rfl ?_
              refine j_iload_n (pc' := 54) C dX2_join_53 rfl rfl ?_
              refine j_iload (pc' := 56) C dX2_join_54 rfl rfl ?_
              refine jc_same (pc' := 59) C (c_guessOf l D cI cO B ((guessF (guessF t i) j)) (nI i) (nI (x + q)) i (x + q) rfl rfl hi (by omega)) 2 gX2_join_X2_guessOf rfl (by decide +kernel) (by decide) rfl rfl (Nat.le_of_ble_eq_true rfl) 2 10 rfl rfl (wM_obj cI B _) (wM_addr cI B _) dX2_join_56 rfl (fun v1 u1 hp1 => ?_)
              obtain ⟨rfl, hu1⟩ := hp1
              rw [hu1]
              clear hu1 u1
              show J p l e _ s m args below meth c 0 0 _ _ D A _ _ [_, _] _
              refine j_aload_n (pc' := 60) C dX2_join_59 rfl rfl ?_
              refine j_iload_n (pc' := 61) C dX2_join_60 rfl rfl ?_
              refine j_iload (pc' := 63) C dX2_join_61 rfl rfl ?_
              refine jc_same (pc' := 66) C (c_guessOf l D cI cO B ((guessF (guessF t i) j)) (nI j) (nI (x + q)) j (x + q) rfl rfl hj (by omega)) 2 gX2_join_X2_guessOf rfl (by decide +kernel) (by decide) rfl rfl (Nat.le_of_ble_eq_true rfl) 2 10 rfl rfl (wM_obj cI B _) (wM_addr cI B _) dX2_join_63 rfl (fun v1 u1 hp1 => ?_)
              obtain ⟨rfl, hu1⟩ := hp1
              rw [hu1]
              clear hu1 u1
              show J p l e _ s m args below meth c 0 0 _ _ D A _ _ [_, _, _] _
              refine j_lmul (pc' := 67) C dX2_join_66 rfl ?_
              refine j_ladd (pc' := 68) C dX2_join_67 rfl ?_
              refine j_lstore (pc' := 70) C dX2_join_68 rfl (by decide) rfl ?_
              refine j_iinc (pc' := 73) C dX2_join_70 rfl 1 (by decide) rfl (by decide) rfl ?_
              refine j_goto (pc' := 43) C dX2_join_73 (by decide) ?_
              rw [nI_1]
              exact ih (q + 1) (by omega)
              
              
        
        refine j_aload_n (pc' := 28) C dX2_join_27 rfl rfl ?_
        refine j_iload_n (pc' := 29) C dX2_join_28 rfl rfl ?_
        refine jc_same (pc' := 32) C (c_guesses l D cI cO B (t) hok (nI i) i rfl hi) 1 gX2_join_X2_guesses rfl (by decide +kernel) (by decide) rfl rfl (by decide) 2 10 rfl rfl (wM_obj cI B _) (wM_addr cI B _) dX2_join_29 rfl (fun v1 u1 hp1 => ?_)
        obtain ⟨rfl, rfl⟩ := hp1
        show J p l e _ s m args below meth c 0 0 _ _ D A _ _ [] _
        refine j_aload_n (pc' := 33) C dX2_join_32 rfl rfl ?_
        refine j_iload_n (pc' := 34) C dX2_join_33 rfl rfl ?_
        refine jc_same (pc' := 37) C (c_guesses l D cI cO B (guessF t i) (guessF_ok hok i) (nI j) j rfl hj) 1 gX2_join_X2_guesses rfl (by decide +kernel) (by decide) rfl rfl (by decide) 2 10 rfl rfl (wM_obj cI B _) (wM_addr cI B _) dX2_join_34 rfl (fun v1 u1 hp1 => ?_)
        obtain ⟨rfl, rfl⟩ := hp1
        show J p l e _ s m args below meth c 0 0 _ _ D A _ _ [] _
        refine j_lconst (pc' := 38) C dX2_join_37 rfl 0 (by decide) ?_
        refine j_lstore (pc' := 40) C dX2_join_38 rfl (by decide) rfl ?_
        refine j_iload_n (pc' := 41) C dX2_join_40 rfl rfl ?_
        refine j_istore (pc' := 43) C dX2_join_41 rfl (by decide) rfl ?_
        exact loop (y - x) 0 (by omega)
        
        
      · skip
        have hF : mJoin t tb ub a b = (-1, t) := by rw [mJoin, if_pos (Or.inr (Or.inr h20))]
        refine j_ldc2 (pc' := 26) C dX2_join_23 rfl (-1) (by decide +kernel) ?_
        refine j_lreturn _ C dX2_join_26 ?_
        exact ⟨by rw [hF] <;> rfl, by rw [hF] <;> rfl⟩
      
    
  
set_option maxRecDepth 100000 in
set_option maxHeartbeats 4000000 in
theorem c_McostOf (l : Launch) (D : va_G) (cI cO : ClassId) (B : Nat → Nat) (t : TS) (od : Nat) (hod : od < 6) (by_ : Int32) : Kt l yX2_costOf wsX2_costOf 2 (wM cI B) D cI cO (fun _ => True) [.ref (B 10), .int (nI od), .int by_] t (fun r u => r = some (.long (mCostOf t od by_)) ∧ u = t) := by
  refine Kt_of (cc := cX2_costOf) (n := 11) (ret := some .long) rfl (by decide +kernel) (Nat.le_of_ble_eq_true rfl) rfl [some (.ref (B 10)), some (.int (nI od)), some (.int by_), none, none, none, none, none, none, none, none] rfl ?_
  intro p e s m args below meth c A C _ _
  have hinM : ∀ w ∈ wsX20, w ∈ wsX2_costOf := by decide +kernel
  have hX : ordX od < 3 := by unfold ordX; omega
  have hY : ordY od < 3 := by unfold ordY; (repeat' split) <;> omega
  have hZ : ordZ od < 3 := by
    rcases (show od = 0 ∨ od = 1 ∨ od = 2 ∨ od = 3 ∨ od = 4 ∨ od = 5 by omega) with rfl | rfl | rfl | rfl | rfl | rfl <;> decide
  have h42 : ∀ (xx yy zz : Int32), xx = nI (ordX od) → yy = nI (ordY od) → zz = nI (ordZ od) → J p l e (rmH 2) s m args below meth c 0 0 (RQ below args s D (wM cI B) (fun r u => r = some (.long (mCostOf t od by_)) ∧ u = t) A) 11 D A 42 [some (.ref (B 10)), some (.int (nI od)), some (.int by_), some (.int xx), some (.int yy), some (.int zz), none, none, none, none, none] [] (wM cI B t) := by
    intro xx yy zz ex ey ez
    have loop : ∀ (k v : Nat) (x9 : Option Value), v + k = 64 → J p l e (rmH 2) s m args below meth c 0 0 (RQ below args s D (wM cI B) (fun r u => r = some (.long (mCostOf t od by_)) ∧ u = t) A) 11 D A 48 [some (.ref (B 10)), some (.int (nI od)), some (.int by_), some (.int xx), some (.int yy), some (.int zz), some (.long (costS t od by_ v)), none, some (.int (nI v)), x9, none] [] (wM cI B t) := by
      intro k
      induction k with
      | zero =>
        intro v x9 hv
        have hv2 : v = 64 := by omega
        subst hv2
        refine j_iload (pc' := 50) C dX2_costOf_48 rfl rfl ?_
        refine j_bipush (pc' := 52) C dX2_costOf_50 rfl 64 (by decide) ?_
        refine j_icmp_ge (tgt := 101) (pc' := 55) C dX2_costOf_52 (by decide) rfl (fun h52 => ?_) (fun h52 => ?_)
        · skip
          refine j_lload (pc' := 103) C dX2_costOf_101 rfl rfl ?_
          refine j_lreturn _ C dX2_costOf_103 ?_
          exact ⟨rfl, rfl⟩
        · skip
          exact absurd (by decide) h52 -- done
      | succ k ih =>
        intro v x9 hv
        refine j_iload (pc' := 50) C dX2_costOf_48 rfl rfl ?_
        refine j_bipush (pc' := 52) C dX2_costOf_50 rfl 64 (by decide) ?_
        refine j_icmp_ge (tgt := 101) (pc' := 55) C dX2_costOf_52 (by decide) rfl (fun h52 => ?_) (fun h52 => ?_)
        · skip
          exact absurd h52 (nI_ge (b := 64) (by omega) (by decide)) -- done
        · skip
          refine j_aload_n (pc' := 56) C dX2_costOf_55 rfl rfl ?_
          refine j_iload_n (pc' := 57) C dX2_costOf_56 rfl rfl ?_
          refine j_iload (pc' := 59) C dX2_costOf_57 rfl rfl ?_
          refine j_iload_n (pc' := 60) C dX2_costOf_59 rfl rfl ?_
          refine jc_same (pc' := 63) C (c_MrowsOf l D cI cO B t (xx) (nI v) by_ (ordX od) v ex rfl hX (by omega)) 3 gX2_costOf_X2_rowsOf rfl (by decide +kernel) (by decide) rfl rfl (Nat.le_of_ble_eq_true rfl) 2 10 rfl rfl (wM_obj cI B _) (wM_addr cI B _) dX2_costOf_60 rfl (fun v1 u1 hp1 => ?_)
          obtain ⟨rfl, hu1⟩ := hp1
          rw [hu1]
          clear hu1 u1
          show J p l e _ s m args below meth c 0 0 _ _ D A _ _ [_] _
          refine j_aload_n (pc' := 64) C dX2_costOf_63 rfl rfl ?_
          refine j_iload (pc' := 66) C dX2_costOf_64 rfl rfl ?_
          refine j_iload (pc' := 68) C dX2_costOf_66 rfl rfl ?_
          refine j_iload_n (pc' := 69) C dX2_costOf_68 rfl rfl ?_
          refine jc_same (pc' := 72) C (c_MrowsOf l D cI cO B t (yy) (nI v) by_ (ordY od) v ey rfl hY (by omega)) 3 gX2_costOf_X2_rowsOf rfl (by decide +kernel) (by decide) rfl rfl (Nat.le_of_ble_eq_true rfl) 2 10 rfl rfl (wM_obj cI B _) (wM_addr cI B _) dX2_costOf_69 rfl (fun v1 u1 hp1 => ?_)
          obtain ⟨rfl, hu1⟩ := hp1
          rw [hu1]
          clear hu1 u1
          show J p l e _ s m args below meth c 0 0 _ _ D A _ _ [_, _] _
          refine j_lmul (pc' := 73) C dX2_costOf_72 rfl ?_
          refine j_lstore (pc' := 75) C dX2_costOf_73 rfl (by decide) rfl ?_
          refine j_lload (pc' := 77) C dX2_costOf_75 rfl rfl ?_
          refine j_lload (pc' := 79) C dX2_costOf_77 rfl rfl ?_
          refine j_lload (pc' := 81) C dX2_costOf_79 rfl rfl ?_
          refine j_aload_n (pc' := 82) C dX2_costOf_81 rfl rfl ?_
          refine j_iload (pc' := 84) C dX2_costOf_82 rfl rfl ?_
          refine j_iload (pc' := 86) C dX2_costOf_84 rfl rfl ?_
          refine j_iload_n (pc' := 87) C dX2_costOf_86 rfl rfl ?_
          refine jc_same (pc' := 90) C (c_MrowsOf l D cI cO B t (zz) (nI v) by_ (ordZ od) v ez rfl hZ (by omega)) 3 gX2_costOf_X2_rowsOf rfl (by decide +kernel) (by decide) rfl rfl (Nat.le_of_ble_eq_true rfl) 2 10 rfl rfl (wM_obj cI B _) (wM_addr cI B _) dX2_costOf_87 rfl (fun v1 u1 hp1 => ?_)
          obtain ⟨rfl, hu1⟩ := hp1
          rw [hu1]
          clear hu1 u1
          show J p l e _ s m args below meth c 0 0 _ _ D A _ _ [_, _, _, _] _
          refine j_lmul (pc' := 91) C dX2_costOf_90 rfl ?_
          refine j_ladd (pc' := 92) C dX2_costOf_91 rfl ?_
          refine j_ladd (pc' := 93) C dX2_costOf_92 rfl ?_
          refine j_lstore (pc' := 95) C dX2_costOf_93 rfl (by decide) rfl ?_
          refine j_iinc (pc' := 98) C dX2_costOf_95 rfl 1 (by decide) rfl (by decide) rfl ?_
          refine j_goto (pc' := 48) C dX2_costOf_98 (by decide) ?_
          rw [nI_1]
          exact ih (v + 1) _ (by omega)
          
          
          
    refine j_lconst (pc' := 43) C dX2_costOf_42 rfl 0 (by decide) ?_
    refine j_lstore (pc' := 45) C dX2_costOf_43 rfl (by decide) rfl ?_
    refine j_iconst (pc' := 46) C dX2_costOf_45 rfl 0 (by decide) ?_
    refine j_istore (pc' := 48) C dX2_costOf_46 rfl (by decide) rfl ?_
    exact loop 64 0 none (by omega)
  rcases (show od = 0 ∨ od = 1 ∨ od = 2 ∨ od = 3 ∨ od = 4 ∨ od = 5 by omega) with rfl | rfl | rfl | rfl | rfl | rfl
  · skip
    refine j_iload_n (pc' := 1) C dX2_costOf_0 rfl rfl ?_
    refine j_iconst (pc' := 2) C dX2_costOf_1 rfl 2 (by decide) ?_
    refine j_idiv (pc' := 3) C dX2_costOf_2 rfl (by decide) ?_
    refine j_istore_n (pc' := 4) C dX2_costOf_3 rfl (by decide) rfl ?_
    refine j_iload_n (pc' := 5) C dX2_costOf_4 rfl rfl ?_
    refine j_iconst (pc' := 6) C dX2_costOf_5 rfl 2 (by decide) ?_
    refine j_irem (pc' := 7) C dX2_costOf_6 rfl (by decide) ?_
    refine j_if_ne (tgt := 22) (pc' := 10) C dX2_costOf_7 (by decide) rfl (fun h7 => ?_) (fun h7 => ?_)
    · skip
      exact absurd h7 (by decide) -- done
    · skip
      refine j_iload_n (pc' := 11) C dX2_costOf_10 rfl rfl ?_
      refine j_if_ne (tgt := 18) (pc' := 14) C dX2_costOf_11 (by decide) rfl (fun h11 => ?_) (fun h11 => ?_)
      · skip
        exact absurd h11 (by decide) -- done
      · skip
        refine j_iconst (pc' := 15) C dX2_costOf_14 rfl 1 (by decide) ?_
        refine j_goto (pc' := 32) C dX2_costOf_15 (by decide) ?_
        refine j_istore (pc' := 34) C dX2_costOf_32 rfl (by decide) rfl ?_
        refine j_iconst (pc' := 35) C dX2_costOf_34 rfl 3 (by decide) ?_
        refine j_iload_n (pc' := 36) C dX2_costOf_35 rfl rfl ?_
        refine j_isub (pc' := 37) C dX2_costOf_36 rfl ?_
        refine j_iload (pc' := 39) C dX2_costOf_37 rfl rfl ?_
        refine j_isub (pc' := 40) C dX2_costOf_39 rfl ?_
        refine j_istore (pc' := 42) C dX2_costOf_40 rfl (by decide) rfl ?_
        exact h42 _ _ _ (by decide) (by decide) (by decide)
  · skip
    refine j_iload_n (pc' := 1) C dX2_costOf_0 rfl rfl ?_
    refine j_iconst (pc' := 2) C dX2_costOf_1 rfl 2 (by decide) ?_
    refine j_idiv (pc' := 3) C dX2_costOf_2 rfl (by decide) ?_
    refine j_istore_n (pc' := 4) C dX2_costOf_3 rfl (by decide) rfl ?_
    refine j_iload_n (pc' := 5) C dX2_costOf_4 rfl rfl ?_
    refine j_iconst (pc' := 6) C dX2_costOf_5 rfl 2 (by decide) ?_
    refine j_irem (pc' := 7) C dX2_costOf_6 rfl (by decide) ?_
    refine j_if_ne (tgt := 22) (pc' := 10) C dX2_costOf_7 (by decide) rfl (fun h7 => ?_) (fun h7 => ?_)
    · skip
      refine j_iload_n (pc' := 23) C dX2_costOf_22 rfl rfl ?_
      refine j_iconst (pc' := 24) C dX2_costOf_23 rfl 2 (by decide) ?_
      refine j_icmp_ne (tgt := 31) (pc' := 27) C dX2_costOf_24 (by decide) rfl (fun h24 => ?_) (fun h24 => ?_)
      · skip
        refine j_iconst (pc' := 32) C dX2_costOf_31 rfl 2 (by decide) ?_
        refine j_istore (pc' := 34) C dX2_costOf_32 rfl (by decide) rfl ?_
        refine j_iconst (pc' := 35) C dX2_costOf_34 rfl 3 (by decide) ?_
        refine j_iload_n (pc' := 36) C dX2_costOf_35 rfl rfl ?_
        refine j_isub (pc' := 37) C dX2_costOf_36 rfl ?_
        refine j_iload (pc' := 39) C dX2_costOf_37 rfl rfl ?_
        refine j_isub (pc' := 40) C dX2_costOf_39 rfl ?_
        refine j_istore (pc' := 42) C dX2_costOf_40 rfl (by decide) rfl ?_
        exact h42 _ _ _ (by decide) (by decide) (by decide)
      · skip
        exact absurd h24 (by decide) -- done
    · skip
      exact absurd h7 (by decide) -- done
  · skip
    refine j_iload_n (pc' := 1) C dX2_costOf_0 rfl rfl ?_
    refine j_iconst (pc' := 2) C dX2_costOf_1 rfl 2 (by decide) ?_
    refine j_idiv (pc' := 3) C dX2_costOf_2 rfl (by decide) ?_
    refine j_istore_n (pc' := 4) C dX2_costOf_3 rfl (by decide) rfl ?_
    refine j_iload_n (pc' := 5) C dX2_costOf_4 rfl rfl ?_
    refine j_iconst (pc' := 6) C dX2_costOf_5 rfl 2 (by decide) ?_
    refine j_irem (pc' := 7) C dX2_costOf_6 rfl (by decide) ?_
    refine j_if_ne (tgt := 22) (pc' := 10) C dX2_costOf_7 (by decide) rfl (fun h7 => ?_) (fun h7 => ?_)
    · skip
      exact absurd h7 (by decide) -- done
    · skip
      refine j_iload_n (pc' := 11) C dX2_costOf_10 rfl rfl ?_
      refine j_if_ne (tgt := 18) (pc' := 14) C dX2_costOf_11 (by decide) rfl (fun h11 => ?_) (fun h11 => ?_)
      · skip
        refine j_iconst (pc' := 19) C dX2_costOf_18 rfl 0 (by decide) ?_
        refine j_goto (pc' := 32) C dX2_costOf_19 (by decide) ?_
        refine j_istore (pc' := 34) C dX2_costOf_32 rfl (by decide) rfl ?_
        refine j_iconst (pc' := 35) C dX2_costOf_34 rfl 3 (by decide) ?_
        refine j_iload_n (pc' := 36) C dX2_costOf_35 rfl rfl ?_
        refine j_isub (pc' := 37) C dX2_costOf_36 rfl ?_
        refine j_iload (pc' := 39) C dX2_costOf_37 rfl rfl ?_
        refine j_isub (pc' := 40) C dX2_costOf_39 rfl ?_
        refine j_istore (pc' := 42) C dX2_costOf_40 rfl (by decide) rfl ?_
        exact h42 _ _ _ (by decide) (by decide) (by decide)
      · skip
        exact absurd h11 (by decide) -- done
  · skip
    refine j_iload_n (pc' := 1) C dX2_costOf_0 rfl rfl ?_
    refine j_iconst (pc' := 2) C dX2_costOf_1 rfl 2 (by decide) ?_
    refine j_idiv (pc' := 3) C dX2_costOf_2 rfl (by decide) ?_
    refine j_istore_n (pc' := 4) C dX2_costOf_3 rfl (by decide) rfl ?_
    refine j_iload_n (pc' := 5) C dX2_costOf_4 rfl rfl ?_
    refine j_iconst (pc' := 6) C dX2_costOf_5 rfl 2 (by decide) ?_
    refine j_irem (pc' := 7) C dX2_costOf_6 rfl (by decide) ?_
    refine j_if_ne (tgt := 22) (pc' := 10) C dX2_costOf_7 (by decide) rfl (fun h7 => ?_) (fun h7 => ?_)
    · skip
      refine j_iload_n (pc' := 23) C dX2_costOf_22 rfl rfl ?_
      refine j_iconst (pc' := 24) C dX2_costOf_23 rfl 2 (by decide) ?_
      refine j_icmp_ne (tgt := 31) (pc' := 27) C dX2_costOf_24 (by decide) rfl (fun h24 => ?_) (fun h24 => ?_)
      · skip
        refine j_iconst (pc' := 32) C dX2_costOf_31 rfl 2 (by decide) ?_
        refine j_istore (pc' := 34) C dX2_costOf_32 rfl (by decide) rfl ?_
        refine j_iconst (pc' := 35) C dX2_costOf_34 rfl 3 (by decide) ?_
        refine j_iload_n (pc' := 36) C dX2_costOf_35 rfl rfl ?_
        refine j_isub (pc' := 37) C dX2_costOf_36 rfl ?_
        refine j_iload (pc' := 39) C dX2_costOf_37 rfl rfl ?_
        refine j_isub (pc' := 40) C dX2_costOf_39 rfl ?_
        refine j_istore (pc' := 42) C dX2_costOf_40 rfl (by decide) rfl ?_
        exact h42 _ _ _ (by decide) (by decide) (by decide)
      · skip
        exact absurd h24 (by decide) -- done
    · skip
      exact absurd h7 (by decide) -- done
  · skip
    refine j_iload_n (pc' := 1) C dX2_costOf_0 rfl rfl ?_
    refine j_iconst (pc' := 2) C dX2_costOf_1 rfl 2 (by decide) ?_
    refine j_idiv (pc' := 3) C dX2_costOf_2 rfl (by decide) ?_
    refine j_istore_n (pc' := 4) C dX2_costOf_3 rfl (by decide) rfl ?_
    refine j_iload_n (pc' := 5) C dX2_costOf_4 rfl rfl ?_
    refine j_iconst (pc' := 6) C dX2_costOf_5 rfl 2 (by decide) ?_
    refine j_irem (pc' := 7) C dX2_costOf_6 rfl (by decide) ?_
    refine j_if_ne (tgt := 22) (pc' := 10) C dX2_costOf_7 (by decide) rfl (fun h7 => ?_) (fun h7 => ?_)
    · skip
      exact absurd h7 (by decide) -- done
    · skip
      refine j_iload_n (pc' := 11) C dX2_costOf_10 rfl rfl ?_
      refine j_if_ne (tgt := 18) (pc' := 14) C dX2_costOf_11 (by decide) rfl (fun h11 => ?_) (fun h11 => ?_)
      · skip
        refine j_iconst (pc' := 19) C dX2_costOf_18 rfl 0 (by decide) ?_
        refine j_goto (pc' := 32) C dX2_costOf_19 (by decide) ?_
        refine j_istore (pc' := 34) C dX2_costOf_32 rfl (by decide) rfl ?_
        refine j_iconst (pc' := 35) C dX2_costOf_34 rfl 3 (by decide) ?_
        refine j_iload_n (pc' := 36) C dX2_costOf_35 rfl rfl ?_
        refine j_isub (pc' := 37) C dX2_costOf_36 rfl ?_
        refine j_iload (pc' := 39) C dX2_costOf_37 rfl rfl ?_
        refine j_isub (pc' := 40) C dX2_costOf_39 rfl ?_
        refine j_istore (pc' := 42) C dX2_costOf_40 rfl (by decide) rfl ?_
        exact h42 _ _ _ (by decide) (by decide) (by decide)
      · skip
        exact absurd h11 (by decide) -- done
  · skip
    refine j_iload_n (pc' := 1) C dX2_costOf_0 rfl rfl ?_
    refine j_iconst (pc' := 2) C dX2_costOf_1 rfl 2 (by decide) ?_
    refine j_idiv (pc' := 3) C dX2_costOf_2 rfl (by decide) ?_
    refine j_istore_n (pc' := 4) C dX2_costOf_3 rfl (by decide) rfl ?_
    refine j_iload_n (pc' := 5) C dX2_costOf_4 rfl rfl ?_
    refine j_iconst (pc' := 6) C dX2_costOf_5 rfl 2 (by decide) ?_
    refine j_irem (pc' := 7) C dX2_costOf_6 rfl (by decide) ?_
    refine j_if_ne (tgt := 22) (pc' := 10) C dX2_costOf_7 (by decide) rfl (fun h7 => ?_) (fun h7 => ?_)
    · skip
      refine j_iload_n (pc' := 23) C dX2_costOf_22 rfl rfl ?_
      refine j_iconst (pc' := 24) C dX2_costOf_23 rfl 2 (by decide) ?_
      refine j_icmp_ne (tgt := 31) (pc' := 27) C dX2_costOf_24 (by decide) rfl (fun h24 => ?_) (fun h24 => ?_)
      · skip
        exact absurd h24 (by decide) -- done
      · skip
        refine j_iconst (pc' := 28) C dX2_costOf_27 rfl 1 (by decide) ?_
        refine j_goto (pc' := 32) C dX2_costOf_28 (by decide) ?_
        refine j_istore (pc' := 34) C dX2_costOf_32 rfl (by decide) rfl ?_
        refine j_iconst (pc' := 35) C dX2_costOf_34 rfl 3 (by decide) ?_
        refine j_iload_n (pc' := 36) C dX2_costOf_35 rfl rfl ?_
        refine j_isub (pc' := 37) C dX2_costOf_36 rfl ?_
        refine j_iload (pc' := 39) C dX2_costOf_37 rfl rfl ?_
        refine j_isub (pc' := 40) C dX2_costOf_39 rfl ?_
        refine j_istore (pc' := 42) C dX2_costOf_40 rfl (by decide) rfl ?_
        exact h42 _ _ _ (by decide) (by decide) (by decide)
    · skip
      exact absurd h7 (by decide) -- done
set_option maxRecDepth 100000 in
set_option maxHeartbeats 4000000 in
theorem c_allGuesses (l : Launch) (D : va_G) (cI cO : ClassId) (B : Nat → Nat) (t : TS) (hok : okM t) : Kt l yX2_allGuesses wsX2_allGuesses 4 (wM cI B) D cI cO (fun _ => True) [.ref (B 10)] t (fun r u => r = none ∧ u = allG t) := by
  refine Kt_of (cc := cX2_allGuesses) (n := 2) (ret := none) rfl (by decide +kernel) (Nat.le_of_ble_eq_true rfl) rfl [some (.ref (B 10)), none] rfl ?_
  intro p e s m args below meth c A C _ _
  have hinM : ∀ w ∈ wsX20, w ∈ wsX2_allGuesses := by decide +kernel
  refine j_iconst (pc' := 1) C dX2_allGuesses_0 rfl 0 (by decide) ?_
  refine j_istore_n (pc' := 2) C dX2_allGuesses_1 rfl (by decide) rfl ?_
  show J p l e (rmH 4) s m args below meth c 0 0 (RQ below args s D (wM cI B) (fun r u => r = none ∧ u = allG t) A) 2 D A 2 [some (.ref (B 10)), some (.int (nI 0))] [] (wM cI B t)
  refine j_iload_n (pc' := 3) C dX2_allGuesses_2 rfl rfl ?_
  refine j_iconst (pc' := 4) C dX2_allGuesses_3 rfl 3 (by decide) ?_
  refine j_icmp_ge (tgt := 18) (pc' := 7) C dX2_allGuesses_4 (by decide) rfl (fun h4 => ?_) (fun h4 => ?_)
  · skip
    exact absurd h4 (by decide) -- done
  · skip
    refine j_aload_n (pc' := 8) C dX2_allGuesses_7 rfl rfl ?_
    refine j_iload_n (pc' := 9) C dX2_allGuesses_8 rfl rfl ?_
    refine jc_same (pc' := 12) C (c_guesses l D cI cO B (t) hok (nI 0) 0 rfl (by decide)) 1 gX2_allGuesses_X2_guesses rfl (by decide +kernel) (by decide) rfl rfl (by decide) 2 10 rfl rfl (wM_obj cI B _) (wM_addr cI B _) dX2_allGuesses_9 rfl (fun v1 u1 hp1 => ?_)
    obtain ⟨rfl, rfl⟩ := hp1
    show J p l e _ s m args below meth c 0 0 _ _ D A _ _ [] _
    refine j_iinc (pc' := 15) C dX2_allGuesses_12 rfl 1 (by decide) rfl (by decide) rfl ?_
    refine j_goto (pc' := 2) C dX2_allGuesses_15 (by decide) ?_
    rw [show (nI 0 : Int32) + 1 = nI 1 from nI_1 0]
    refine j_iload_n (pc' := 3) C dX2_allGuesses_2 rfl rfl ?_
    refine j_iconst (pc' := 4) C dX2_allGuesses_3 rfl 3 (by decide) ?_
    refine j_icmp_ge (tgt := 18) (pc' := 7) C dX2_allGuesses_4 (by decide) rfl (fun h4 => ?_) (fun h4 => ?_)
    · skip
      exact absurd h4 (by decide) -- done
    · skip
      refine j_aload_n (pc' := 8) C dX2_allGuesses_7 rfl rfl ?_
      refine j_iload_n (pc' := 9) C dX2_allGuesses_8 rfl rfl ?_
      refine jc_same (pc' := 12) C (c_guesses l D cI cO B (guessF (t) 0) (guessF_ok hok 0) (nI 1) 1 rfl (by decide)) 1 gX2_allGuesses_X2_guesses rfl (by decide +kernel) (by decide) rfl rfl (by decide) 2 10 rfl rfl (wM_obj cI B _) (wM_addr cI B _) dX2_allGuesses_9 rfl (fun v1 u1 hp1 => ?_)
      obtain ⟨rfl, rfl⟩ := hp1
      show J p l e _ s m args below meth c 0 0 _ _ D A _ _ [] _
      refine j_iinc (pc' := 15) C dX2_allGuesses_12 rfl 1 (by decide) rfl (by decide) rfl ?_
      refine j_goto (pc' := 2) C dX2_allGuesses_15 (by decide) ?_
      rw [show (nI 1 : Int32) + 1 = nI 2 from nI_1 1]
      refine j_iload_n (pc' := 3) C dX2_allGuesses_2 rfl rfl ?_
      refine j_iconst (pc' := 4) C dX2_allGuesses_3 rfl 3 (by decide) ?_
      refine j_icmp_ge (tgt := 18) (pc' := 7) C dX2_allGuesses_4 (by decide) rfl (fun h4 => ?_) (fun h4 => ?_)
      · skip
        exact absurd h4 (by decide) -- done
      · skip
        refine j_aload_n (pc' := 8) C dX2_allGuesses_7 rfl rfl ?_
        refine j_iload_n (pc' := 9) C dX2_allGuesses_8 rfl rfl ?_
        refine jc_same (pc' := 12) C (c_guesses l D cI cO B (guessF (guessF (t) 0) 1) (guessF_ok (guessF_ok hok 0) 1) (nI 2) 2 rfl (by decide)) 1 gX2_allGuesses_X2_guesses rfl (by decide +kernel) (by decide) rfl rfl (by decide) 2 10 rfl rfl (wM_obj cI B _) (wM_addr cI B _) dX2_allGuesses_9 rfl (fun v1 u1 hp1 => ?_)
        obtain ⟨rfl, rfl⟩ := hp1
        show J p l e _ s m args below meth c 0 0 _ _ D A _ _ [] _
        refine j_iinc (pc' := 15) C dX2_allGuesses_12 rfl 1 (by decide) rfl (by decide) rfl ?_
        refine j_goto (pc' := 2) C dX2_allGuesses_15 (by decide) ?_
        rw [show (nI 2 : Int32) + 1 = nI 3 from nI_1 2]
        refine j_iload_n (pc' := 3) C dX2_allGuesses_2 rfl rfl ?_
        refine j_iconst (pc' := 4) C dX2_allGuesses_3 rfl 3 (by decide) ?_
        refine j_icmp_ge (tgt := 18) (pc' := 7) C dX2_allGuesses_4 (by decide) rfl (fun h4 => ?_) (fun h4 => ?_)
        · skip
          refine j_return _ C dX2_allGuesses_18 ?_
          exact ⟨rfl, rfl⟩
        · skip
          exact absurd (by decide) h4 -- done
        
        
      
      
    
    
  
set_option maxRecDepth 100000 in
set_option maxHeartbeats 4000000 in
theorem c_Mcost (l : Launch) (D : va_G) (cI cO : ClassId) (B : Nat → Nat) (t : TS) (hok : okM t) (od by_ : Int32) : Kt l yX2_cost wsX2_cost 5 (wM cI B) D cI cO (fun _ => True) [.ref (B 10), .int od, .int by_] t (fun r u => r = some (.long (mCost t od by_).1) ∧ u = (mCost t od by_).2) := by
  refine Kt_of (cc := cX2_cost) (n := 3) (ret := some .long) rfl (by decide +kernel) (Nat.le_of_ble_eq_true rfl) rfl [some (.ref (B 10)), some (.int od), some (.int by_)] rfl ?_
  intro p e s m args below meth c A C _ _
  have hinM : ∀ w ∈ wsX20, w ∈ wsX2_cost := by decide +kernel
  refine j_iload_n (pc' := 1) C dX2_cost_0 rfl rfl ?_
  refine j_iconst (pc' := 2) C dX2_cost_1 rfl 0 (by decide) ?_
  refine j_iconst (pc' := 3) C dX2_cost_2 rfl 5 (by decide) ?_
  refine jc_nil (pc' := 6) C (c_isIn l D cI cO _ _ _) 3 gX2_cost_X2_isIn rfl (by decide +kernel) (by decide) rfl rfl (Nat.le_of_ble_eq_true rfl) dX2_cost_3 rfl (fun v1 hp1 => ?_)
  subst hp1
  show J p l e _ s m args below meth c 0 0 _ _ D A _ _ [_] _
  refine j_if_ne (tgt := 13) (pc' := 9) C dX2_cost_6 (by decide) rfl (fun h6 => ?_) (fun h6 => ?_)
  · skip
    have hF0 : mCost t od by_ = (mCostOf (allG t) od.toNatClampNeg by_, allG t) := by rw [mCost, if_neg h6]
    obtain ⟨q, hq, rfl⟩ := isInF_nI 5 (by decide) h6
    rw [nI_clamp (show q < 2 ^ 31 by omega)] at hF0
    refine j_aload_n (pc' := 14) C dX2_cost_13 rfl rfl ?_
    refine jc_same (pc' := 17) C (c_allGuesses l D cI cO B (t) hok) 0 gX2_cost_X2_allGuesses rfl (by decide +kernel) (by decide) rfl rfl (by decide) 2 10 rfl rfl (wM_obj cI B _) (wM_addr cI B _) dX2_cost_14 rfl (fun v1 u1 hp1 => ?_)
    obtain ⟨rfl, rfl⟩ := hp1
    show J p l e _ s m args below meth c 0 0 _ _ D A _ _ [] _
    refine j_aload_n (pc' := 18) C dX2_cost_17 rfl rfl ?_
    refine j_iload_n (pc' := 19) C dX2_cost_18 rfl rfl ?_
    refine j_iload_n (pc' := 20) C dX2_cost_19 rfl rfl ?_
    refine jc_same (pc' := 23) C (c_McostOf l D cI cO B (allG t) (q) (by omega) (by_)) 2 gX2_cost_X2_costOf rfl (by decide +kernel) (by decide) rfl rfl (Nat.le_of_ble_eq_true rfl) 2 10 rfl rfl (wM_obj cI B _) (wM_addr cI B _) dX2_cost_20 rfl (fun v1 u1 hp1 => ?_)
    obtain ⟨rfl, hu1⟩ := hp1
    rw [hu1]
    clear hu1 u1
    show J p l e _ s m args below meth c 0 0 _ _ D A _ _ [_] _
    refine j_lreturn _ C dX2_cost_23 ?_
    exact ⟨by rw [hF0], by rw [hF0]⟩
    
    
  · skip
    have hF : mCost t od by_ = (-1, t) := by rw [mCost, if_pos h6]
    refine j_ldc2 (pc' := 12) C dX2_cost_9 rfl (-1) (by decide +kernel) ?_
    refine j_lreturn _ C dX2_cost_12 ?_
    exact ⟨by rw [hF] <;> rfl, by rw [hF] <;> rfl⟩
  
set_option maxRecDepth 100000 in
set_option maxHeartbeats 4000000 in
theorem c_Mplan (l : Launch) (D : va_G) (cI cO : ClassId) (B : Nat → Nat) (t : TS) (hok : okM t) (by_ : Int32) : Kt l yX2_plan wsX2_plan 5 (wM cI B) D cI cO (fun _ => True) [.ref (B 10), .int by_] t (fun r u => r = some (.int (nI (planN t by_))) ∧ u = allG t) := by
  refine Kt_of (cc := cX2_plan) (n := 4) (ret := some .int) rfl (by decide +kernel) (Nat.le_of_ble_eq_true rfl) rfl [some (.ref (B 10)), some (.int by_), none, none] rfl ?_
  intro p e s m args below meth c A C _ _
  have hinM : ∀ w ∈ wsX20, w ∈ wsX2_plan := by decide +kernel
  have loop : ∀ (k o b : Nat), o + k = 6 → b < 6 → planL (allG t) by_ k o b = planN t by_ → J p l e (rmH 5) s m args below meth c 0 0 (RQ below args s D (wM cI B) (fun r u => r = some (.int (nI (planN t by_))) ∧ u = allG t) A) 4 D A 8 [some (.ref (B 10)), some (.int by_), some (.int (nI b)), some (.int (nI o))] [] (wM cI B (allG t)) := by
    intro k
    induction k with
    | zero =>
      intro o b ho hb hr
      have ho2 : o = 6 := by omega
      subst ho2
      refine j_iload_n (pc' := 9) C dX2_plan_8 rfl rfl ?_
      refine j_bipush (pc' := 11) C dX2_plan_9 rfl 6 (by decide) ?_
      refine j_icmp_ge (tgt := 38) (pc' := 14) C dX2_plan_11 (by decide) rfl (fun h11 => ?_) (fun h11 => ?_)
      · skip
        refine j_iload_n (pc' := 39) C dX2_plan_38 rfl rfl ?_
        refine j_ireturn _ C dX2_plan_39 ?_
        exact ⟨by rw [← hr]; rfl, rfl⟩
      · skip
        exact absurd (by decide) h11 -- done
    | succ k ih =>
      intro o b ho hb hr
      refine j_iload_n (pc' := 9) C dX2_plan_8 rfl rfl ?_
      refine j_bipush (pc' := 11) C dX2_plan_9 rfl 6 (by decide) ?_
      refine j_icmp_ge (tgt := 38) (pc' := 14) C dX2_plan_11 (by decide) rfl (fun h11 => ?_) (fun h11 => ?_)
      · skip
        exact absurd h11 (nI_ge (b := 6) (by omega) (by decide)) -- done
      · skip
        refine j_aload_n (pc' := 15) C dX2_plan_14 rfl rfl ?_
        refine j_iload_n (pc' := 16) C dX2_plan_15 rfl rfl ?_
        refine j_iload_n (pc' := 17) C dX2_plan_16 rfl rfl ?_
        refine jc_same (pc' := 20) C (c_McostOf l D cI cO B (allG t) (o) (by omega) (by_)) 2 gX2_plan_X2_costOf rfl (by decide +kernel) (by decide) rfl rfl (Nat.le_of_ble_eq_true rfl) 2 10 rfl rfl (wM_obj cI B _) (wM_addr cI B _) dX2_plan_17 rfl (fun v1 u1 hp1 => ?_)
        obtain ⟨rfl, hu1⟩ := hp1
        rw [hu1]
        clear hu1 u1
        show J p l e _ s m args below meth c 0 0 _ _ D A _ _ [_] _
        refine j_aload_n (pc' := 21) C dX2_plan_20 rfl rfl ?_
        refine j_iload_n (pc' := 22) C dX2_plan_21 rfl rfl ?_
        refine j_iload_n (pc' := 23) C dX2_plan_22 rfl rfl ?_
        refine jc_same (pc' := 26) C (c_McostOf l D cI cO B (allG t) (b) hb (by_)) 2 gX2_plan_X2_costOf rfl (by decide +kernel) (by decide) rfl rfl (Nat.le_of_ble_eq_true rfl) 2 10 rfl rfl (wM_obj cI B _) (wM_addr cI B _) dX2_plan_23 rfl (fun v1 u1 hp1 => ?_)
        obtain ⟨rfl, hu1⟩ := hp1
        rw [hu1]
        clear hu1 u1
        show J p l e _ s m args below meth c 0 0 _ _ D A _ _ [_, _] _
        refine j_lcmp (pc' := 27) C dX2_plan_26 rfl ?_
        refine j_if_ge (tgt := 32) (pc' := 30) C dX2_plan_27 (by decide) rfl (fun h27 => ?_) (fun h27 => ?_)
        · skip
          have hx : ¬ lg_cmp (mCostOf (allG t) o by_) (mCostOf (allG t) b by_) < 0 := i32_le_nlt h27
          refine j_iinc (pc' := 35) C dX2_plan_32 rfl 1 (by decide) rfl (by decide) rfl ?_
          refine j_goto (pc' := 8) C dX2_plan_35 (by decide) ?_
          rw [nI_1]
          first
            | exact ih (o + 1) b (by omega) hb (by rw [← hr, planL, if_neg hx])
            | exact ih (o + 1) o (by omega) (by omega) (by rw [← hr, planL, if_pos hy])
        · skip
          have hy : lg_cmp (mCostOf (allG t) o by_) (mCostOf (allG t) b by_) < 0 := i32_nle h27
          refine j_iload_n (pc' := 31) C dX2_plan_30 rfl rfl ?_
          refine j_istore_n (pc' := 32) C dX2_plan_31 rfl (by decide) rfl ?_
          refine j_iinc (pc' := 35) C dX2_plan_32 rfl 1 (by decide) rfl (by decide) rfl ?_
          refine j_goto (pc' := 8) C dX2_plan_35 (by decide) ?_
          rw [nI_1]
          first
            | exact ih (o + 1) b (by omega) hb (by rw [← hr, planL, if_neg hx])
            | exact ih (o + 1) o (by omega) (by omega) (by rw [← hr, planL, if_pos hy])
        
        
  refine j_aload_n (pc' := 1) C dX2_plan_0 rfl rfl ?_
  refine jc_same (pc' := 4) C (c_allGuesses l D cI cO B (t) hok) 0 gX2_plan_X2_allGuesses rfl (by decide +kernel) (by decide) rfl rfl (by decide) 2 10 rfl rfl (wM_obj cI B _) (wM_addr cI B _) dX2_plan_1 rfl (fun v1 u1 hp1 => ?_)
  obtain ⟨rfl, rfl⟩ := hp1
  show J p l e _ s m args below meth c 0 0 _ _ D A _ _ [] _
  refine j_iconst (pc' := 5) C dX2_plan_4 rfl 0 (by decide) ?_
  refine j_istore_n (pc' := 6) C dX2_plan_5 rfl (by decide) rfl ?_
  refine j_iconst (pc' := 7) C dX2_plan_6 rfl 1 (by decide) ?_
  refine j_istore_n (pc' := 8) C dX2_plan_7 rfl (by decide) rfl ?_
  exact loop 5 1 0 (by omega) (by omega) rfl
  
end
section
theorem planN_lt (t : TS) (by_ : Int32) : planN t by_ < 6 := by
  unfold planN
  exact planL_lt (allG t) by_ 5 1 0 (by decide) (by decide)
set_option maxRecDepth 100000 in
set_option maxHeartbeats 400000 in
theorem c_Mlost (l : Launch) (D : va_G) (cI cO : ClassId) (B : Nat → Nat) (t : TS) (hok : okM t) : Kt l yX2_lost wsX2_lost 6 (wM cI B) D cI cO (fun _ => True) [.ref (B 10)] t (fun r u => r = some (.long (mCostOf (allG (allG t)) (planN t 0) 1 - mCostOf (allG (allG t)) (planN (allG t) 1) 1)) ∧ u = allG (allG t)) := by
  refine Kt_of (cc := cX2_lost) (n := 3) (ret := some .long) rfl (by decide +kernel) (Nat.le_of_ble_eq_true rfl) rfl [some (.ref (B 10)), none, none] rfl ?_
  intro p e s m args below meth c A C _ _
  have hinM : ∀ w ∈ wsX20, w ∈ wsX2_lost := by decide +kernel
  have h1 : planN t 0 < 6 := planN_lt t 0
  have h2 : planN (allG t) 1 < 6 := planN_lt (allG t) 1
  generalize hq1 : planN t 0 = q1 at h1
  generalize hq2 : planN (allG t) 1 = q2 at h2
  refine j_aload_n (pc' := 1) C dX2_lost_0 rfl rfl ?_
  refine j_iconst (pc' := 2) C dX2_lost_1 rfl 0 (by decide) ?_
  refine jc_same (pc' := 5) C (c_Mplan l D cI cO B (t) hok 0) 1 gX2_lost_X2_plan rfl (by decide +kernel) (by decide) rfl rfl (by decide) 2 10 rfl rfl (wM_obj cI B _) (wM_addr cI B _) dX2_lost_2 rfl (fun v1 u1 hp1 => ?_)
  obtain ⟨rfl, rfl⟩ := hp1
  show J p l e _ s m args below meth c 0 0 _ _ D A _ _ [_] _
  rw [hq1]
  refine j_istore_n (pc' := 6) C dX2_lost_5 rfl (by decide) rfl ?_
  refine j_aload_n (pc' := 7) C dX2_lost_6 rfl rfl ?_
  refine j_iconst (pc' := 8) C dX2_lost_7 rfl 1 (by decide) ?_
  refine jc_same (pc' := 11) C (c_Mplan l D cI cO B (allG t) (allG_ok hok) 1) 1 gX2_lost_X2_plan rfl (by decide +kernel) (by decide) rfl rfl (by decide) 2 10 rfl rfl (wM_obj cI B _) (wM_addr cI B _) dX2_lost_8 rfl (fun v1 u1 hp1 => ?_)
  obtain ⟨rfl, rfl⟩ := hp1
  show J p l e _ s m args below meth c 0 0 _ _ D A _ _ [_] _
  rw [hq2]
  refine j_istore_n (pc' := 12) C dX2_lost_11 rfl (by decide) rfl ?_
  refine j_aload_n (pc' := 13) C dX2_lost_12 rfl rfl ?_
  refine j_iload_n (pc' := 14) C dX2_lost_13 rfl rfl ?_
  refine j_iconst (pc' := 15) C dX2_lost_14 rfl 1 (by decide) ?_
  refine jc_same (pc' := 18) C (c_McostOf l D cI cO B (allG (allG t)) (q1) h1 (1)) 2 gX2_lost_X2_costOf rfl (by decide +kernel) (by decide) rfl rfl (Nat.le_of_ble_eq_true rfl) 2 10 rfl rfl (wM_obj cI B _) (wM_addr cI B _) dX2_lost_15 rfl (fun v1 u1 hp1 => ?_)
  obtain ⟨rfl, hu1⟩ := hp1
  rw [hu1]
  clear hu1 u1
  show J p l e _ s m args below meth c 0 0 _ _ D A _ _ [_] _
  refine j_aload_n (pc' := 19) C dX2_lost_18 rfl rfl ?_
  refine j_iload_n (pc' := 20) C dX2_lost_19 rfl rfl ?_
  refine j_iconst (pc' := 21) C dX2_lost_20 rfl 1 (by decide) ?_
  refine jc_same (pc' := 24) C (c_McostOf l D cI cO B (allG (allG t)) (q2) h2 (1)) 2 gX2_lost_X2_costOf rfl (by decide +kernel) (by decide) rfl rfl (Nat.le_of_ble_eq_true rfl) 2 10 rfl rfl (wM_obj cI B _) (wM_addr cI B _) dX2_lost_21 rfl (fun v1 u1 hp1 => ?_)
  obtain ⟨rfl, hu1⟩ := hp1
  rw [hu1]
  clear hu1 u1
  show J p l e _ s m args below meth c 0 0 _ _ D A _ _ [_, _] _
  refine j_lsub (pc' := 25) C dX2_lost_24 rfl ?_
  refine j_lreturn _ C dX2_lost_25 ?_
  exact ⟨rfl, rfl⟩
  
  
  
  
end
section

/-! the class's world: the object, its row of Tables, the three Tables -/
def uT (T : Nat → TS) (i : Nat) (t : TS) : Nat → TS := fun j => if j = i then t else T j
theorem uT_s (T : Nat → TS) (i : Nat) (t : TS) : uT T i t i = t := if_pos rfl
theorem uT_n (T : Nat → TS) {i j : Nat} (t : TS) (h : j ≠ i) : uT T i t j = T j := if_neg h
theorem uT_self (T : Nat → TS) (i : Nat) : uT T i (T i) = T := by
  funext j; unfold uT; by_cases h : j = i
  · rw [if_pos h, h]
  · rw [if_neg h]
def wX (cI cO : ClassId) (ao ta : Nat) (B : Nat → Nat → Nat) (T : Nat → TS) : va_W := (ao, .inr (1, [.ref ta])) :: (ta, .inl (cO, 3, .inr (.inr (.inr (.inr (fun j => some (B j 0))))))) :: (wT cI (B 0) (T 0) ++ (wT cI (B 1) (T 1) ++ wT cI (B 2) (T 2)))
theorem wX_addr (cI cO : ClassId) (ao ta : Nat) (B : Nat → Nat → Nat) (T U : Nat → TS) : (wX cI cO ao ta B U).map Prod.fst = (wX cI cO ao ta B T).map Prod.fst := rfl
theorem wX_obj (cI cO : ClassId) (ao ta : Nat) (B : Nat → Nat → Nat) (T : Nat → TS) : (wX cI cO ao ta B T)[0]? = some (ao, .inr (1, [.ref ta])) := rfl
theorem wX_row (cI cO : ClassId) (ao ta : Nat) (B : Nat → Nat → Nat) (T : Nat → TS) : (wX cI cO ao ta B T)[1]? = some (ta, .inl (cO, 3, .inr (.inr (.inr (.inr (fun j => some (B j 0))))))) := rfl
theorem wX_tobj (cI cO : ClassId) (ao ta : Nat) (B : Nat → Nat → Nat) (T : Nat → TS) {i : Nat} (hi : i < 3) : (wX cI cO ao ta B T)[2 + 10 * i]? = some (B i 0, .inr (0, fldT (B i) (T i))) := by
  rcases (show i = 0 ∨ i = 1 ∨ i = 2 by omega) with rfl | rfl | rfl <;> rfl
theorem wX_arr (cI cO : ClassId) (ao ta : Nat) (B : Nat → Nat → Nat) (T : Nat → TS) {i k : Nat} (hi : i < 3) (hk : 3 ≤ k ∧ k ≤ 11) : (wX cI cO ao ta B T)[2 + 10 * i + (k - 2)]? = some (B i k, .inl (cI, lenT k, .inl ((T i).2 k))) := by
  rcases (show i = 0 ∨ i = 1 ∨ i = 2 by omega) with rfl | rfl | rfl <;>
  rcases (show k = 3 ∨ k = 4 ∨ k = 5 ∨ k = 6 ∨ k = 7 ∨ k = 8 ∨ k = 9 ∨ k = 10 ∨ k = 11 by omega) with rfl | rfl | rfl | rfl | rfl | rfl | rfl | rfl | rfl <;> rfl
theorem wX_set8 (cI cO : ClassId) (ao ta : Nat) (B : Nat → Nat → Nat) (T : Nat → TS) {i : Nat} (hi : i < 3) (g : Nat → Int32) : (wX cI cO ao ta B T).set (2 + 10 * i + (8 - 2)) (B i 8, .inl (cI, lenT 8, .inl g)) = wX cI cO ao ta B (uT T i ((T i).1, ua (T i).2 8 g)) := by
  rcases (show i = 0 ∨ i = 1 ∨ i = 2 by omega) with rfl | rfl | rfl <;> rfl
section ENX
variable {p : Program} {l : Launch} {e : Env} {R : Room} {s : State} {m : MethodId} {args : Array Value} {below : List Frame} {meth : Method} {c : Code} {cells slots : Nat} {Q : State → Prop} {n : Nat} {D : va_G} {A : Nat → Prop} {cc : ByteArray} {own : String} {Ts : List Cond} {ret : Option FieldType} {cI cO : ClassId} {pc pc' : Nat} {L : List (Option Value)} {S : List Value} {ws : va_W} {ao ta : Nat} {B : Nat → Nat → Nat} {T : Nat → TS}
theorem jXa {ix : Nat} (C : Cx p R s m args meth c cells slots n D A cc own Ts ret cI cO) (hd : decode cc pc = .ok (.getfield ix, 3)) (hp : pc + 3 = pc') (hin : ∀ w ∈ wsX10, w ∈ Ts) (hm : Cond.fieldLink own ix (TX1 0).1 (TX1 0).2.1 (TX1 0).2.2.1 ∈ Ts)
    (kk : J p l e R s m args below meth c cells slots Q n D A (pc') (L) (.ref ta :: S) (wX cI cO ao ta B T)) : J p l e R s m args below meth c cells slots Q n D A (pc) (L) (.ref ao :: S) (wX cI cO ao ta B T) := j_get C hd hp 0 0 (wX_obj cI cO ao ta B T) rfl hin (by decide) hm rfl kk
theorem jX_aald {x : Int32} (C : Cx p R s m args meth c cells slots n D A cc own Ts ret cI cO) (hd : decode cc pc = .ok (.aaload, 1)) (hp : pc + 1 = pc') (i : Nat) (hx : x = nI i) (hi : i < 3)
    (kk : J p l e R s m args below meth c cells slots Q n D A (pc') (L) (.ref (B i 0) :: S) (wX cI cO ao ta B T)) : J p l e R s m args below meth c cells slots Q n D A (pc) (L) (.int x :: .ref ta :: S) (wX cI cO ao ta B T) := by
  subst hx
  exact j_aald C hd hp 1 (wX_row cI cO ao ta B T) (vp_in_nI hi (by decide)) (by rw [nI_clamp (by omega)]) kk
theorem jXTi {ix : Nat} (C : Cx p R s m args meth c cells slots n D A cc own Ts ret cI cO) (hd : decode cc pc = .ok (.getfield ix, 3)) (hp : pc + 3 = pc') (i : Nat) (hi : i < 3) (k : Nat) (hk : isIT k) (hin : ∀ w ∈ wsX00, w ∈ Ts) (hm : Cond.fieldLink own ix (TX0 k).1 (TX0 k).2.1 (TX0 k).2.2.1 ∈ Ts)
    (kk : J p l e R s m args below meth c cells slots Q n D A (pc') (L) (.int ((T i).1 k) :: S) (wX cI cO ao ta B T)) : J p l e R s m args below meth c cells slots Q n D A (pc) (L) (.ref (B i 0) :: S) (wX cI cO ao ta B T) := j_get C hd hp _ k (wX_tobj cI cO ao ta B T hi) rfl hin (by rcases hk with rfl | rfl | rfl | rfl | rfl <;> decide) hm (fldT_i (B i) (T i) hk) kk
theorem jXTa {ix : Nat} (C : Cx p R s m args meth c cells slots n D A cc own Ts ret cI cO) (hd : decode cc pc = .ok (.getfield ix, 3)) (hp : pc + 3 = pc') (i : Nat) (hi : i < 3) (k : Nat) (hk : 3 ≤ k ∧ k ≤ 11) (hin : ∀ w ∈ wsX00, w ∈ Ts) (hm : Cond.fieldLink own ix (TX0 k).1 (TX0 k).2.1 (TX0 k).2.2.1 ∈ Ts)
    (kk : J p l e R s m args below meth c cells slots Q n D A (pc') (L) (.ref (B i k) :: S) (wX cI cO ao ta B T)) : J p l e R s m args below meth c cells slots Q n D A (pc) (L) (.ref (B i 0) :: S) (wX cI cO ao ta B T) := j_get C hd hp _ k (wX_tobj cI cO ao ta B T hi) rfl hin (by omega) hm (fldT_a (B i) (T i) hk) kk
theorem jXTl {x : Int32} (C : Cx p R s m args meth c cells slots n D A cc own Ts ret cI cO) (hd : decode cc pc = .ok (.iaload, 1)) (hp : pc + 1 = pc') (i : Nat) (hi : i < 3) (k : Nat) (hk : 3 ≤ k ∧ k ≤ 11) (j : Nat) (hj : x = nI j) (hjl : j < lenT k)
    (kk : J p l e R s m args below meth c cells slots Q n D A (pc') (L) (.int ((T i).2 k j) :: S) (wX cI cO ao ta B T)) : J p l e R s m args below meth c cells slots Q n D A (pc) (L) (.int x :: .ref (B i k) :: S) (wX cI cO ao ta B T) := by
  subst hj
  have hb : lenT k < 2 ^ 31 := by unfold lenT; (repeat' split) <;> decide
  refine j_ald C hd hp _ (wX_arr cI cO ao ta B T hi hk) (vp_in_nI hjl hb) ?_
  rw [nI_clamp (by omega)]
  exact kk
theorem jXTs8 {x v : Int32} (C : Cx p R s m args meth c cells slots n D A cc own Ts ret cI cO) (hd : decode cc pc = .ok (.iastore, 1)) (hp : pc + 1 = pc') (i : Nat) (hi : i < 3) (j : Nat) (hj : x = nI j) (hjl : j < 64)
    (kk : J p l e R s m args below meth c cells slots Q n D A (pc') (L) (S) (wX cI cO ao ta B (uT T i ((T i).1, ua (T i).2 8 (upd ((T i).2 8) j v))))) : J p l e R s m args below meth c cells slots Q n D A (pc) (L) (.int v :: .int x :: .ref (B i 8) :: S) (wX cI cO ao ta B T) := by
  subst hj
  refine j_ast C hd hp _ (wX_arr cI cO ao ta B T hi (k := 8) (by decide)) (vp_in_nI hjl (by decide)) (wX_set8 cI cO ao ta B T hi _) ?_
  rw [nI_clamp (by omega)]
  exact kk
theorem jX_callT {post : Option Value → TS → Prop} {rest : List Value} {y : MethodName} {wsd ws' : List Cond} {h maxL ix : Nat} {bytes : ByteArray} {rt : Option FieldType} {As : List Value} (C : Cx p R s m args meth c cells slots n D A cc own Ts ret cI cO) (i : Nat) (hi : i < 3) (hM : Kt l y wsd h (wT cI (B i)) D cI cO (fun _ => True) (.ref (B i 0) :: As) (T i) post)
    (nA : Nat) (hG : GoodIn Ts (wsV own ix y.cls y wsd)) (hw : wsd = Cond.code y bytes maxL rt :: ws') (hd : y.cls ≠ "java/lang/invoke/MethodHandle" ∧ y.cls ≠ "java/lang/invoke/VarHandle" ∧ (parseMethodDescriptor y.desc).map (fun d => d.parameters.length) = some nA) (hR0 : h + 1 ≤ R.frames ∧ 8 + (maxL + 11) + 34 * h ≤ R.locals) (hnA : As.length = nA) (hst : S = As.reverse ++ .ref (B i 0) :: rest) (hrs : (rest.map fun v => v.category).sum ≤ 8) (hyc : RX0 = y.cls) (hdec : decode cc pc = .ok (.invokevirtual ix, 3)) (hp : pc + 3 = pc')
    (kk : ∀ (v : Option Value) (u : TS), post v u → J p l e R s m args below meth c cells slots Q n D A (pc') (L) (v.toList ++ rest) (wX cI cO ao ta B (uT T i u))) : J p l e R s m args below meth c cells slots Q n D A (pc) (L) (S) (wX cI cO ao ta B T) := by
  subst hp
  rcases (show i = 0 ∨ i = 1 ∨ i = 2 by omega) with rfl | rfl | rfl
  · exact j_callV (wr := (ao, .inr (1, [.ref ta])) :: (ta, .inl (cO, 3, .inr (.inr (.inr (.inr (fun j => some (B j 0))))))) :: (wT cI (B 1) (T 1) ++ wT cI (B 2) (T 2))) C hM nA hG hw hd hR0 hnA hst hrs (fun _ _ _ _ _ => trivial) (fun _ _ _ _ _ _ => trivial) 0 0 rfl hyc (wT_obj cI (B 0) (T 0)) [2, 3, 4, 5, 6, 7, 8, 9, 10, 11] [0, 1, 12, 13, 14, 15, 16, 17, 18, 19, 20, 21, 22, 23, 24, 25, 26, 27, 28, 29, 30, 31] rfl rfl (by decide) (by decide) (by decide) (fun _ => rfl) hdec (fun v u hp => j_perm [0, 1, 22, 23, 24, 25, 26, 27, 28, 29, 30, 31, 2, 3, 4, 5, 6, 7, 8, 9, 10, 11, 12, 13, 14, 15, 16, 17, 18, 19, 20, 21] (by decide) rfl (kk v u hp))
  · exact j_callV (wr := (ao, .inr (1, [.ref ta])) :: (ta, .inl (cO, 3, .inr (.inr (.inr (.inr (fun j => some (B j 0))))))) :: (wT cI (B 0) (T 0) ++ wT cI (B 2) (T 2))) C hM nA hG hw hd hR0 hnA hst hrs (fun _ _ _ _ _ => trivial) (fun _ _ _ _ _ _ => trivial) 0 0 rfl hyc (wT_obj cI (B 1) (T 1)) [12, 13, 14, 15, 16, 17, 18, 19, 20, 21] [0, 1, 2, 3, 4, 5, 6, 7, 8, 9, 10, 11, 22, 23, 24, 25, 26, 27, 28, 29, 30, 31] rfl rfl (by decide) (by decide) (by decide) (fun _ => rfl) hdec (fun v u hp => j_perm [0, 1, 2, 3, 4, 5, 6, 7, 8, 9, 10, 11, 22, 23, 24, 25, 26, 27, 28, 29, 30, 31, 12, 13, 14, 15, 16, 17, 18, 19, 20, 21] (by decide) rfl (kk v u hp))
  · exact j_callV (wr := (ao, .inr (1, [.ref ta])) :: (ta, .inl (cO, 3, .inr (.inr (.inr (.inr (fun j => some (B j 0))))))) :: (wT cI (B 0) (T 0) ++ wT cI (B 1) (T 1))) C hM nA hG hw hd hR0 hnA hst hrs (fun _ _ _ _ _ => trivial) (fun _ _ _ _ _ _ => trivial) 0 0 rfl hyc (wT_obj cI (B 2) (T 2)) [22, 23, 24, 25, 26, 27, 28, 29, 30, 31] [0, 1, 2, 3, 4, 5, 6, 7, 8, 9, 10, 11, 12, 13, 14, 15, 16, 17, 18, 19, 20, 21] rfl rfl (by decide) (by decide) (by decide) (fun _ => rfl) hdec (fun v u hp => j_perm [0, 1, 2, 3, 4, 5, 6, 7, 8, 9, 10, 11, 12, 13, 14, 15, 16, 17, 18, 19, 20, 21, 22, 23, 24, 25, 26, 27, 28, 29, 30, 31] (by decide) rfl (kk v u hp))
end ENX
end
section
/-! the algebra of marks: difference bounds, their closure, the least way above and the greatest below -/
def DS (E : Nat → Nat → Int → Prop) (x : Nat → Int) : Prop := ∀ u v w, E u v w → x u + w ≤ x v
def Cl (E : Nat → Nat → Int → Prop) (d : Nat → Nat → Int) : Prop :=
  (∀ x, DS E x → ∀ i j, i ≤ 64 → j ≤ 64 → x j - x i ≤ d i j) ∧ (∀ i j k, i ≤ 64 → j ≤ 64 → k ≤ 64 → d i k ≤ d i j + d j k) ∧ (∀ i, i ≤ 64 → d i i = 0) ∧ (∀ u v w, E u v w → u ≤ 64 ∧ v ≤ 64 ∧ d v u ≤ -w)
theorem Cl.row {E : Nat → Nat → Int → Prop} {d : Nat → Nat → Int} (h : Cl E d) {i : Nat} (hi : i ≤ 64) : DS E (fun j => d i j) := by
  intro u v w huv
  obtain ⟨hu, hv, hw⟩ := h.2.2.2 u v w huv
  have := h.2.1 i v u hi hv hu
  show d i u + w ≤ d i v
  omega
theorem Cl.col {E : Nat → Nat → Int → Prop} {d : Nat → Nat → Int} (h : Cl E d) {i : Nat} (hi : i ≤ 64) : DS E (fun j => - d j i) := by
  intro u v w huv
  obtain ⟨hu, hv, hw⟩ := h.2.2.2 u v w huv
  have := h.2.1 v u i hv hu hi
  show - d u i + w ≤ - d v i
  omega
theorem Cl.uniq {E : Nat → Nat → Int → Prop} {d d' : Nat → Nat → Int} (h : Cl E d) (h' : Cl E d') {i j : Nat} (hi : i ≤ 64) (hj : j ≤ 64) : d i j = d' i j := by
  have a : d i j - d i i ≤ d' i j := h'.1 _ (h.row hi) i j hi hj
  have b : d' i j - d' i i ≤ d i j := h.1 _ (h'.row hi) i j hi hj
  have := h.2.2.1 i hi
  have := h'.2.2.1 i hi
  omega
theorem DS.congr {E E' : Nat → Nat → Int → Prop} (h : ∀ u v w, E u v w ↔ E' u v w) {x : Nat → Int} (hx : DS E x) : DS E' x := fun u v w q => hx u v w ((h u v w).mpr q)
theorem Cl.congr {E E' : Nat → Nat → Int → Prop} {d : Nat → Nat → Int} (h : ∀ u v w, E u v w ↔ E' u v w) (c : Cl E d) : Cl E' d :=
  ⟨fun x hx => c.1 x (hx.congr (fun u v w => (h u v w).symm)), c.2.1, c.2.2.1, fun u v w q => c.2.2.2 u v w ((h u v w).mpr q)⟩
theorem Cl.ext {E : Nat → Nat → Int → Prop} {d d' : Nat → Nat → Int} (c : Cl E d) (h : ∀ i j, i ≤ 64 → j ≤ 64 → d' i j = d i j) : Cl E d' :=
  ⟨fun x hx i j hi hj => by rw [h i j hi hj]; exact c.1 x hx i j hi hj, fun i j k hi hj hk => by rw [h i k hi hk, h i j hi hj, h j k hj hk]; exact c.2.1 i j k hi hj hk, fun i hi => by rw [h i i hi hi]; exact c.2.2.1 i hi, fun u v w q => by
    obtain ⟨hu, hv, hw⟩ := c.2.2.2 u v w q
    exact ⟨hu, hv, by rw [h v u hv hu]; exact hw⟩⟩
def bd (d : Nat → Nat → Int) (a b : Nat) (y : Int) : Nat → Nat → Int := fun i j => min (d i j) (d i a + y + d b j)
theorem Cl.bind {E : Nat → Nat → Int → Prop} {d : Nat → Nat → Int} (h : Cl E d) {a b : Nat} (ha : a ≤ 64) (hb : b ≤ 64) {y : Int} (hy : 0 ≤ y + d b a) : Cl (fun u v w => E u v w ∨ (u = b ∧ v = a ∧ w = -y)) (bd d a b y) := by
  refine ⟨fun x hx i j hi hj => ?_, fun i j k hi hj hk => ?_, fun i hi => ?_, fun u v w q => ?_⟩
  · have h1 := h.1 x (fun u v w q => hx u v w (Or.inl q))
    have := h1 i j hi hj
    have := h1 i a hi ha
    have := h1 b j hb hj
    have := hx b a (-y) (Or.inr ⟨rfl, rfl, rfl⟩)
    unfold bd
    omega
  · have := h.2.1 i j k hi hj hk
    have := h.2.1 i j a hi hj ha
    have := h.2.1 b j k hb hj hk
    have := h.2.1 b j a hb hj ha
    unfold bd
    omega
  · have := h.2.2.1 i hi
    have := h.2.1 b i a hb hi ha
    unfold bd
    omega
  · rcases q with q | ⟨rfl, rfl, rfl⟩
    · obtain ⟨hu, hv, hw⟩ := h.2.2.2 u v w q
      refine ⟨hu, hv, ?_⟩
      unfold bd
      omega
    · refine ⟨hb, ha, ?_⟩
      have := h.2.2.1 _ ha
      have := h.2.2.1 _ hb
      unfold bd
      omega
def mx (f : Nat → Int) : Nat → Int
  | 0 => f 0
  | n + 1 => max (mx f n) (f (n + 1))
theorem mx_ge (f : Nat → Int) : ∀ (n i : Nat), i ≤ n → f i ≤ mx f n
  | 0, i, h => by
    have : i = 0 := by omega
    subst this
    exact Int.le_refl _
  | n + 1, i, h => by
    unfold mx
    rcases Nat.lt_or_ge n i with q | q
    · have : i = n + 1 := by omega
      subst this
      omega
    · have := mx_ge f n i q
      omega
theorem mx_le (f : Nat → Int) (c : Int) : ∀ (n : Nat), (∀ i, i ≤ n → f i ≤ c) → mx f n ≤ c
  | 0, h => h 0 (Nat.le_refl 0)
  | n + 1, h => by
    unfold mx
    have := mx_le f c n (fun i hi => h i (by omega))
    have := h (n + 1) (Nat.le_refl _)
    omega
theorem mx_ex (f : Nat → Int) : ∀ (n : Nat), ∃ i, i ≤ n ∧ mx f n = f i
  | 0 => ⟨0, Nat.le_refl 0, rfl⟩
  | n + 1 => by
    obtain ⟨i, hi, e⟩ := mx_ex f n
    unfold mx
    rcases Int.le_total (mx f n) (f (n + 1)) with q | q
    · exact ⟨n + 1, Nat.le_refl _, by omega⟩
    · exact ⟨i, by omega, by omega⟩
def mn (f : Nat → Int) (n : Nat) : Int := - mx (fun i => - f i) n
theorem mn_le (f : Nat → Int) (n i : Nat) (h : i ≤ n) : mn f n ≤ f i := by
  have := mx_ge (fun i => - f i) n i h
  try simp only at this
  unfold mn
  omega
theorem mn_ge (f : Nat → Int) (c : Int) (n : Nat) (h : ∀ i, i ≤ n → c ≤ f i) : c ≤ mn f n := by
  have := mx_le (fun i => - f i) (-c) n (fun i hi => by have := h i hi; show - f i ≤ -c; omega)
  unfold mn
  omega
theorem mn_ex (f : Nat → Int) (n : Nat) : ∃ i, i ≤ n ∧ mn f n = f i := by
  obtain ⟨i, hi, e⟩ := mx_ex (fun i => - f i) n
  refine ⟨i, hi, ?_⟩
  try simp only at e
  unfold mn
  omega
def Fl (d : Nat → Nat → Int) (g : Nat → Int) (j : Nat) : Int := mx (fun i => g i - d j i) 64
def Gl (d : Nat → Nat → Int) (g : Nat → Int) (j : Nat) : Int := mn (fun i => g i + d i j) 64
theorem Fl_ds {E : Nat → Nat → Int → Prop} {d : Nat → Nat → Int} (h : Cl E d) (g : Nat → Int) : DS E (Fl d g) := by
  intro u v w q
  obtain ⟨hu, hv, hw⟩ := h.2.2.2 u v w q
  obtain ⟨i, hi, e⟩ := mx_ex (fun i => g i - d u i) 64
  have h2 := mx_ge (fun i => g i - d v i) 64 i hi
  have h3 := h.2.1 v u i hv hu hi
  try simp only at e h2
  unfold Fl
  omega
theorem Gl_ds {E : Nat → Nat → Int → Prop} {d : Nat → Nat → Int} (h : Cl E d) (g : Nat → Int) : DS E (Gl d g) := by
  intro u v w q
  obtain ⟨hu, hv, hw⟩ := h.2.2.2 u v w q
  obtain ⟨i, hi, e⟩ := mn_ex (fun i => g i + d i v) 64
  have h2 := mn_le (fun i => g i + d i u) 64 i hi
  have h3 := h.2.1 i v u hi hv hu
  try simp only at e h2
  unfold Gl
  omega
theorem Fl_ge {E : Nat → Nat → Int → Prop} {d : Nat → Nat → Int} (h : Cl E d) (g : Nat → Int) {j : Nat} (hj : j ≤ 64) : g j ≤ Fl d g j := by
  have h2 := mx_ge (fun i => g i - d j i) 64 j hj
  have := h.2.2.1 j hj
  try simp only at h2
  unfold Fl
  omega
theorem Gl_le {E : Nat → Nat → Int → Prop} {d : Nat → Nat → Int} (h : Cl E d) (g : Nat → Int) {j : Nat} (hj : j ≤ 64) : Gl d g j ≤ g j := by
  have h2 := mn_le (fun i => g i + d i j) 64 j hj
  have := h.2.2.1 j hj
  try simp only at h2
  unfold Gl
  omega
theorem Fl_least {E : Nat → Nat → Int → Prop} {d : Nat → Nat → Int} (h : Cl E d) (g x : Nat → Int) (hx : DS E x) (hg : ∀ j, j ≤ 64 → g j ≤ x j) {j : Nat} (hj : j ≤ 64) : Fl d g j ≤ x j := by
  refine mx_le _ _ 64 (fun i hi => ?_)
  have := hg i hi
  have := h.1 x hx j i hj hi
  show g i - d j i ≤ x j
  omega
theorem Gl_most {E : Nat → Nat → Int → Prop} {d : Nat → Nat → Int} (h : Cl E d) (g x : Nat → Int) (hx : DS E x) (hg : ∀ j, j ≤ 64 → x j ≤ g j) {j : Nat} (hj : j ≤ 64) : x j ≤ Gl d g j := by
  refine mn_ge _ _ 64 (fun i hi => ?_)
  have := hg i hi
  have := h.1 x hx i j hi hj
  show x j ≤ g i + d i j
  omega
def Up (E : Nat → Nat → Int → Prop) (g g' : Nat → Int) : Prop := (∀ j, j ≤ 64 → g j ≤ g' j) ∧ ∀ x, DS E x → (∀ j, j ≤ 64 → g j ≤ x j) → ∀ j, j ≤ 64 → g' j ≤ x j
def Dn (E : Nat → Nat → Int → Prop) (g g' : Nat → Int) : Prop := (∀ j, j ≤ 64 → g' j ≤ g j) ∧ ∀ x, DS E x → (∀ j, j ≤ 64 → x j ≤ g j) → ∀ j, j ≤ 64 → x j ≤ g' j
theorem Up.rf (E : Nat → Nat → Int → Prop) (g : Nat → Int) : Up E g g := ⟨fun _ _ => Int.le_refl _, fun _ _ h => h⟩
theorem Dn.rf (E : Nat → Nat → Int → Prop) (g : Nat → Int) : Dn E g g := ⟨fun _ _ => Int.le_refl _, fun _ _ h => h⟩
theorem Up.trans {E : Nat → Nat → Int → Prop} {a b c : Nat → Int} (h : Up E a b) (h2 : Up E b c) : Up E a c := ⟨fun j hj => Int.le_trans (h.1 j hj) (h2.1 j hj), fun x hx hg => h2.2 x hx (h.2 x hx hg)⟩
theorem Dn.trans {E : Nat → Nat → Int → Prop} {a b c : Nat → Int} (h : Dn E a b) (h2 : Dn E b c) : Dn E a c := ⟨fun j hj => Int.le_trans (h2.1 j hj) (h.1 j hj), fun x hx hg => h2.2 x hx (h.2 x hx hg)⟩
theorem up_grow {E : Nat → Nat → Int → Prop} {d : Nat → Nat → Int} (h : Cl E d) {g0 g g' : Nat → Int} (hg0 : ∀ j, j ≤ 64 → g0 j ≤ g j) (hgF : ∀ j, j ≤ 64 → g j ≤ Fl d g0 j) (hU : Up E g g') (hE : ∀ u v w, E u v w → g u + w ≤ g' v) : (∀ j, j ≤ 64 → g' j = Fl d g0 j) ∨ ∃ j, j ≤ 64 ∧ g' j = Fl d g0 j ∧ ¬ g j = Fl d g0 j := by
  have hF' := hU.2 (Fl d g0) (Fl_ds h g0) hgF
  refine Classical.byContradiction fun hn => ?_
  have hn1 : ∃ j0, j0 ≤ 64 ∧ ¬ g' j0 = Fl d g0 j0 := Classical.byContradiction fun q => hn (Or.inl (fun j hj => Classical.byContradiction fun q2 => q ⟨j, hj, q2⟩))
  have hn2 : ∀ j, j ≤ 64 → g' j = Fl d g0 j → g j = Fl d g0 j := fun j hj e => Classical.byContradiction fun q2 => hn (Or.inr ⟨j, hj, e, q2⟩)
  obtain ⟨j0, hj0, hne⟩ := hn1
  have hz : DS E (fun j => if g' j = Fl d g0 j then Fl d g0 j else Fl d g0 j - 1) := by
    intro u v w q
    obtain ⟨hu, hv, hw⟩ := h.2.2.2 u v w q
    have a1 := Fl_ds h g0 u v w q
    have a2 := hE u v w q
    have a3 := hF' v hv
    have a4 := hn2 u hu
    show (if g' u = Fl d g0 u then Fl d g0 u else Fl d g0 u - 1) + w ≤ (if g' v = Fl d g0 v then Fl d g0 v else Fl d g0 v - 1)
    split
    · next e1 =>
      have := a4 e1
      split
      · omega
      · omega
    · split
      · omega
      · omega
  have hl := Fl_least h g0 _ hz (fun j hj => by
    have b1 := hg0 j hj
    have b2 := hU.1 j hj
    have b3 := hF' j hj
    show g0 j ≤ (if g' j = Fl d g0 j then Fl d g0 j else Fl d g0 j - 1)
    split
    · omega
    · omega) hj0
  have hl2 : Fl d g0 j0 ≤ (if g' j0 = Fl d g0 j0 then Fl d g0 j0 else Fl d g0 j0 - 1) := hl
  rw [if_neg hne] at hl2
  omega
theorem dn_grow {E : Nat → Nat → Int → Prop} {d : Nat → Nat → Int} (h : Cl E d) {g0 g g' : Nat → Int} (hg0 : ∀ j, j ≤ 64 → g j ≤ g0 j) (hgF : ∀ j, j ≤ 64 → Gl d g0 j ≤ g j) (hU : Dn E g g') (hE : ∀ u v w, E u v w → g' u + w ≤ g v) : (∀ j, j ≤ 64 → g' j = Gl d g0 j) ∨ ∃ j, j ≤ 64 ∧ g' j = Gl d g0 j ∧ ¬ g j = Gl d g0 j := by
  have hF' := hU.2 (Gl d g0) (Gl_ds h g0) hgF
  refine Classical.byContradiction fun hn => ?_
  have hn1 : ∃ j0, j0 ≤ 64 ∧ ¬ g' j0 = Gl d g0 j0 := Classical.byContradiction fun q => hn (Or.inl (fun j hj => Classical.byContradiction fun q2 => q ⟨j, hj, q2⟩))
  have hn2 : ∀ j, j ≤ 64 → g' j = Gl d g0 j → g j = Gl d g0 j := fun j hj e => Classical.byContradiction fun q2 => hn (Or.inr ⟨j, hj, e, q2⟩)
  obtain ⟨j0, hj0, hne⟩ := hn1
  have hz : DS E (fun j => if g' j = Gl d g0 j then Gl d g0 j else Gl d g0 j + 1) := by
    intro u v w q
    obtain ⟨hu, hv, hw⟩ := h.2.2.2 u v w q
    have a1 := Gl_ds h g0 u v w q
    have a2 := hE u v w q
    have a3 := hF' u hu
    have a4 := hn2 v hv
    show (if g' u = Gl d g0 u then Gl d g0 u else Gl d g0 u + 1) + w ≤ (if g' v = Gl d g0 v then Gl d g0 v else Gl d g0 v + 1)
    split
    · split
      · omega
      · omega
    · split
      · next e1 =>
        have := a4 e1
        omega
      · omega
  have hl := Gl_most h g0 _ hz (fun j hj => by
    have b1 := hg0 j hj
    have b2 := hU.1 j hj
    have b3 := hF' j hj
    show (if g' j = Gl d g0 j then Gl d g0 j else Gl d g0 j + 1) ≤ g0 j
    split
    · omega
    · omega) hj0
  have hl2 : (if g' j0 = Gl d g0 j0 then Gl d g0 j0 else Gl d g0 j0 + 1) ≤ Gl d g0 j0 := hl
  rw [if_neg hne] at hl2
  omega
/-! counting -/
def ctN (p : Nat → Bool) : Nat → Nat
  | 0 => 0
  | n + 1 => ctN p n + (if p n = true then 1 else 0)
theorem ctN_le (p : Nat → Bool) : ∀ n, ctN p n ≤ n
  | 0 => Nat.le_refl 0
  | n + 1 => by
    have := ctN_le p n
    unfold ctN
    split <;> omega
theorem ctN_sub {p q : Nat → Bool} : ∀ {n : Nat}, (∀ k, k < n → p k = true → q k = true) → ctN p n ≤ ctN q n
  | 0, _ => Nat.le_refl 0
  | n + 1, h => by
    have h1 := ctN_sub (n := n) (fun k hk => h k (by omega))
    have h2 := h n (by omega)
    unfold ctN
    split
    · next e => rw [if_pos (h2 e)]; omega
    · split <;> omega
theorem ctN_lt {p q : Nat → Bool} : ∀ {n : Nat}, (∀ k, k < n → p k = true → q k = true) → (∃ k, k < n ∧ q k = true ∧ ¬ p k = true) → ctN p n + 1 ≤ ctN q n
  | 0, _, h => by obtain ⟨k, hk, _⟩ := h; omega
  | n + 1, h, hx => by
    obtain ⟨k, hk, hq, hp⟩ := hx
    unfold ctN
    by_cases hkn : k = n
    · subst hkn
      have h1 := ctN_sub (p := p) (q := q) (n := k) (fun j hj => h j (by omega))
      rw [if_neg hp, if_pos hq]
      omega
    · have h1 := ctN_lt (p := p) (q := q) (n := n) (fun j hj => h j (by omega)) ⟨k, by omega, hq, hp⟩
      have h2 := h n (by omega)
      split
      · next e => rw [if_pos (h2 e)]; omega
      · split <;> omega
theorem ctN_all {p : Nat → Bool} : ∀ {n : Nat}, n ≤ ctN p n → ∀ k, k < n → p k = true
  | 0, _, k, hk => by omega
  | n + 1, h, k, hk => by
    have h1 := ctN_le p n
    unfold ctN at h
    by_cases hn : p n = true
    · rw [if_pos hn] at h
      by_cases hkn : k = n
      · subst hkn; exact hn
      · exact ctN_all (n := n) (by omega) k (by omega)
    · rw [if_neg hn] at h
      omega
end
section
/-! climbing and sinking over ints: what a pass does -/
theorem fb_rng (x : Int32) : -2147483648 ≤ x.toInt ∧ x.toInt < 2147483648 := by
  have h1 := Int32.le_toInt x
  have h2 := Int32.toInt_lt x
  omega
theorem fb_bmod {z : Int} (h1 : -2147483648 ≤ z) (h2 : z < 2147483648) : z.bmod (2 ^ 32) = z := by
  rw [Int.bmod_eq_of_le (by omega) (by omega)]
theorem fb_addI {x y : Int32} (h1 : -2147483648 ≤ x.toInt + y.toInt) (h2 : x.toInt + y.toInt < 2147483648) : (x + y).toInt = x.toInt + y.toInt := by
  rw [Int32.toInt_add, fb_bmod h1 h2]
theorem fb_subI {x y : Int32} (h1 : -2147483648 ≤ x.toInt - y.toInt) (h2 : x.toInt - y.toInt < 2147483648) : (x - y).toInt = x.toInt - y.toInt := by
  rw [Int32.toInt_sub, fb_bmod h1 h2]
theorem fb_negI {x : Int32} (h : x.toInt ≠ -2147483648) : (-x).toInt = -x.toInt := by
  have := fb_rng x
  rw [Int32.toInt_neg, fb_bmod (by omega) (by omega)]
def ii (g : Nat → Int32) : Nat → Int := fun j => (g j).toInt
def mono (g : Nat → Int) : Prop := ∀ j, j < 64 → g j ≤ g (j + 1)
theorem mono_le {g : Nat → Int} (h : mono g) : ∀ (k i : Nat), i + k ≤ 64 → g i ≤ g (i + k)
  | 0, _, _ => Int.le_refl _
  | k + 1, i, hk => Int.le_trans (mono_le h k i (by omega)) (h (i + k) (by omega))
theorem mono_le2 {g : Nat → Int} (h : mono g) {i j : Nat} (hij : i ≤ j) (hj : j ≤ 64) : g i ≤ g j := by
  have := mono_le h (j - i) i (by omega)
  rwa [show i + (j - i) = j by omega] at this
theorem lt_iff (x y : Int32) : x < y ↔ x.toInt < y.toInt := Int32.lt_iff_toInt_lt
theorem le_iff (x y : Int32) : x ≤ y ↔ x.toInt ≤ y.toInt := Int32.le_iff_toInt_le
theorem raiseF_char (h : Int32) : ∀ (k i : Nat) (g : Nat → Int32) (c : Int32), i + k = 65 → (∀ j, i ≤ j → j < 64 → ii g j ≤ ii g (j + 1)) →
    (∀ j, j ≤ 64 → ii (raiseF h k i g c).1 j = if i ≤ j then max (ii g j) h.toInt else ii g j) ∧ ((k = 0 ∨ ¬ ii g i < h.toInt) → (raiseF h k i g c).2 = c) ∧ (¬ (k = 0 ∨ ¬ ii g i < h.toInt) → (raiseF h k i g c).2 = 1)
  | 0, i, g, c, hk, hm => by
    refine ⟨fun j hj => ?_, fun _ => rfl, fun q => absurd (Or.inl rfl) q⟩
    rw [if_neg (by omega)]
    rfl
  | k + 1, i, g, c, hk, hm => by
    by_cases hlt : g i < h
    · have ih := raiseF_char h k (i + 1) (upd g i h) 1 (by omega) (fun j h1 h2 => by
        show (upd g i h j).toInt ≤ (upd g i h (j + 1)).toInt
        rw [pk_un (by omega), pk_un (by omega)]
        exact hm j (by omega) h2)
      have e : raiseF h (k + 1) i g c = raiseF h k (i + 1) (upd g i h) 1 := by rw [raiseF, if_pos hlt]
      have hlt2 : (g i).toInt < h.toInt := (lt_iff _ _).mp hlt
      rw [e]
      refine ⟨fun j hj => ?_, fun q => ?_, fun _ => ?_⟩
      · rw [ih.1 j hj]
        by_cases hij : j = i
        · subst hij
          rw [if_neg (by omega), if_pos (Nat.le_refl _)]
          show (upd g j h j).toInt = max (g j).toInt h.toInt
          rw [pk_us]
          omega
        · have : ii (upd g i h) j = ii g j := by show (upd g i h j).toInt = _; rw [pk_un hij]; rfl
          rw [this]
          by_cases h3 : i ≤ j
          · rw [if_pos h3, if_pos (by omega)]
          · rw [if_neg h3, if_neg (by omega)]
      · exact absurd q (fun q => q.elim (by omega) (fun q => q hlt2))
      · by_cases h4 : k = 0 ∨ ¬ ii (upd g i h) (i + 1) < h.toInt
        · exact ih.2.1 h4
        · exact ih.2.2 h4
    · have e : raiseF h (k + 1) i g c = (g, c) := by rw [raiseF, if_neg hlt]
      have hlt2 : ¬ (g i).toInt < h.toInt := fun q => hlt ((lt_iff _ _).mpr q)
      rw [e]
      refine ⟨fun j hj => ?_, fun _ => rfl, fun q => absurd (Or.inr hlt2) q⟩
      by_cases h3 : i ≤ j
      · rw [if_pos h3]
        have hmj : ∀ q, i + q ≤ 64 → ii g i ≤ ii g (i + q) := by
          intro q
          induction q with
          | zero => intro _; exact Int.le_refl _
          | succ q ihq => intro hq; exact Int.le_trans (ihq (by omega)) (hm (i + q) (by omega) (by omega))
        have h5 := hmj (j - i) (by omega)
        rw [show i + (j - i) = j by omega] at h5
        show ii g j = max (ii g j) h.toInt
        have h6 : ¬ ii g i < h.toInt := hlt2
        omega
      · rw [if_neg h3]
theorem raiseAt_char {g : Nat → Int32} (hm : mono (ii g)) {i : Nat} (hi : i ≤ 64) (h : Int32) : (∀ j, j ≤ 64 → ii (raiseAt g i h).1 j = if i ≤ j then max (ii g j) h.toInt else ii g j) ∧ ((raiseAt g i h).2 = 0 → ¬ ii g i < h.toInt) ∧ mono (ii (raiseAt g i h).1) := by
  obtain ⟨h1, h2, h3⟩ := raiseF_char h (65 - i) i g 0 (by omega) (fun j _ hj => hm j hj)
  refine ⟨h1, fun e => ?_, fun j hj => ?_⟩
  · intro q
    have := h3 (fun z => z.elim (by omega) (fun z => z q))
    unfold raiseAt at e
    rw [e] at this
    exact absurd this (by decide)
  · have a := h1 j (by omega)
    have b := h1 (j + 1) (by omega)
    have c := hm j hj
    unfold raiseAt
    rw [a, b]
    split <;> split <;> omega
theorem lowerF_one (h : Int32) : ∀ (i : Nat) (g : Nat → Int32), (lowerF h i g 1).2 = 1
  | 0, _ => rfl
  | i + 1, g => by
    unfold lowerF
    split
    · exact lowerF_one h i _
    · rfl
theorem lowerF_char (h : Int32) : ∀ (i : Nat) (g : Nat → Int32) (c : Int32), i ≤ 65 → (∀ j, j + 1 < i → ii g j ≤ ii g (j + 1)) →
    (∀ j, j ≤ 64 → ii (lowerF h i g c).1 j = if j < i then min (ii g j) h.toInt else ii g j) ∧ (∀ q, i = q + 1 → h.toInt < ii g q → (lowerF h i g c).2 = 1)
  | 0, g, c, hk, hm => ⟨fun j hj => by rw [if_neg (by omega)]; rfl, fun q e => by omega⟩
  | i + 1, g, c, hk, hm => by
    by_cases hlt : h < g i
    · have ih := lowerF_char h i (upd g i h) 1 (by omega) (fun j h1 => by
        show (upd g i h j).toInt ≤ (upd g i h (j + 1)).toInt
        rw [pk_un (by omega), pk_un (by omega)]
        exact hm j (by omega))
      have e : lowerF h (i + 1) g c = lowerF h i (upd g i h) 1 := by rw [lowerF, if_pos hlt]
      have hlt2 : h.toInt < (g i).toInt := (lt_iff _ _).mp hlt
      rw [e]
      refine ⟨fun j hj => ?_, fun q e1 e2 => ?_⟩
      · rw [ih.1 j hj]
        by_cases hij : j = i
        · subst hij
          rw [if_neg (by omega), if_pos (by omega)]
          show (upd g j h j).toInt = min (g j).toInt h.toInt
          rw [pk_us]
          omega
        · have : ii (upd g i h) j = ii g j := by show (upd g i h j).toInt = _; rw [pk_un hij]; rfl
          rw [this]
          by_cases h3 : j < i
          · rw [if_pos h3, if_pos (by omega)]
          · rw [if_neg h3, if_neg (by omega)]
      · exact lowerF_one h i _
    · have e : lowerF h (i + 1) g c = (g, c) := by rw [lowerF, if_neg hlt]
      have hlt2 : ¬ h.toInt < (g i).toInt := fun q => hlt ((lt_iff _ _).mpr q)
      rw [e]
      refine ⟨fun j hj => ?_, fun q e1 e2 => ?_⟩
      · by_cases h3 : j < i + 1
        · rw [if_pos h3]
          have hmj : ∀ q, j + q ≤ i → ii g j ≤ ii g (j + q) := by
            intro q
            induction q with
            | zero => intro _; exact Int.le_refl _
            | succ q ihq => intro hq; exact Int.le_trans (ihq (by omega)) (hm (j + q) (by omega))
          have h5 := hmj (i - j) (by omega)
          rw [show j + (i - j) = i by omega] at h5
          show ii g j = min (ii g j) h.toInt
          have h6 : ¬ h.toInt < ii g i := hlt2
          omega
        · rw [if_neg h3]
      · have : q = i := by omega
        subst this
        exact absurd e2 hlt2
theorem lowerAt_char {g : Nat → Int32} (hm : mono (ii g)) {i : Nat} (hi : i ≤ 64) (h : Int32) : (∀ j, j ≤ 64 → ii (lowerAt g i h).1 j = if j ≤ i then min (ii g j) h.toInt else ii g j) ∧ ((lowerAt g i h).2 = 0 → ¬ h.toInt < ii g i) ∧ mono (ii (lowerAt g i h).1) := by
  obtain ⟨h1, h2⟩ := lowerF_char h (i + 1) g 0 (by omega) (fun j hj => hm j (by omega))
  have h3 : ∀ j, j ≤ 64 → ii (lowerAt g i h).1 j = if j ≤ i then min (ii g j) h.toInt else ii g j := by
    intro j hj
    unfold lowerAt
    rw [h1 j hj]
    by_cases q : j ≤ i
    · rw [if_pos q, if_pos (by omega)]
    · rw [if_neg q, if_neg (by omega)]
  refine ⟨h3, fun e q => ?_, fun j hj => ?_⟩
  · have := h2 i rfl q
    unfold lowerAt at e
    rw [e] at this
    exact absurd this (by decide)
  · have a := h3 j (by omega)
    have b := h3 (j + 1) (by omega)
    have c := hm j hj
    rw [a, b]
    split <;> split <;> omega
end
section
theorem zz_stub : True := trivial
end
