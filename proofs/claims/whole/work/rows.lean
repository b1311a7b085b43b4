section
-- ===== PART A: goes FIRST, ahead of the names: the tables' words, and 'selects' of the private methods out of them =====
/-- a private method of a class that the tables say can be made, by its rows of tables_1 -/
def lw_okq (q : MethodName × Nat) : Prop := (q.1.cls ≠ "java/lang/invoke/MethodHandle" ∧ q.1.cls ≠ "java/lang/invoke/VarHandle") ∧ Cond.instantiable q.1.cls q.2 ∈ tables_1 ∧ Cond.privateMethod q.1 ∈ tables_1 ∧ Cond.instanceMethod q.1 ∈ tables_1
theorem lw_p0 : lw_okq (⟨"BenchRuns", "doBatch", "(LBenchRuns$Batch;)LBenchRuns$Way;"⟩, 7) := ⟨⟨by decide +kernel, by decide +kernel⟩, List.mem_of_getElem? (i := 12) (by decide +kernel), List.mem_of_getElem? (i := 245) (by decide +kernel), List.mem_of_getElem? (i := 246) (by decide +kernel)⟩
theorem lw_p1 : lw_okq (⟨"BenchRuns", "doRound", "(LBenchRuns$Round;)LBenchRuns$Way;"⟩, 7) := ⟨⟨by decide +kernel, by decide +kernel⟩, List.mem_of_getElem? (i := 12) (by decide +kernel), List.mem_of_getElem? (i := 255) (by decide +kernel), List.mem_of_getElem? (i := 256) (by decide +kernel)⟩
theorem lw_p2 : lw_okq (⟨"BenchRuns", "doSteps", "(LBenchRuns$Round;)LBenchRuns$Way;"⟩, 7) := ⟨⟨by decide +kernel, by decide +kernel⟩, List.mem_of_getElem? (i := 12) (by decide +kernel), List.mem_of_getElem? (i := 265) (by decide +kernel), List.mem_of_getElem? (i := 266) (by decide +kernel)⟩
theorem lw_p3 : lw_okq (⟨"BenchRuns", "doVialStep", "(IIII)LBenchRuns$Way;"⟩, 7) := ⟨⟨by decide +kernel, by decide +kernel⟩, List.mem_of_getElem? (i := 12) (by decide +kernel), List.mem_of_getElem? (i := 271) (by decide +kernel), List.mem_of_getElem? (i := 272) (by decide +kernel)⟩
theorem lw_p4 : lw_okq (⟨"BenchRuns", "addDrops", "(II)LBenchRuns$Way;"⟩, 7) := ⟨⟨by decide +kernel, by decide +kernel⟩, List.mem_of_getElem? (i := 12) (by decide +kernel), List.mem_of_getElem? (i := 275) (by decide +kernel), List.mem_of_getElem? (i := 276) (by decide +kernel)⟩
theorem lw_p5 : lw_okq (⟨"BenchRuns", "drawDrops", "(II)LBenchRuns$Way;"⟩, 7) := ⟨⟨by decide +kernel, by decide +kernel⟩, List.mem_of_getElem? (i := 12) (by decide +kernel), List.mem_of_getElem? (i := 279) (by decide +kernel), List.mem_of_getElem? (i := 280) (by decide +kernel)⟩
theorem lw_p6 : lw_okq (⟨"BenchRuns", "shareDrops", "(II)LBenchRuns$Way;"⟩, 7) := ⟨⟨by decide +kernel, by decide +kernel⟩, List.mem_of_getElem? (i := 12) (by decide +kernel), List.mem_of_getElem? (i := 283) (by decide +kernel), List.mem_of_getElem? (i := 284) (by decide +kernel)⟩
theorem lw_p7 : lw_okq (⟨"BenchRuns", "pourDrops", "(II)LBenchRuns$Way;"⟩, 7) := ⟨⟨by decide +kernel, by decide +kernel⟩, List.mem_of_getElem? (i := 12) (by decide +kernel), List.mem_of_getElem? (i := 287) (by decide +kernel), List.mem_of_getElem? (i := 288) (by decide +kernel)⟩
theorem lw_p8 : lw_okq (⟨"BenchRuns", "doBenchStep", "(III)LBenchRuns$Way;"⟩, 7) := ⟨⟨by decide +kernel, by decide +kernel⟩, List.mem_of_getElem? (i := 12) (by decide +kernel), List.mem_of_getElem? (i := 299) (by decide +kernel), List.mem_of_getElem? (i := 300) (by decide +kernel)⟩
theorem lw_p9 : lw_okq (⟨"BenchRuns", "useTool", "(I)LBenchRuns$Way;"⟩, 7) := ⟨⟨by decide +kernel, by decide +kernel⟩, List.mem_of_getElem? (i := 12) (by decide +kernel), List.mem_of_getElem? (i := 303) (by decide +kernel), List.mem_of_getElem? (i := 304) (by decide +kernel)⟩
theorem lw_p10 : lw_okq (⟨"BenchRuns", "gripTool", "(II)LBenchRuns$Way;"⟩, 7) := ⟨⟨by decide +kernel, by decide +kernel⟩, List.mem_of_getElem? (i := 12) (by decide +kernel), List.mem_of_getElem? (i := 307) (by decide +kernel), List.mem_of_getElem? (i := 308) (by decide +kernel)⟩
theorem lw_p11 : lw_okq (⟨"BenchRuns", "putTool", "(II)LBenchRuns$Way;"⟩, 7) := ⟨⟨by decide +kernel, by decide +kernel⟩, List.mem_of_getElem? (i := 12) (by decide +kernel), List.mem_of_getElem? (i := 323) (by decide +kernel), List.mem_of_getElem? (i := 324) (by decide +kernel)⟩
theorem lw_p12 : lw_okq (⟨"BenchRuns", "takeFailure", "(II)LBenchRuns$Way;"⟩, 7) := ⟨⟨by decide +kernel, by decide +kernel⟩, List.mem_of_getElem? (i := 12) (by decide +kernel), List.mem_of_getElem? (i := 336) (by decide +kernel), List.mem_of_getElem? (i := 337) (by decide +kernel)⟩
theorem lw_p13 : lw_okq (⟨"BenchRunsModel", "works", "(I)I"⟩, 28) := ⟨⟨by decide +kernel, by decide +kernel⟩, List.mem_of_getElem? (i := 375) (by decide +kernel), List.mem_of_getElem? (i := 516) (by decide +kernel), List.mem_of_getElem? (i := 517) (by decide +kernel)⟩
theorem lw_p14 : lw_okq (⟨"BenchRunsModel", "mark", "(I)V"⟩, 28) := ⟨⟨by decide +kernel, by decide +kernel⟩, List.mem_of_getElem? (i := 375) (by decide +kernel), List.mem_of_getElem? (i := 520) (by decide +kernel), List.mem_of_getElem? (i := 521) (by decide +kernel)⟩
theorem lw_p15 : lw_okq (⟨"BenchRunsModel", "does", "(I)I"⟩, 28) := ⟨⟨by decide +kernel, by decide +kernel⟩, List.mem_of_getElem? (i := 375) (by decide +kernel), List.mem_of_getElem? (i := 524) (by decide +kernel), List.mem_of_getElem? (i := 525) (by decide +kernel)⟩
def lw_privs_1 : List (MethodName × Nat) := [(⟨"BenchRuns", "doBatch", "(LBenchRuns$Batch;)LBenchRuns$Way;"⟩, 7), (⟨"BenchRuns", "doRound", "(LBenchRuns$Round;)LBenchRuns$Way;"⟩, 7), (⟨"BenchRuns", "doSteps", "(LBenchRuns$Round;)LBenchRuns$Way;"⟩, 7), (⟨"BenchRuns", "doVialStep", "(IIII)LBenchRuns$Way;"⟩, 7), (⟨"BenchRuns", "addDrops", "(II)LBenchRuns$Way;"⟩, 7), (⟨"BenchRuns", "drawDrops", "(II)LBenchRuns$Way;"⟩, 7), (⟨"BenchRuns", "shareDrops", "(II)LBenchRuns$Way;"⟩, 7), (⟨"BenchRuns", "pourDrops", "(II)LBenchRuns$Way;"⟩, 7), (⟨"BenchRuns", "doBenchStep", "(III)LBenchRuns$Way;"⟩, 7), (⟨"BenchRuns", "useTool", "(I)LBenchRuns$Way;"⟩, 7), (⟨"BenchRuns", "gripTool", "(II)LBenchRuns$Way;"⟩, 7), (⟨"BenchRuns", "putTool", "(II)LBenchRuns$Way;"⟩, 7), (⟨"BenchRuns", "takeFailure", "(II)LBenchRuns$Way;"⟩, 7), (⟨"BenchRunsModel", "works", "(I)I"⟩, 28), (⟨"BenchRunsModel", "mark", "(I)V"⟩, 28), (⟨"BenchRunsModel", "does", "(I)I"⟩, 28)]
theorem lw_r1 : ∀ q ∈ lw_privs_1, lw_okq q := List.forall_mem_cons.mpr ⟨lw_p0, List.forall_mem_cons.mpr ⟨lw_p1, List.forall_mem_cons.mpr ⟨lw_p2, List.forall_mem_cons.mpr ⟨lw_p3, List.forall_mem_cons.mpr ⟨lw_p4, List.forall_mem_cons.mpr ⟨lw_p5, List.forall_mem_cons.mpr ⟨lw_p6, List.forall_mem_cons.mpr ⟨lw_p7, List.forall_mem_cons.mpr ⟨lw_p8, List.forall_mem_cons.mpr ⟨lw_p9, List.forall_mem_cons.mpr ⟨lw_p10, List.forall_mem_cons.mpr ⟨lw_p11, List.forall_mem_cons.mpr ⟨lw_p12, List.forall_mem_cons.mpr ⟨lw_p13, List.forall_mem_cons.mpr ⟨lw_p14, List.forall_mem_cons.mpr ⟨lw_p15, fun _ h => absurd h List.not_mem_nil⟩⟩⟩⟩⟩⟩⟩⟩⟩⟩⟩⟩⟩⟩⟩⟩
theorem lw_p16 : lw_okq (⟨"BenchRunsModel", "fails", "(I)I"⟩, 28) := ⟨⟨by decide +kernel, by decide +kernel⟩, List.mem_of_getElem? (i := 375) (by decide +kernel), List.mem_of_getElem? (i := 528) (by decide +kernel), List.mem_of_getElem? (i := 529) (by decide +kernel)⟩
theorem lw_p17 : lw_okq (⟨"BenchRunsModel", "goes", "(I)I"⟩, 28) := ⟨⟨by decide +kernel, by decide +kernel⟩, List.mem_of_getElem? (i := 375) (by decide +kernel), List.mem_of_getElem? (i := 532) (by decide +kernel), List.mem_of_getElem? (i := 533) (by decide +kernel)⟩
theorem lw_p18 : lw_okq (⟨"BenchRunsModel", "act", "(III)I"⟩, 28) := ⟨⟨by decide +kernel, by decide +kernel⟩, List.mem_of_getElem? (i := 375) (by decide +kernel), List.mem_of_getElem? (i := 536) (by decide +kernel), List.mem_of_getElem? (i := 537) (by decide +kernel)⟩
theorem lw_p19 : lw_okq (⟨"BenchRunsModel", "more", "(II)I"⟩, 28) := ⟨⟨by decide +kernel, by decide +kernel⟩, List.mem_of_getElem? (i := 375) (by decide +kernel), List.mem_of_getElem? (i := 540) (by decide +kernel), List.mem_of_getElem? (i := 541) (by decide +kernel)⟩
theorem lw_p20 : lw_okq (⟨"BenchRunsModel", "pours", "(II)I"⟩, 28) := ⟨⟨by decide +kernel, by decide +kernel⟩, List.mem_of_getElem? (i := 375) (by decide +kernel), List.mem_of_getElem? (i := 544) (by decide +kernel), List.mem_of_getElem? (i := 545) (by decide +kernel)⟩
theorem lw_p21 : lw_okq (⟨"BenchRunsModel", "uses", "(I)I"⟩, 28) := ⟨⟨by decide +kernel, by decide +kernel⟩, List.mem_of_getElem? (i := 375) (by decide +kernel), List.mem_of_getElem? (i := 548) (by decide +kernel), List.mem_of_getElem? (i := 549) (by decide +kernel)⟩
theorem lw_p22 : lw_okq (⟨"BenchRunsModel", "grips", "(II)I"⟩, 28) := ⟨⟨by decide +kernel, by decide +kernel⟩, List.mem_of_getElem? (i := 375) (by decide +kernel), List.mem_of_getElem? (i := 552) (by decide +kernel), List.mem_of_getElem? (i := 553) (by decide +kernel)⟩
theorem lw_p23 : lw_okq (⟨"BenchRunsModel", "boxes", "(II)I"⟩, 28) := ⟨⟨by decide +kernel, by decide +kernel⟩, List.mem_of_getElem? (i := 375) (by decide +kernel), List.mem_of_getElem? (i := 556) (by decide +kernel), List.mem_of_getElem? (i := 557) (by decide +kernel)⟩
theorem lw_p24 : lw_okq (⟨"BenchRunsModel", "grids", "(II)I"⟩, 28) := ⟨⟨by decide +kernel, by decide +kernel⟩, List.mem_of_getElem? (i := 375) (by decide +kernel), List.mem_of_getElem? (i := 560) (by decide +kernel), List.mem_of_getElem? (i := 561) (by decide +kernel)⟩
theorem lw_p25 : lw_okq (⟨"BenchRunsModel", "puts", "(II)I"⟩, 28) := ⟨⟨by decide +kernel, by decide +kernel⟩, List.mem_of_getElem? (i := 375) (by decide +kernel), List.mem_of_getElem? (i := 564) (by decide +kernel), List.mem_of_getElem? (i := 565) (by decide +kernel)⟩
theorem lw_p26 : lw_okq (⟨"BenchRunsModel", "counts", "(II)I"⟩, 28) := ⟨⟨by decide +kernel, by decide +kernel⟩, List.mem_of_getElem? (i := 375) (by decide +kernel), List.mem_of_getElem? (i := 568) (by decide +kernel), List.mem_of_getElem? (i := 569) (by decide +kernel)⟩
theorem lw_p27 : lw_okq (⟨"BenchRunsModel", "raises", "(I)I"⟩, 28) := ⟨⟨by decide +kernel, by decide +kernel⟩, List.mem_of_getElem? (i := 375) (by decide +kernel), List.mem_of_getElem? (i := 572) (by decide +kernel), List.mem_of_getElem? (i := 573) (by decide +kernel)⟩
theorem lw_p28 : lw_okq (⟨"BenchRunsModel", "reasons", "(I)V"⟩, 28) := ⟨⟨by decide +kernel, by decide +kernel⟩, List.mem_of_getElem? (i := 375) (by decide +kernel), List.mem_of_getElem? (i := 576) (by decide +kernel), List.mem_of_getElem? (i := 577) (by decide +kernel)⟩
theorem lw_p29 : lw_okq (⟨"BenchRunsModel", "inStead", "(I)V"⟩, 28) := ⟨⟨by decide +kernel, by decide +kernel⟩, List.mem_of_getElem? (i := 375) (by decide +kernel), List.mem_of_getElem? (i := 580) (by decide +kernel), List.mem_of_getElem? (i := 581) (by decide +kernel)⟩
def lw_privs_2 : List (MethodName × Nat) := [(⟨"BenchRunsModel", "fails", "(I)I"⟩, 28), (⟨"BenchRunsModel", "goes", "(I)I"⟩, 28), (⟨"BenchRunsModel", "act", "(III)I"⟩, 28), (⟨"BenchRunsModel", "more", "(II)I"⟩, 28), (⟨"BenchRunsModel", "pours", "(II)I"⟩, 28), (⟨"BenchRunsModel", "uses", "(I)I"⟩, 28), (⟨"BenchRunsModel", "grips", "(II)I"⟩, 28), (⟨"BenchRunsModel", "boxes", "(II)I"⟩, 28), (⟨"BenchRunsModel", "grids", "(II)I"⟩, 28), (⟨"BenchRunsModel", "puts", "(II)I"⟩, 28), (⟨"BenchRunsModel", "counts", "(II)I"⟩, 28), (⟨"BenchRunsModel", "raises", "(I)I"⟩, 28), (⟨"BenchRunsModel", "reasons", "(I)V"⟩, 28), (⟨"BenchRunsModel", "inStead", "(I)V"⟩, 28)]
theorem lw_r2 : ∀ q ∈ lw_privs_2, lw_okq q := List.forall_mem_cons.mpr ⟨lw_p16, List.forall_mem_cons.mpr ⟨lw_p17, List.forall_mem_cons.mpr ⟨lw_p18, List.forall_mem_cons.mpr ⟨lw_p19, List.forall_mem_cons.mpr ⟨lw_p20, List.forall_mem_cons.mpr ⟨lw_p21, List.forall_mem_cons.mpr ⟨lw_p22, List.forall_mem_cons.mpr ⟨lw_p23, List.forall_mem_cons.mpr ⟨lw_p24, List.forall_mem_cons.mpr ⟨lw_p25, List.forall_mem_cons.mpr ⟨lw_p26, List.forall_mem_cons.mpr ⟨lw_p27, List.forall_mem_cons.mpr ⟨lw_p28, List.forall_mem_cons.mpr ⟨lw_p29, fun _ h => absurd h List.not_mem_nil⟩⟩⟩⟩⟩⟩⟩⟩⟩⟩⟩⟩⟩⟩
def lw_privs : List (MethodName × Nat) := lw_privs_1 ++ (lw_privs_2)
def lw_tbl : List Cond := k2_sels lw_privs ++ tables_1
theorem lw_privs_ok : ∀ q ∈ lw_privs, lw_okq q := by
  show ∀ q ∈ lw_privs_1 ++ (lw_privs_2), lw_okq q
  exact List.forall_mem_append.mpr ⟨lw_r1, lw_r2⟩
-- ===== end of PART A; then your names; then what follows =====
end
section
/-! ===== BEGIN words of one list among another's, by their places ===== -/
theorem goodIn_r {big : List Cond} (ws : List Cond) (ps : List Nat) (hp : ws = ps.filterMap (fun i => big[i]?)) (h : ws.all goodWord = true) : GoodIn big ws := by
  intro w hw
  have h1 := List.all_eq_true.mp h w hw
  rw [hp] at hw
  obtain ⟨i, -, hi⟩ := List.mem_filterMap.mp hw
  have hm : w ∈ big := by first | exact List.mem_of_getElem? hi | exact List.getElem?_mem hi
  exact ⟨hm, good_of_word h1⟩
theorem goodIn_app {big a b : List Cond} (ha : GoodIn big a) (hb : GoodIn big b) : GoodIn big (a ++ b) := fun w h => (List.mem_append.mp h).elim (ha w) (hb w)
theorem goodIn_ca {big a b : List Cond} {c : Cond} (ha : GoodIn big (c :: a)) (hb : GoodIn big b) : GoodIn big (c :: (a ++ b)) := fun w h => (List.mem_cons.mp h).elim (fun e => ha w (List.mem_cons.mpr (Or.inl e))) (fun h => (List.mem_append.mp h).elim (fun h => ha w (List.mem_cons.mpr (Or.inr h))) (hb w))
theorem goodIn_sub {big ws : List Cond} (hm : ∀ w ∈ ws, w ∈ big) (h : ws.all goodWord = true) : GoodIn big ws := fun w hw => ⟨hm w hw, good_of_word (List.all_eq_true.mp h w hw)⟩
/-! ===== END ===== -/

/-! ===== BEGIN printed: names, fields, word lists, decode rows ===== -/
def RX0 : String := "BenchRuns$Batch"
def TX0 : u_T := fun k => match k with
  | 0 => ("BenchRuns$Batch", "rounds", "[LBenchRuns$Round;", true)
  | 1 => ("BenchRuns$Batch", "roundCount", "I", false)
  | _ => ("BenchRuns$Batch", "mode", "I", false)
def tyX0 : Nat → FieldType := fun k => match k with
  | 0 => .array (.object "BenchRuns$Round")
  | 1 => .int
  | _ => .int
abbrev wsX00 : List Cond := u_ws RX0 TX0 3
theorem nmX0 : ∀ a, a < 3 → ∀ b, b < 3 → a ≠ b → (TX0 a).2.1 ≠ (TX0 b).2.1 := by decide +kernel
theorem tyX0_ok : ∀ k, k < 3 → parseFieldDescriptor (TX0 k).2.2.1 = some (tyX0 k) := by decide +kernel
abbrev cX0_init : ByteArray := prog_2_method_1_code
def yX0_init : MethodName := ⟨RX0, "<init>", "()V"⟩
abbrev cX0_beginAnew : ByteArray := prog_2_method_2_code
def yX0_beginAnew : MethodName := ⟨RX0, "beginAnew", "(I)V"⟩
abbrev cX0_addRound : ByteArray := prog_2_method_3_code
def yX0_addRound : MethodName := ⟨RX0, "addRound", "(I)I"⟩
def RX1 : String := "BenchRuns$Log"
def TX1 : u_T := fun k => match k with
  | 0 => ("BenchRuns$Log", "countOf", "[I", true)
  | 1 => ("BenchRuns$Log", "events", "[I", true)
  | 2 => ("BenchRuns$Log", "eventCount", "I", false)
  | 3 => ("BenchRuns$Log", "notedNumbers", "[I", true)
  | 4 => ("BenchRuns$Log", "notedCount", "I", false)
  | 5 => ("BenchRuns$Log", "chain", "[I", true)
  | _ => ("BenchRuns$Log", "chainLength", "I", false)
def tyX1 : Nat → FieldType := fun k => match k with
  | 0 => .array .int
  | 1 => .array .int
  | 2 => .int
  | 3 => .array .int
  | 4 => .int
  | 5 => .array .int
  | _ => .int
abbrev wsX10 : List Cond := u_ws RX1 TX1 7
theorem nmX1 : ∀ a, a < 7 → ∀ b, b < 7 → a ≠ b → (TX1 a).2.1 ≠ (TX1 b).2.1 := by decide +kernel
theorem tyX1_ok : ∀ k, k < 7 → parseFieldDescriptor (TX1 k).2.2.1 = some (tyX1 k) := by decide +kernel
abbrev cX1_init : ByteArray := prog_3_method_1_code
def yX1_init : MethodName := ⟨RX1, "<init>", "()V"⟩
abbrev cX1_beginAnew : ByteArray := prog_3_method_2_code
def yX1_beginAnew : MethodName := ⟨RX1, "beginAnew", "()V"⟩
abbrev cX1_mark : ByteArray := prog_3_method_3_code
def yX1_mark : MethodName := ⟨RX1, "mark", "(I)V"⟩
abbrev cX1_fail : ByteArray := prog_3_method_4_code
def yX1_fail : MethodName := ⟨RX1, "fail", "(I)LBenchRuns$Way;"⟩
abbrev cX1_failAsLaid : ByteArray := prog_3_method_5_code
def yX1_failAsLaid : MethodName := ⟨RX1, "failAsLaid", "(I)LBenchRuns$Way;"⟩
abbrev cX1_failInStead : ByteArray := prog_3_method_6_code
def yX1_failInStead : MethodName := ⟨RX1, "failInStead", "(I)V"⟩
abbrev cX1_noteFailure : ByteArray := prog_3_method_7_code
def yX1_noteFailure : MethodName := ⟨RX1, "noteFailure", "()V"⟩
def RX2 : String := "BenchRuns$Round"
def TX2 : u_T := fun k => match k with
  | 0 => ("BenchRuns$Round", "kinds", "[I", true)
  | 1 => ("BenchRuns$Round", "numbers", "[I", true)
  | 2 => ("BenchRuns$Round", "stepCount", "I", false)
  | _ => ("BenchRuns$Round", "vial", "I", false)
def tyX2 : Nat → FieldType := fun k => match k with
  | 0 => .array .int
  | 1 => .array .int
  | 2 => .int
  | _ => .int
abbrev wsX20 : List Cond := u_ws RX2 TX2 4
theorem nmX2 : ∀ a, a < 4 → ∀ b, b < 4 → a ≠ b → (TX2 a).2.1 ≠ (TX2 b).2.1 := by decide +kernel
theorem tyX2_ok : ∀ k, k < 4 → parseFieldDescriptor (TX2 k).2.2.1 = some (tyX2 k) := by decide +kernel
abbrev cX2_init : ByteArray := prog_4_method_1_code
def yX2_init : MethodName := ⟨RX2, "<init>", "()V"⟩
abbrev cX2_beginAnew : ByteArray := prog_4_method_2_code
def yX2_beginAnew : MethodName := ⟨RX2, "beginAnew", "(I)V"⟩
abbrev cX2_addStep : ByteArray := prog_4_method_3_code
def yX2_addStep : MethodName := ⟨RX2, "addStep", "(II)I"⟩
def RX3 : String := "BenchRuns$Stock"
def TX3 : u_T := fun k => match k with
  | 0 => ("BenchRuns$Stock", "boxTools", "[I", true)
  | 1 => ("BenchRuns$Stock", "rackSize", "I", false)
  | 2 => ("BenchRuns$Stock", "boxSize", "I", false)
  | 3 => ("BenchRuns$Stock", "boxSort", "I", false)
  | 4 => ("BenchRuns$Stock", "gridRows", "I", false)
  | _ => ("BenchRuns$Stock", "gridRowSize", "I", false)
def tyX3 : Nat → FieldType := fun k => match k with
  | 0 => .array .int
  | 1 => .int
  | 2 => .int
  | 3 => .int
  | 4 => .int
  | _ => .int
abbrev wsX30 : List Cond := u_ws RX3 TX3 6
theorem nmX3 : ∀ a, a < 6 → ∀ b, b < 6 → a ≠ b → (TX3 a).2.1 ≠ (TX3 b).2.1 := by decide +kernel
theorem tyX3_ok : ∀ k, k < 6 → parseFieldDescriptor (TX3 k).2.2.1 = some (tyX3 k) := by decide +kernel
abbrev cX3_init : ByteArray := prog_5_method_1_code
def yX3_init : MethodName := ⟨RX3, "<init>", "()V"⟩
abbrev cX3_newRack : ByteArray := prog_5_method_2_code
def yX3_newRack : MethodName := ⟨RX3, "newRack", "(I)Z"⟩
abbrev cX3_newBox : ByteArray := prog_5_method_3_code
def yX3_newBox : MethodName := ⟨RX3, "newBox", "(II)Z"⟩
abbrev cX3_newGrid : ByteArray := prog_5_method_4_code
def yX3_newGrid : MethodName := ⟨RX3, "newGrid", "(II)Z"⟩
abbrev cX3_boxTakes : ByteArray := prog_5_method_5_code
def yX3_boxTakes : MethodName := ⟨RX3, "boxTakes", "(I)Z"⟩
abbrev cX3_sizeOf : ByteArray := prog_5_method_6_code
def yX3_sizeOf : MethodName := ⟨RX3, "sizeOf", "(I)I"⟩
def RX4 : String := "BenchRuns$Tool"
def TX4 : u_T := fun k => match k with
  | 0 => ("BenchRuns$Tool", "sort", "I", false)
  | 1 => ("BenchRuns$Tool", "uses", "I", false)
  | _ => ("BenchRuns$Tool", "grip", "I", false)
def tyX4 : Nat → FieldType := fun k => match k with
  | 0 => .int
  | 1 => .int
  | _ => .int
abbrev wsX40 : List Cond := u_ws RX4 TX4 3
theorem nmX4 : ∀ a, a < 3 → ∀ b, b < 3 → a ≠ b → (TX4 a).2.1 ≠ (TX4 b).2.1 := by decide +kernel
theorem tyX4_ok : ∀ k, k < 3 → parseFieldDescriptor (TX4 k).2.2.1 = some (tyX4 k) := by decide +kernel
abbrev cX4_init : ByteArray := prog_6_method_1_code
def yX4_init : MethodName := ⟨RX4, "<init>", "()V"⟩
abbrev cX4_beginAnew : ByteArray := prog_6_method_2_code
def yX4_beginAnew : MethodName := ⟨RX4, "beginAnew", "(I)V"⟩
def RX5 : String := "BenchRuns$Way"
def TX5 : u_T := fun k => match k with
  | _ => ("", "", "", false)
def tyX5 : Nat → FieldType := fun k => match k with
  | _ => .int
abbrev wsX50 : List Cond := u_ws RX5 TX5 0
theorem nmX5 : ∀ a, a < 0 → ∀ b, b < 0 → a ≠ b → (TX5 a).2.1 ≠ (TX5 b).2.1 := by decide +kernel
theorem tyX5_ok : ∀ k, k < 0 → parseFieldDescriptor (TX5 k).2.2.1 = some (tyX5 k) := by decide +kernel
def RX6 : String := "BenchRuns"
def TX6 : u_T := fun k => match k with
  | 0 => ("BenchRuns", "vialDrops", "[I", true)
  | 1 => ("BenchRuns", "batches", "[LBenchRuns$Batch;", true)
  | 2 => ("BenchRuns", "tools", "[LBenchRuns$Tool;", true)
  | 3 => ("BenchRuns", "laid", "[I", true)
  | 4 => ("BenchRuns", "stock", "LBenchRuns$Stock;", true)
  | 5 => ("BenchRuns", "log", "LBenchRuns$Log;", true)
  | _ => ("BenchRuns", "stoppedBy", "I", false)
def tyX6 : Nat → FieldType := fun k => match k with
  | 0 => .array .int
  | 1 => .array (.object "BenchRuns$Batch")
  | 2 => .array (.object "BenchRuns$Tool")
  | 3 => .array .int
  | 4 => .object "BenchRuns$Stock"
  | 5 => .object "BenchRuns$Log"
  | _ => .int
abbrev wsX60 : List Cond := u_ws RX6 TX6 7
theorem nmX6 : ∀ a, a < 7 → ∀ b, b < 7 → a ≠ b → (TX6 a).2.1 ≠ (TX6 b).2.1 := by decide +kernel
theorem tyX6_ok : ∀ k, k < 7 → parseFieldDescriptor (TX6 k).2.2.1 = some (tyX6 k) := by decide +kernel
abbrev cX6_init : ByteArray := prog_1_method_1_code
def yX6_init : MethodName := ⟨RX6, "<init>", "()V"⟩
abbrev cX6_vial : ByteArray := prog_1_method_2_code
def yX6_vial : MethodName := ⟨RX6, "vial", "(II)I"⟩
abbrev cX6_batch : ByteArray := prog_1_method_3_code
def yX6_batch : MethodName := ⟨RX6, "batch", "(II)I"⟩
abbrev cX6_round : ByteArray := prog_1_method_4_code
def yX6_round : MethodName := ⟨RX6, "round", "(II)I"⟩
abbrev cX6_step : ByteArray := prog_1_method_5_code
def yX6_step : MethodName := ⟨RX6, "step", "(III)I"⟩
abbrev cX6_tool : ByteArray := prog_1_method_6_code
def yX6_tool : MethodName := ⟨RX6, "tool", "(II)I"⟩
abbrev cX6_lay : ByteArray := prog_1_method_7_code
def yX6_lay : MethodName := ⟨RX6, "lay", "(II)I"⟩
abbrev cX6_about : ByteArray := prog_1_method_8_code
def yX6_about : MethodName := ⟨RX6, "about", "(II)I"⟩
abbrev cX6_places : ByteArray := prog_1_method_9_code
def yX6_places : MethodName := ⟨RX6, "places", "(I)I"⟩
abbrev cX6_box : ByteArray := prog_1_method_10_code
def yX6_box : MethodName := ⟨RX6, "box", "(I)I"⟩
abbrev cX6_run : ByteArray := prog_1_method_11_code
def yX6_run : MethodName := ⟨RX6, "run", "(IIZ)I"⟩
abbrev cX6_why : ByteArray := prog_1_method_12_code
def yX6_why : MethodName := ⟨RX6, "why", "(I)I"⟩
abbrev cX6_told : ByteArray := prog_1_method_13_code
def yX6_told : MethodName := ⟨RX6, "told", "(I)I"⟩
abbrev cX6_trace : ByteArray := prog_1_method_14_code
def yX6_trace : MethodName := ⟨RX6, "trace", "(I)I"⟩
abbrev cX6_noted : ByteArray := prog_1_method_15_code
def yX6_noted : MethodName := ⟨RX6, "noted", "(I)I"⟩
abbrev cX6_drops : ByteArray := prog_1_method_16_code
def yX6_drops : MethodName := ⟨RX6, "drops", "(I)I"⟩
abbrev cX6_sum : ByteArray := prog_1_method_17_code
def yX6_sum : MethodName := ⟨RX6, "sum", "()I"⟩
abbrev cX6_within : ByteArray := prog_1_method_18_code
def yX6_within : MethodName := ⟨RX6, "within", "(III)Z"⟩
abbrev cX6_orNone : ByteArray := prog_1_method_19_code
def yX6_orNone : MethodName := ⟨RX6, "orNone", "(I)I"⟩
abbrev cX6_doBatch : ByteArray := prog_1_method_20_code
def yX6_doBatch : MethodName := ⟨RX6, "doBatch", "(LBenchRuns$Batch;)LBenchRuns$Way;"⟩
abbrev cX6_takeFailure : ByteArray := prog_1_method_21_code
def yX6_takeFailure : MethodName := ⟨RX6, "takeFailure", "(II)LBenchRuns$Way;"⟩
abbrev cX6_doRound : ByteArray := prog_1_method_22_code
def yX6_doRound : MethodName := ⟨RX6, "doRound", "(LBenchRuns$Round;)LBenchRuns$Way;"⟩
abbrev cX6_doSteps : ByteArray := prog_1_method_23_code
def yX6_doSteps : MethodName := ⟨RX6, "doSteps", "(LBenchRuns$Round;)LBenchRuns$Way;"⟩
abbrev cX6_doVialStep : ByteArray := prog_1_method_24_code
def yX6_doVialStep : MethodName := ⟨RX6, "doVialStep", "(IIII)LBenchRuns$Way;"⟩
abbrev cX6_doBenchStep : ByteArray := prog_1_method_25_code
def yX6_doBenchStep : MethodName := ⟨RX6, "doBenchStep", "(III)LBenchRuns$Way;"⟩
abbrev cX6_addDrops : ByteArray := prog_1_method_26_code
def yX6_addDrops : MethodName := ⟨RX6, "addDrops", "(II)LBenchRuns$Way;"⟩
abbrev cX6_drawDrops : ByteArray := prog_1_method_27_code
def yX6_drawDrops : MethodName := ⟨RX6, "drawDrops", "(II)LBenchRuns$Way;"⟩
abbrev cX6_shareDrops : ByteArray := prog_1_method_28_code
def yX6_shareDrops : MethodName := ⟨RX6, "shareDrops", "(II)LBenchRuns$Way;"⟩
abbrev cX6_pourDrops : ByteArray := prog_1_method_29_code
def yX6_pourDrops : MethodName := ⟨RX6, "pourDrops", "(II)LBenchRuns$Way;"⟩
abbrev cX6_useTool : ByteArray := prog_1_method_30_code
def yX6_useTool : MethodName := ⟨RX6, "useTool", "(I)LBenchRuns$Way;"⟩
abbrev cX6_gripTool : ByteArray := prog_1_method_31_code
def yX6_gripTool : MethodName := ⟨RX6, "gripTool", "(II)LBenchRuns$Way;"⟩
abbrev cX6_putTool : ByteArray := prog_1_method_32_code
def yX6_putTool : MethodName := ⟨RX6, "putTool", "(II)LBenchRuns$Way;"⟩
def RX7 : String := "BenchRunsModel"
def TX7 : u_T := fun k => match k with
  | 0 => ("BenchRunsModel", "thrown", "I", false)
  | 1 => ("BenchRunsModel", "isVial", "[Z", true)
  | 2 => ("BenchRunsModel", "drops", "[I", true)
  | 3 => ("BenchRunsModel", "mode", "[I", true)
  | 4 => ("BenchRunsModel", "rounds", "[I", true)
  | 5 => ("BenchRunsModel", "vialOf", "[I", true)
  | 6 => ("BenchRunsModel", "steps", "[I", true)
  | 7 => ("BenchRunsModel", "kinds", "[I", true)
  | 8 => ("BenchRunsModel", "numbers", "[I", true)
  | 9 => ("BenchRunsModel", "sort", "[I", true)
  | 10 => ("BenchRunsModel", "uses", "[I", true)
  | 11 => ("BenchRunsModel", "grips", "[I", true)
  | 12 => ("BenchRunsModel", "rack", "I", false)
  | 13 => ("BenchRunsModel", "boxSize", "I", false)
  | 14 => ("BenchRunsModel", "boxSort", "I", false)
  | 15 => ("BenchRunsModel", "box", "[I", true)
  | 16 => ("BenchRunsModel", "gridRows", "I", false)
  | 17 => ("BenchRunsModel", "gridWide", "I", false)
  | 18 => ("BenchRunsModel", "laid", "[I", true)
  | 19 => ("BenchRunsModel", "told", "[I", true)
  | 20 => ("BenchRunsModel", "trace", "[I", true)
  | 21 => ("BenchRunsModel", "noted", "[I", true)
  | 22 => ("BenchRunsModel", "why", "[I", true)
  | 23 => ("BenchRunsModel", "whys", "I", false)
  | 24 => ("BenchRunsModel", "failure", "I", false)
  | 25 => ("BenchRunsModel", "isMachines", "Z", false)
  | 26 => ("BenchRunsModel", "again", "I", false)
  | _ => ("BenchRunsModel", "stopped", "I", false)
def tyX7 : Nat → FieldType := fun k => match k with
  | 0 => .int
  | 1 => .array .boolean
  | 2 => .array .int
  | 3 => .array .int
  | 4 => .array .int
  | 5 => .array .int
  | 6 => .array .int
  | 7 => .array .int
  | 8 => .array .int
  | 9 => .array .int
  | 10 => .array .int
  | 11 => .array .int
  | 12 => .int
  | 13 => .int
  | 14 => .int
  | 15 => .array .int
  | 16 => .int
  | 17 => .int
  | 18 => .array .int
  | 19 => .array .int
  | 20 => .array .int
  | 21 => .array .int
  | 22 => .array .int
  | 23 => .int
  | 24 => .int
  | 25 => .boolean
  | 26 => .int
  | _ => .int
abbrev wsX70 : List Cond := u_ws RX7 TX7 28
theorem nmX7 : ∀ a, a < 28 → ∀ b, b < 28 → a ≠ b → (TX7 a).2.1 ≠ (TX7 b).2.1 := by decide +kernel
theorem tyX7_ok : ∀ k, k < 28 → parseFieldDescriptor (TX7 k).2.2.1 = some (tyX7 k) := by decide +kernel
abbrev cX7_init : ByteArray := prog_9_method_1_code
def yX7_init : MethodName := ⟨RX7, "<init>", "()V"⟩
abbrev cX7_in : ByteArray := prog_9_method_3_code
def yX7_in : MethodName := ⟨RX7, "in", "(III)Z"⟩
abbrev cX7_isBatch : ByteArray := prog_9_method_4_code
def yX7_isBatch : MethodName := ⟨RX7, "isBatch", "(I)Z"⟩
abbrev cX7_vial : ByteArray := prog_9_method_5_code
def yX7_vial : MethodName := ⟨RX7, "vial", "(II)I"⟩
abbrev cX7_batch : ByteArray := prog_9_method_6_code
def yX7_batch : MethodName := ⟨RX7, "batch", "(II)I"⟩
abbrev cX7_round : ByteArray := prog_9_method_7_code
def yX7_round : MethodName := ⟨RX7, "round", "(II)I"⟩
abbrev cX7_most : ByteArray := prog_9_method_8_code
def yX7_most : MethodName := ⟨RX7, "most", "(I)I"⟩
abbrev cX7_step : ByteArray := prog_9_method_9_code
def yX7_step : MethodName := ⟨RX7, "step", "(III)I"⟩
abbrev cX7_tool : ByteArray := prog_9_method_10_code
def yX7_tool : MethodName := ⟨RX7, "tool", "(II)I"⟩
abbrev cX7_lay : ByteArray := prog_9_method_11_code
def yX7_lay : MethodName := ⟨RX7, "lay", "(II)I"⟩
abbrev cX7_about : ByteArray := prog_9_method_12_code
def yX7_about : MethodName := ⟨RX7, "about", "(II)I"⟩
abbrev cX7_places : ByteArray := prog_9_method_13_code
def yX7_places : MethodName := ⟨RX7, "places", "(I)I"⟩
abbrev cX7_box : ByteArray := prog_9_method_14_code
def yX7_box : MethodName := ⟨RX7, "box", "(I)I"⟩
abbrev cX7_mark : ByteArray := prog_9_method_15_code
def yX7_mark : MethodName := ⟨RX7, "mark", "(I)V"⟩
abbrev cX7_fails : ByteArray := prog_9_method_16_code
def yX7_fails : MethodName := ⟨RX7, "fails", "(I)I"⟩
abbrev cX7_more : ByteArray := prog_9_method_17_code
def yX7_more : MethodName := ⟨RX7, "more", "(II)I"⟩
abbrev cX7_pours : ByteArray := prog_9_method_18_code
def yX7_pours : MethodName := ⟨RX7, "pours", "(II)I"⟩
abbrev cX7_grips : ByteArray := prog_9_method_19_code
def yX7_grips : MethodName := ⟨RX7, "grips", "(II)I"⟩
abbrev cX7_uses : ByteArray := prog_9_method_20_code
def yX7_uses : MethodName := ⟨RX7, "uses", "(I)I"⟩
abbrev cX7_boxes : ByteArray := prog_9_method_21_code
def yX7_boxes : MethodName := ⟨RX7, "boxes", "(II)I"⟩
abbrev cX7_grids : ByteArray := prog_9_method_22_code
def yX7_grids : MethodName := ⟨RX7, "grids", "(II)I"⟩
abbrev cX7_puts : ByteArray := prog_9_method_23_code
def yX7_puts : MethodName := ⟨RX7, "puts", "(II)I"⟩
abbrev cX7_counts : ByteArray := prog_9_method_24_code
def yX7_counts : MethodName := ⟨RX7, "counts", "(II)I"⟩
abbrev cX7_raises : ByteArray := prog_9_method_25_code
def yX7_raises : MethodName := ⟨RX7, "raises", "(I)I"⟩
abbrev cX7_act : ByteArray := prog_9_method_26_code
def yX7_act : MethodName := ⟨RX7, "act", "(III)I"⟩
abbrev cX7_goes : ByteArray := prog_9_method_27_code
def yX7_goes : MethodName := ⟨RX7, "goes", "(I)I"⟩
abbrev cX7_does : ByteArray := prog_9_method_28_code
def yX7_does : MethodName := ⟨RX7, "does", "(I)I"⟩
abbrev cX7_reasons : ByteArray := prog_9_method_29_code
def yX7_reasons : MethodName := ⟨RX7, "reasons", "(I)V"⟩
abbrev cX7_inStead : ByteArray := prog_9_method_30_code
def yX7_inStead : MethodName := ⟨RX7, "inStead", "(I)V"⟩
abbrev cX7_works : ByteArray := prog_9_method_31_code
def yX7_works : MethodName := ⟨RX7, "works", "(I)I"⟩
abbrev cX7_run : ByteArray := prog_9_method_32_code
def yX7_run : MethodName := ⟨RX7, "run", "(IIZ)I"⟩
abbrev cX7_why : ByteArray := prog_9_method_33_code
def yX7_why : MethodName := ⟨RX7, "why", "(I)I"⟩
abbrev cX7_told : ByteArray := prog_9_method_34_code
def yX7_told : MethodName := ⟨RX7, "told", "(I)I"⟩
abbrev cX7_trace : ByteArray := prog_9_method_35_code
def yX7_trace : MethodName := ⟨RX7, "trace", "(I)I"⟩
abbrev cX7_noted : ByteArray := prog_9_method_36_code
def yX7_noted : MethodName := ⟨RX7, "noted", "(I)I"⟩
abbrev cX7_drops : ByteArray := prog_9_method_37_code
def yX7_drops : MethodName := ⟨RX7, "drops", "(I)I"⟩
abbrev cX7_sum : ByteArray := prog_9_method_38_code
def yX7_sum : MethodName := ⟨RX7, "sum", "()I"⟩
def RJx29ce0 : String := "java/lang/Enum"
def TJx29ce0 : u_T := fun k => match k with
  | _ => ("", "", "", false)
def tyJx29ce0 : Nat → FieldType := fun k => match k with
  | _ => .int
abbrev wsJx29ce00 : List Cond := u_ws RJx29ce0 TJx29ce0 0
theorem nmJx29ce0 : ∀ a, a < 0 → ∀ b, b < 0 → a ≠ b → (TJx29ce0 a).2.1 ≠ (TJx29ce0 b).2.1 := by decide +kernel
theorem tyJx29ce0_ok : ∀ k, k < 0 → parseFieldDescriptor (TJx29ce0 k).2.2.1 = some (tyJx29ce0 k) := by decide +kernel
def RJ9 : String := "java/lang/Math"
def TJ9 : u_T := fun k => match k with
  | _ => ("", "", "", false)
def tyJ9 : Nat → FieldType := fun k => match k with
  | _ => .int
abbrev wsJ90 : List Cond := u_ws RJ9 TJ9 0
theorem nmJ9 : ∀ a, a < 0 → ∀ b, b < 0 → a ≠ b → (TJ9 a).2.1 ≠ (TJ9 b).2.1 := by decide +kernel
theorem tyJ9_ok : ∀ k, k < 0 → parseFieldDescriptor (TJ9 k).2.2.1 = some (tyJ9 k) := by decide +kernel
abbrev cJ9_min_7cf53 : ByteArray := prog_11_method_69_code
def yJ9_min_7cf53 : MethodName := ⟨RJ9, "min", "(II)I"⟩
def RL : String := "BenchRunsLaw"
abbrev cL_law : ByteArray := code
def yL_law : MethodName := ⟨RL, "law", "([I)Z"⟩
def wsX2_init : List Cond := .code yX2_init cX2_init 1 none :: ([.methodLink RX2 3 objectInit, .instanceMethod objectInit, .code objectInit ⟨#[0xb1]⟩ 1 none, .arrayClass .int, .fieldLink RX2 9 "BenchRuns$Round" "kinds" "[I", .fieldLink RX2 15 "BenchRuns$Round" "numbers" "[I", .fieldLink RX2 18 "BenchRuns$Round" "stepCount" "I", .fieldLink RX2 22 "BenchRuns$Round" "vial" "I"] ++ wsX20)
def wsX0_init : List Cond := .code yX0_init cX0_init 2 none :: ([.methodLink RX0 3 objectInit, .instanceMethod objectInit, .code objectInit ⟨#[0xb1]⟩ 1 none, .classLink RX0 9 RX2, .fieldLink RX0 11 "BenchRuns$Batch" "rounds" "[LBenchRuns$Round;", .fieldLink RX0 17 "BenchRuns$Batch" "roundCount" "I", .fieldLink RX0 21 "BenchRuns$Batch" "mode" "I", .instantiable RX2 4, .initialized RX2, .instanceMethod yX2_init, .code yX2_init cX2_init 1 none, .methodLink RX2 3 objectInit, .arrayClass .int, .fieldLink RX2 9 "BenchRuns$Round" "kinds" "[I", .fieldLink RX2 15 "BenchRuns$Round" "numbers" "[I", .fieldLink RX2 18 "BenchRuns$Round" "stepCount" "I", .fieldLink RX2 22 "BenchRuns$Round" "vial" "I"] ++ wsX00 ++ wsX20)
def wsX0_beginAnew : List Cond := .code yX0_beginAnew cX0_beginAnew 2 none :: ([.fieldLink RX0 21 "BenchRuns$Batch" "mode" "I", .fieldLink RX0 17 "BenchRuns$Batch" "roundCount" "I"] ++ wsX00)
def wsX2_beginAnew : List Cond := .code yX2_beginAnew cX2_beginAnew 2 none :: ([.fieldLink RX2 22 "BenchRuns$Round" "vial" "I", .fieldLink RX2 18 "BenchRuns$Round" "stepCount" "I"] ++ wsX20)
def wsX0_addRound : List Cond := .code yX0_addRound cX0_addRound 2 (some .int) :: ([.fieldLink RX0 17 "BenchRuns$Batch" "roundCount" "I", .fieldLink RX0 11 "BenchRuns$Batch" "rounds" "[LBenchRuns$Round;", .methodLink RX0 25 yX2_beginAnew, .instanceMethod yX2_beginAnew, .selects RX2 yX2_beginAnew yX2_beginAnew, .initialized RX2, .code yX2_beginAnew cX2_beginAnew 2 none, .fieldLink RX2 22 "BenchRuns$Round" "vial" "I", .fieldLink RX2 18 "BenchRuns$Round" "stepCount" "I"] ++ wsX00 ++ wsX20)
def wsX1_init : List Cond := .code yX1_init cX1_init 1 none :: ([.methodLink RX1 3 objectInit, .instanceMethod objectInit, .code objectInit ⟨#[0xb1]⟩ 1 none, .arrayClass .int, .fieldLink RX1 9 "BenchRuns$Log" "countOf" "[I", .fieldLink RX1 15 "BenchRuns$Log" "events" "[I", .fieldLink RX1 18 "BenchRuns$Log" "eventCount" "I", .fieldLink RX1 22 "BenchRuns$Log" "notedNumbers" "[I", .fieldLink RX1 25 "BenchRuns$Log" "notedCount" "I", .fieldLink RX1 28 "BenchRuns$Log" "chain" "[I", .fieldLink RX1 31 "BenchRuns$Log" "chainLength" "I"] ++ wsX10)
def wsX1_beginAnew : List Cond := .code yX1_beginAnew cX1_beginAnew 2 none :: ([.fieldLink RX1 9 "BenchRuns$Log" "countOf" "[I", .fieldLink RX1 18 "BenchRuns$Log" "eventCount" "I", .fieldLink RX1 25 "BenchRuns$Log" "notedCount" "I", .fieldLink RX1 31 "BenchRuns$Log" "chainLength" "I"] ++ wsX10)
def wsX1_mark : List Cond := .code yX1_mark cX1_mark 2 none :: ([.fieldLink RX1 9 "BenchRuns$Log" "countOf" "[I", .fieldLink RX1 18 "BenchRuns$Log" "eventCount" "I", .fieldLink RX1 15 "BenchRuns$Log" "events" "[I"] ++ wsX10)
def wsX1_fail : List Cond := .code yX1_fail cX1_fail 3 (some (.object "BenchRuns$Way")) :: ([.fieldLink RX1 28 "BenchRuns$Log" "chain" "[I", .fieldLink RX1 31 "BenchRuns$Log" "chainLength" "I", .fieldLink RX1 34 "BenchRuns$Way" "FAILURE" "LBenchRuns$Way;"] ++ wsX10)
def wsX1_failAsLaid : List Cond := .code yX1_failAsLaid cX1_failAsLaid 2 (some (.object "BenchRuns$Way")) :: ([.fieldLink RX1 28 "BenchRuns$Log" "chain" "[I", .fieldLink RX1 31 "BenchRuns$Log" "chainLength" "I", .fieldLink RX1 34 "BenchRuns$Way" "FAILURE" "LBenchRuns$Way;"] ++ wsX10)
def wsX1_failInStead : List Cond := .code yX1_failInStead cX1_failInStead 2 none :: ([.fieldLink RX1 31 "BenchRuns$Log" "chainLength" "I", .fieldLink RX1 28 "BenchRuns$Log" "chain" "[I"] ++ wsX10)
def wsX1_noteFailure : List Cond := .code yX1_noteFailure cX1_noteFailure 1 none :: ([.fieldLink RX1 31 "BenchRuns$Log" "chainLength" "I", .fieldLink RX1 25 "BenchRuns$Log" "notedCount" "I", .fieldLink RX1 22 "BenchRuns$Log" "notedNumbers" "[I", .fieldLink RX1 28 "BenchRuns$Log" "chain" "[I"] ++ wsX10)
def wsX2_addStep : List Cond := .code yX2_addStep cX2_addStep 3 (some .int) :: ([.fieldLink RX2 18 "BenchRuns$Round" "stepCount" "I", .fieldLink RX2 9 "BenchRuns$Round" "kinds" "[I", .fieldLink RX2 15 "BenchRuns$Round" "numbers" "[I"] ++ wsX20)
def wsX3_init : List Cond := .code yX3_init cX3_init 1 none :: ([.methodLink RX3 3 objectInit, .instanceMethod objectInit, .code objectInit ⟨#[0xb1]⟩ 1 none, .arrayClass .int, .fieldLink RX3 9 "BenchRuns$Stock" "boxTools" "[I", .fieldLink RX3 15 "BenchRuns$Stock" "rackSize" "I", .fieldLink RX3 19 "BenchRuns$Stock" "boxSize" "I", .fieldLink RX3 22 "BenchRuns$Stock" "boxSort" "I", .fieldLink RX3 25 "BenchRuns$Stock" "gridRows" "I", .fieldLink RX3 28 "BenchRuns$Stock" "gridRowSize" "I"] ++ wsX30)
def wsX3_newRack : List Cond := .code yX3_newRack cX3_newRack 2 (some .boolean) :: ([.fieldLink RX3 15 "BenchRuns$Stock" "rackSize" "I"] ++ wsX30)
def wsX3_newBox : List Cond := .code yX3_newBox cX3_newBox 4 (some .boolean) :: ([.fieldLink RX3 9 "BenchRuns$Stock" "boxTools" "[I", .fieldLink RX3 19 "BenchRuns$Stock" "boxSize" "I", .fieldLink RX3 22 "BenchRuns$Stock" "boxSort" "I"] ++ wsX30)
def wsX3_newGrid : List Cond := .code yX3_newGrid cX3_newGrid 3 (some .boolean) :: ([.fieldLink RX3 25 "BenchRuns$Stock" "gridRows" "I", .fieldLink RX3 28 "BenchRuns$Stock" "gridRowSize" "I"] ++ wsX30)
def wsX3_boxTakes : List Cond := .code yX3_boxTakes cX3_boxTakes 2 (some .boolean) :: ([.fieldLink RX3 22 "BenchRuns$Stock" "boxSort" "I"] ++ wsX30)
def wsX3_sizeOf : List Cond := .code yX3_sizeOf cX3_sizeOf 2 (some .int) :: ([.fieldLink RX3 15 "BenchRuns$Stock" "rackSize" "I", .fieldLink RX3 19 "BenchRuns$Stock" "boxSize" "I", .fieldLink RX3 25 "BenchRuns$Stock" "gridRows" "I", .fieldLink RX3 28 "BenchRuns$Stock" "gridRowSize" "I"] ++ wsX30)
def wsX4_init : List Cond := .code yX4_init cX4_init 1 none :: ([.methodLink RX4 3 objectInit, .instanceMethod objectInit, .code objectInit ⟨#[0xb1]⟩ 1 none, .fieldLink RX4 9 "BenchRuns$Tool" "sort" "I", .fieldLink RX4 15 "BenchRuns$Tool" "uses" "I", .fieldLink RX4 18 "BenchRuns$Tool" "grip" "I"] ++ wsX40)
def wsX4_beginAnew : List Cond := .code yX4_beginAnew cX4_beginAnew 2 none :: ([.fieldLink RX4 9 "BenchRuns$Tool" "sort" "I", .fieldLink RX4 15 "BenchRuns$Tool" "uses" "I", .fieldLink RX4 18 "BenchRuns$Tool" "grip" "I"] ++ wsX40)
def wsX6_init_r1 : List Cond := [Cond.methodLink RX6 1 objectInit, Cond.instanceMethod objectInit, Cond.code objectInit ⟨#[0xb1]⟩ 1 none, Cond.arrayClass .int, Cond.fieldLink RX6 9 "BenchRuns" "vialDrops" "[I", Cond.classLink RX6 13 RX0, Cond.fieldLink RX6 15 "BenchRuns" "batches" "[LBenchRuns$Batch;", Cond.classLink RX6 19 RX4, Cond.fieldLink RX6 21 "BenchRuns" "tools" "[LBenchRuns$Tool;", Cond.fieldLink RX6 25 "BenchRuns" "laid" "[I", Cond.classLink RX6 28 RX3, Cond.instantiable RX3 6, Cond.initialized RX3, Cond.fieldLink RX6 31 "BenchRuns" "stock" "LBenchRuns$Stock;", Cond.classLink RX6 35 RX1, Cond.instantiable RX1 7, Cond.initialized RX1, Cond.fieldLink RX6 38 "BenchRuns" "log" "LBenchRuns$Log;", Cond.fieldLink RX6 42 "BenchRuns" "stoppedBy" "I", Cond.instantiable RX0 3, Cond.initialized RX0, Cond.instantiable RX4 3, Cond.initialized RX4, Cond.instanceMethod yX3_init]
def wsX6_init_r2 : List Cond := [Cond.code yX3_init cX3_init 1 none, Cond.methodLink RX3 3 objectInit, Cond.fieldLink RX3 9 "BenchRuns$Stock" "boxTools" "[I", Cond.fieldLink RX3 15 "BenchRuns$Stock" "rackSize" "I", Cond.fieldLink RX3 19 "BenchRuns$Stock" "boxSize" "I", Cond.fieldLink RX3 22 "BenchRuns$Stock" "boxSort" "I", Cond.fieldLink RX3 25 "BenchRuns$Stock" "gridRows" "I", Cond.fieldLink RX3 28 "BenchRuns$Stock" "gridRowSize" "I", Cond.instanceMethod yX1_init, Cond.code yX1_init cX1_init 1 none, Cond.methodLink RX1 3 objectInit, Cond.fieldLink RX1 9 "BenchRuns$Log" "countOf" "[I", Cond.fieldLink RX1 15 "BenchRuns$Log" "events" "[I", Cond.fieldLink RX1 18 "BenchRuns$Log" "eventCount" "I", Cond.fieldLink RX1 22 "BenchRuns$Log" "notedNumbers" "[I", Cond.fieldLink RX1 25 "BenchRuns$Log" "notedCount" "I", Cond.fieldLink RX1 28 "BenchRuns$Log" "chain" "[I", Cond.fieldLink RX1 31 "BenchRuns$Log" "chainLength" "I", Cond.methodLink RX6 46 yX0_init, Cond.instanceMethod yX0_init, Cond.code yX0_init cX0_init 2 none, Cond.methodLink RX0 3 objectInit, Cond.classLink RX0 9 RX2, Cond.fieldLink RX0 11 "BenchRuns$Batch" "rounds" "[LBenchRuns$Round;"]
def wsX6_init_r3 : List Cond := [Cond.fieldLink RX0 17 "BenchRuns$Batch" "roundCount" "I", Cond.fieldLink RX0 21 "BenchRuns$Batch" "mode" "I", Cond.instantiable RX2 4, Cond.initialized RX2, Cond.instanceMethod yX2_init, Cond.code yX2_init cX2_init 1 none, Cond.methodLink RX2 3 objectInit, Cond.fieldLink RX2 9 "BenchRuns$Round" "kinds" "[I", Cond.fieldLink RX2 15 "BenchRuns$Round" "numbers" "[I", Cond.fieldLink RX2 18 "BenchRuns$Round" "stepCount" "I", Cond.fieldLink RX2 22 "BenchRuns$Round" "vial" "I", Cond.instanceMethod yX4_init, Cond.code yX4_init cX4_init 1 none, Cond.methodLink RX4 3 objectInit, Cond.fieldLink RX4 9 "BenchRuns$Tool" "sort" "I", Cond.fieldLink RX4 15 "BenchRuns$Tool" "uses" "I", Cond.fieldLink RX4 18 "BenchRuns$Tool" "grip" "I"]
def wsX6_init : List Cond := .code yX6_init cX6_init 2 none :: ((wsX6_init_r1 ++ (wsX6_init_r2 ++ wsX6_init_r3)) ++ wsX60 ++ wsX30 ++ wsX10 ++ wsX00 ++ wsX40 ++ wsX20)
def wsX6_within : List Cond := .code yX6_within cX6_within 3 (some .boolean) :: ([])
def wsX6_orNone : List Cond := .code yX6_orNone cX6_orNone 1 (some .int) :: ([])
def wsX6_vial : List Cond := .code yX6_vial cX6_vial 4 (some .int) :: ([.fieldLink RX6 9 "BenchRuns" "vialDrops" "[I", .methodLink RX6 48 yX6_within, .static yX6_within, .initialized RX6, .code yX6_within cX6_within 3 (some .boolean), .methodLink RX6 52 yX6_orNone, .static yX6_orNone, .code yX6_orNone cX6_orNone 1 (some .int)] ++ wsX60)
def wsX6_batch : List Cond := .code yX6_batch cX6_batch 4 (some .int) :: ([.fieldLink RX6 15 "BenchRuns" "batches" "[LBenchRuns$Batch;", .fieldLink RX6 56 "BenchRuns$Batch" "roundCount" "I", .methodLink RX6 48 yX6_within, .static yX6_within, .initialized RX6, .code yX6_within cX6_within 3 (some .boolean), .methodLink RX6 59 yX0_beginAnew, .instanceMethod yX0_beginAnew, .selects RX0 yX0_beginAnew yX0_beginAnew, .initialized RX0, .code yX0_beginAnew cX0_beginAnew 2 none, .fieldLink RX0 21 "BenchRuns$Batch" "mode" "I", .fieldLink RX0 17 "BenchRuns$Batch" "roundCount" "I"] ++ wsX60 ++ wsX00)
def wsX6_round : List Cond := .code yX6_round cX6_round 3 (some .int) :: ([.fieldLink RX6 15 "BenchRuns" "batches" "[LBenchRuns$Batch;", .methodLink RX6 48 yX6_within, .static yX6_within, .initialized RX6, .code yX6_within cX6_within 3 (some .boolean), .methodLink RX6 63 yX0_addRound, .instanceMethod yX0_addRound, .selects RX0 yX0_addRound yX0_addRound, .initialized RX0, .code yX0_addRound cX0_addRound 2 (some .int), .fieldLink RX0 17 "BenchRuns$Batch" "roundCount" "I", .fieldLink RX0 11 "BenchRuns$Batch" "rounds" "[LBenchRuns$Round;", .methodLink RX0 25 yX2_beginAnew, .instanceMethod yX2_beginAnew, .selects RX2 yX2_beginAnew yX2_beginAnew, .initialized RX2, .code yX2_beginAnew cX2_beginAnew 2 none, .fieldLink RX2 22 "BenchRuns$Round" "vial" "I", .fieldLink RX2 18 "BenchRuns$Round" "stepCount" "I"] ++ wsX60 ++ wsX00 ++ wsX20)
def wsX6_step : List Cond := .code yX6_step cX6_step 5 (some .int) :: ([.fieldLink RX6 66 "BenchRuns" "MOST_N" "[I", .fieldLink RX6 15 "BenchRuns" "batches" "[LBenchRuns$Batch;", .fieldLink RX6 56 "BenchRuns$Batch" "roundCount" "I", .fieldLink RX6 69 "BenchRuns$Batch" "rounds" "[LBenchRuns$Round;", .methodLink RX6 48 yX6_within, .static yX6_within, .initialized RX6, .code yX6_within cX6_within 3 (some .boolean), .methodLink RX6 73 yX2_addStep, .instanceMethod yX2_addStep, .selects RX2 yX2_addStep yX2_addStep, .initialized RX2, .code yX2_addStep cX2_addStep 3 (some .int), .fieldLink RX2 18 "BenchRuns$Round" "stepCount" "I", .fieldLink RX2 9 "BenchRuns$Round" "kinds" "[I", .fieldLink RX2 15 "BenchRuns$Round" "numbers" "[I"] ++ wsX60 ++ wsX00 ++ wsX20)
def wsX6_tool : List Cond := .code yX6_tool cX6_tool 4 (some .int) :: ([.fieldLink RX6 21 "BenchRuns" "tools" "[LBenchRuns$Tool;", .fieldLink RX6 79 "BenchRuns$Tool" "sort" "I", .methodLink RX6 48 yX6_within, .static yX6_within, .initialized RX6, .code yX6_within cX6_within 3 (some .boolean), .methodLink RX6 52 yX6_orNone, .static yX6_orNone, .code yX6_orNone cX6_orNone 1 (some .int), .methodLink RX6 82 yX4_beginAnew, .instanceMethod yX4_beginAnew, .selects RX4 yX4_beginAnew yX4_beginAnew, .initialized RX4, .code yX4_beginAnew cX4_beginAnew 2 none, .fieldLink RX4 9 "BenchRuns$Tool" "sort" "I", .fieldLink RX4 15 "BenchRuns$Tool" "uses" "I", .fieldLink RX4 18 "BenchRuns$Tool" "grip" "I"] ++ wsX60 ++ wsX40)
def wsX6_lay : List Cond := .code yX6_lay cX6_lay 4 (some .int) :: ([.fieldLink RX6 25 "BenchRuns" "laid" "[I", .methodLink RX6 48 yX6_within, .static yX6_within, .initialized RX6, .code yX6_within cX6_within 3 (some .boolean)] ++ wsX60)
def wsX6_about : List Cond := .code yX6_about cX6_about 4 (some .int) :: ([.fieldLink RX6 21 "BenchRuns" "tools" "[LBenchRuns$Tool;", .fieldLink RX6 79 "BenchRuns$Tool" "sort" "I", .fieldLink RX6 83 "BenchRuns$Tool" "grip" "I", .fieldLink RX6 86 "BenchRuns$Tool" "uses" "I", .methodLink RX6 48 yX6_within, .static yX6_within, .initialized RX6, .code yX6_within cX6_within 3 (some .boolean)] ++ wsX60 ++ wsX40)
def wsX6_places : List Cond := .code yX6_places cX6_places 2 (some .int) :: ([.fieldLink RX6 31 "BenchRuns" "stock" "LBenchRuns$Stock;", .methodLink RX6 48 yX6_within, .static yX6_within, .initialized RX6, .code yX6_within cX6_within 3 (some .boolean), .methodLink RX6 89 yX3_sizeOf, .instanceMethod yX3_sizeOf, .selects RX3 yX3_sizeOf yX3_sizeOf, .initialized RX3, .code yX3_sizeOf cX3_sizeOf 2 (some .int), .fieldLink RX3 15 "BenchRuns$Stock" "rackSize" "I", .fieldLink RX3 19 "BenchRuns$Stock" "boxSize" "I", .fieldLink RX3 25 "BenchRuns$Stock" "gridRows" "I", .fieldLink RX3 28 "BenchRuns$Stock" "gridRowSize" "I"] ++ wsX60 ++ wsX30)
def wsX6_box : List Cond := .code yX6_box cX6_box 2 (some .int) :: ([.fieldLink RX6 31 "BenchRuns" "stock" "LBenchRuns$Stock;", .fieldLink RX6 92 "BenchRuns$Stock" "boxSize" "I", .fieldLink RX6 95 "BenchRuns$Stock" "boxTools" "[I", .methodLink RX6 48 yX6_within, .static yX6_within, .initialized RX6, .code yX6_within cX6_within 3 (some .boolean)] ++ wsX60 ++ wsX30)
def wsX6_addDrops : List Cond := .code yX6_addDrops cX6_addDrops 3 (some (.object "BenchRuns$Way")) :: ([.fieldLink RX6 9 "BenchRuns" "vialDrops" "[I", .fieldLink RX6 38 "BenchRuns" "log" "LBenchRuns$Log;", .fieldLink RX6 145 "BenchRuns$Way" "ONWARD" "LBenchRuns$Way;", .methodLink RX6 174 yX1_fail, .instanceMethod yX1_fail, .selects RX1 yX1_fail yX1_fail, .initialized RX1, .code yX1_fail cX1_fail 3 (some (.object "BenchRuns$Way")), .fieldLink RX1 28 "BenchRuns$Log" "chain" "[I", .fieldLink RX1 31 "BenchRuns$Log" "chainLength" "I", .fieldLink RX1 34 "BenchRuns$Way" "FAILURE" "LBenchRuns$Way;"] ++ wsX60 ++ wsX10)
def wsX6_drawDrops : List Cond := .code yX6_drawDrops cX6_drawDrops 3 (some (.object "BenchRuns$Way")) :: ([.fieldLink RX6 9 "BenchRuns" "vialDrops" "[I", .fieldLink RX6 38 "BenchRuns" "log" "LBenchRuns$Log;", .fieldLink RX6 145 "BenchRuns$Way" "ONWARD" "LBenchRuns$Way;", .methodLink RX6 174 yX1_fail, .instanceMethod yX1_fail, .selects RX1 yX1_fail yX1_fail, .initialized RX1, .code yX1_fail cX1_fail 3 (some (.object "BenchRuns$Way")), .fieldLink RX1 28 "BenchRuns$Log" "chain" "[I", .fieldLink RX1 31 "BenchRuns$Log" "chainLength" "I", .fieldLink RX1 34 "BenchRuns$Way" "FAILURE" "LBenchRuns$Way;"] ++ wsX60 ++ wsX10)
def wsX6_shareDrops : List Cond := .code yX6_shareDrops cX6_shareDrops 3 (some (.object "BenchRuns$Way")) :: ([.fieldLink RX6 38 "BenchRuns" "log" "LBenchRuns$Log;", .fieldLink RX6 9 "BenchRuns" "vialDrops" "[I", .fieldLink RX6 145 "BenchRuns$Way" "ONWARD" "LBenchRuns$Way;", .methodLink RX6 174 yX1_fail, .instanceMethod yX1_fail, .selects RX1 yX1_fail yX1_fail, .initialized RX1, .code yX1_fail cX1_fail 3 (some (.object "BenchRuns$Way")), .fieldLink RX1 28 "BenchRuns$Log" "chain" "[I", .fieldLink RX1 31 "BenchRuns$Log" "chainLength" "I", .fieldLink RX1 34 "BenchRuns$Way" "FAILURE" "LBenchRuns$Way;"] ++ wsX60 ++ wsX10)
def wsX6_pourDrops : List Cond := .code yX6_pourDrops cX6_pourDrops 3 (some (.object "BenchRuns$Way")) :: ([.fieldLink RX6 38 "BenchRuns" "log" "LBenchRuns$Log;", .fieldLink RX6 9 "BenchRuns" "vialDrops" "[I", .fieldLink RX6 145 "BenchRuns$Way" "ONWARD" "LBenchRuns$Way;", .methodLink RX6 174 yX1_fail, .instanceMethod yX1_fail, .selects RX1 yX1_fail yX1_fail, .initialized RX1, .code yX1_fail cX1_fail 3 (some (.object "BenchRuns$Way")), .fieldLink RX1 28 "BenchRuns$Log" "chain" "[I", .fieldLink RX1 31 "BenchRuns$Log" "chainLength" "I", .fieldLink RX1 34 "BenchRuns$Way" "FAILURE" "LBenchRuns$Way;"] ++ wsX60 ++ wsX10)
def wsX6_doVialStep_r1 : List Cond := [Cond.fieldLink RX6 155 "BenchRuns$Way" "SKIP" "LBenchRuns$Way;", Cond.fieldLink RX6 165 "BenchRuns$Way" "BREAK" "LBenchRuns$Way;", Cond.fieldLink RX6 42 "BenchRuns" "stoppedBy" "I", Cond.fieldLink RX6 113 "BenchRuns$Way" "STOP" "LBenchRuns$Way;", Cond.fieldLink RX6 38 "BenchRuns" "log" "LBenchRuns$Log;", Cond.fieldLink RX6 9 "BenchRuns" "vialDrops" "[I", Cond.fieldLink RX6 145 "BenchRuns$Way" "ONWARD" "LBenchRuns$Way;", Cond.fieldLink RX6 198 "BenchRuns$Way" "ANEW" "LBenchRuns$Way;", Cond.methodLink RX6 201 yX6_addDrops, Cond.instanceMethod yX6_addDrops, Cond.selects RX6 yX6_addDrops yX6_addDrops, Cond.initialized RX6, Cond.code yX6_addDrops cX6_addDrops 3 (some (.object "BenchRuns$Way")), Cond.methodLink RX6 174 yX1_fail, Cond.instanceMethod yX1_fail, Cond.selects RX1 yX1_fail yX1_fail, Cond.initialized RX1, Cond.code yX1_fail cX1_fail 3 (some (.object "BenchRuns$Way")), Cond.fieldLink RX1 28 "BenchRuns$Log" "chain" "[I", Cond.fieldLink RX1 31 "BenchRuns$Log" "chainLength" "I", Cond.fieldLink RX1 34 "BenchRuns$Way" "FAILURE" "LBenchRuns$Way;", Cond.methodLink RX6 204 yX6_drawDrops, Cond.instanceMethod yX6_drawDrops, Cond.selects RX6 yX6_drawDrops yX6_drawDrops]
def wsX6_doVialStep_r2 : List Cond := [Cond.code yX6_drawDrops cX6_drawDrops 3 (some (.object "BenchRuns$Way")), Cond.methodLink RX6 207 yX6_shareDrops, Cond.instanceMethod yX6_shareDrops, Cond.selects RX6 yX6_shareDrops yX6_shareDrops, Cond.code yX6_shareDrops cX6_shareDrops 3 (some (.object "BenchRuns$Way")), Cond.methodLink RX6 210 yX6_pourDrops, Cond.instanceMethod yX6_pourDrops, Cond.selects RX6 yX6_pourDrops yX6_pourDrops, Cond.code yX6_pourDrops cX6_pourDrops 3 (some (.object "BenchRuns$Way"))]
def wsX6_doVialStep : List Cond := .code yX6_doVialStep cX6_doVialStep 5 (some (.object "BenchRuns$Way")) :: ((wsX6_doVialStep_r1 ++ wsX6_doVialStep_r2) ++ wsX60 ++ wsX10)
def wsX6_useTool : List Cond := .code yX6_useTool cX6_useTool 2 (some (.object "BenchRuns$Way")) :: ([.fieldLink RX6 38 "BenchRuns" "log" "LBenchRuns$Log;", .fieldLink RX6 21 "BenchRuns" "tools" "[LBenchRuns$Tool;", .fieldLink RX6 79 "BenchRuns$Tool" "sort" "I", .fieldLink RX6 86 "BenchRuns$Tool" "uses" "I", .fieldLink RX6 145 "BenchRuns$Way" "ONWARD" "LBenchRuns$Way;", .methodLink RX6 174 yX1_fail, .instanceMethod yX1_fail, .selects RX1 yX1_fail yX1_fail, .initialized RX1, .code yX1_fail cX1_fail 3 (some (.object "BenchRuns$Way")), .fieldLink RX1 28 "BenchRuns$Log" "chain" "[I", .fieldLink RX1 31 "BenchRuns$Log" "chainLength" "I", .fieldLink RX1 34 "BenchRuns$Way" "FAILURE" "LBenchRuns$Way;"] ++ wsX60 ++ wsX40 ++ wsX10)
def wsX6_gripTool : List Cond := .code yX6_gripTool cX6_gripTool 3 (some (.object "BenchRuns$Way")) :: ([.fieldLink RX6 38 "BenchRuns" "log" "LBenchRuns$Log;", .fieldLink RX6 21 "BenchRuns" "tools" "[LBenchRuns$Tool;", .fieldLink RX6 79 "BenchRuns$Tool" "sort" "I", .fieldLink RX6 83 "BenchRuns$Tool" "grip" "I", .fieldLink RX6 145 "BenchRuns$Way" "ONWARD" "LBenchRuns$Way;", .methodLink RX6 174 yX1_fail, .instanceMethod yX1_fail, .selects RX1 yX1_fail yX1_fail, .initialized RX1, .code yX1_fail cX1_fail 3 (some (.object "BenchRuns$Way")), .fieldLink RX1 28 "BenchRuns$Log" "chain" "[I", .fieldLink RX1 31 "BenchRuns$Log" "chainLength" "I", .fieldLink RX1 34 "BenchRuns$Way" "FAILURE" "LBenchRuns$Way;"] ++ wsX60 ++ wsX40 ++ wsX10)
def wsX6_putTool : List Cond := .code yX6_putTool cX6_putTool 4 (some (.object "BenchRuns$Way")) :: ([.fieldLink RX6 38 "BenchRuns" "log" "LBenchRuns$Log;", .fieldLink RX6 31 "BenchRuns" "stock" "LBenchRuns$Stock;", .fieldLink RX6 92 "BenchRuns$Stock" "boxSize" "I", .fieldLink RX6 21 "BenchRuns" "tools" "[LBenchRuns$Tool;", .fieldLink RX6 79 "BenchRuns$Tool" "sort" "I", .fieldLink RX6 95 "BenchRuns$Stock" "boxTools" "[I", .fieldLink RX6 145 "BenchRuns$Way" "ONWARD" "LBenchRuns$Way;", .methodLink RX6 174 yX1_fail, .instanceMethod yX1_fail, .selects RX1 yX1_fail yX1_fail, .initialized RX1, .code yX1_fail cX1_fail 3 (some (.object "BenchRuns$Way")), .fieldLink RX1 28 "BenchRuns$Log" "chain" "[I", .fieldLink RX1 31 "BenchRuns$Log" "chainLength" "I", .fieldLink RX1 34 "BenchRuns$Way" "FAILURE" "LBenchRuns$Way;", .methodLink RX6 236 yX3_boxTakes, .instanceMethod yX3_boxTakes, .selects RX3 yX3_boxTakes yX3_boxTakes, .initialized RX3, .code yX3_boxTakes cX3_boxTakes 2 (some .boolean), .fieldLink RX3 22 "BenchRuns$Stock" "boxSort" "I"] ++ wsX60 ++ wsX30 ++ wsX40 ++ wsX10)
def wsX6_doBenchStep_r1 : List Cond := [Cond.fieldLink RX6 9 "BenchRuns" "vialDrops" "[I", Cond.fieldLink RX6 31 "BenchRuns" "stock" "LBenchRuns$Stock;", Cond.fieldLink RX6 145 "BenchRuns$Way" "ONWARD" "LBenchRuns$Way;", Cond.fieldLink RX6 38 "BenchRuns" "log" "LBenchRuns$Log;", Cond.fieldLink RX6 25 "BenchRuns" "laid" "[I", Cond.methodLink RX6 213 yX6_useTool, Cond.instanceMethod yX6_useTool, Cond.selects RX6 yX6_useTool yX6_useTool, Cond.initialized RX6, Cond.code yX6_useTool cX6_useTool 2 (some (.object "BenchRuns$Way")), Cond.fieldLink RX6 21 "BenchRuns" "tools" "[LBenchRuns$Tool;", Cond.fieldLink RX6 79 "BenchRuns$Tool" "sort" "I", Cond.fieldLink RX6 86 "BenchRuns$Tool" "uses" "I", Cond.methodLink RX6 174 yX1_fail, Cond.instanceMethod yX1_fail, Cond.selects RX1 yX1_fail yX1_fail, Cond.initialized RX1, Cond.code yX1_fail cX1_fail 3 (some (.object "BenchRuns$Way")), Cond.fieldLink RX1 28 "BenchRuns$Log" "chain" "[I", Cond.fieldLink RX1 31 "BenchRuns$Log" "chainLength" "I", Cond.fieldLink RX1 34 "BenchRuns$Way" "FAILURE" "LBenchRuns$Way;", Cond.methodLink RX6 216 yX6_gripTool, Cond.instanceMethod yX6_gripTool, Cond.selects RX6 yX6_gripTool yX6_gripTool]
def wsX6_doBenchStep_r2 : List Cond := [Cond.code yX6_gripTool cX6_gripTool 3 (some (.object "BenchRuns$Way")), Cond.fieldLink RX6 83 "BenchRuns$Tool" "grip" "I", Cond.methodLink RX6 219 yX3_newRack, Cond.instanceMethod yX3_newRack, Cond.selects RX3 yX3_newRack yX3_newRack, Cond.initialized RX3, Cond.code yX3_newRack cX3_newRack 2 (some .boolean), Cond.fieldLink RX3 15 "BenchRuns$Stock" "rackSize" "I", Cond.methodLink RX6 223 yX3_newBox, Cond.instanceMethod yX3_newBox, Cond.selects RX3 yX3_newBox yX3_newBox, Cond.code yX3_newBox cX3_newBox 4 (some .boolean), Cond.fieldLink RX3 9 "BenchRuns$Stock" "boxTools" "[I", Cond.fieldLink RX3 19 "BenchRuns$Stock" "boxSize" "I", Cond.fieldLink RX3 22 "BenchRuns$Stock" "boxSort" "I", Cond.methodLink RX6 227 yX3_newGrid, Cond.instanceMethod yX3_newGrid, Cond.selects RX3 yX3_newGrid yX3_newGrid, Cond.code yX3_newGrid cX3_newGrid 3 (some .boolean), Cond.fieldLink RX3 25 "BenchRuns$Stock" "gridRows" "I", Cond.fieldLink RX3 28 "BenchRuns$Stock" "gridRowSize" "I", Cond.methodLink RX6 230 yX6_putTool, Cond.instanceMethod yX6_putTool, Cond.selects RX6 yX6_putTool yX6_putTool]
def wsX6_doBenchStep_r3 : List Cond := [Cond.code yX6_putTool cX6_putTool 4 (some (.object "BenchRuns$Way")), Cond.fieldLink RX6 92 "BenchRuns$Stock" "boxSize" "I", Cond.fieldLink RX6 95 "BenchRuns$Stock" "boxTools" "[I", Cond.methodLink RX6 236 yX3_boxTakes, Cond.instanceMethod yX3_boxTakes, Cond.selects RX3 yX3_boxTakes yX3_boxTakes, Cond.code yX3_boxTakes cX3_boxTakes 2 (some .boolean), Cond.methodLink RX6 89 yX3_sizeOf, Cond.instanceMethod yX3_sizeOf, Cond.selects RX3 yX3_sizeOf yX3_sizeOf, Cond.code yX3_sizeOf cX3_sizeOf 2 (some .int), Cond.methodLink RX6 201 yX6_addDrops, Cond.instanceMethod yX6_addDrops, Cond.selects RX6 yX6_addDrops yX6_addDrops, Cond.code yX6_addDrops cX6_addDrops 3 (some (.object "BenchRuns$Way")), Cond.methodLink RX6 233 yX1_failAsLaid, Cond.instanceMethod yX1_failAsLaid, Cond.selects RX1 yX1_failAsLaid yX1_failAsLaid, Cond.code yX1_failAsLaid cX1_failAsLaid 2 (some (.object "BenchRuns$Way"))]
def wsX6_doBenchStep : List Cond := .code yX6_doBenchStep cX6_doBenchStep 4 (some (.object "BenchRuns$Way")) :: ((wsX6_doBenchStep_r1 ++ (wsX6_doBenchStep_r2 ++ wsX6_doBenchStep_r3)) ++ wsX60 ++ wsX40 ++ wsX10 ++ wsX30)
def wsX6_doSteps_r1 : List Cond := [Cond.fieldLink RX6 181 "BenchRuns$Round" "stepCount" "I", Cond.fieldLink RX6 38 "BenchRuns" "log" "LBenchRuns$Log;", Cond.fieldLink RX6 131 "BenchRuns$Log" "countOf" "[I", Cond.fieldLink RX6 116 "BenchRuns$Way" "TIRED" "LBenchRuns$Way;", Cond.fieldLink RX6 184 "BenchRuns$Round" "kinds" "[I", Cond.fieldLink RX6 187 "BenchRuns$Round" "numbers" "[I", Cond.fieldLink RX6 171 "BenchRuns$Round" "vial" "I", Cond.fieldLink RX6 198 "BenchRuns$Way" "ANEW" "LBenchRuns$Way;", Cond.fieldLink RX6 145 "BenchRuns$Way" "ONWARD" "LBenchRuns$Way;", Cond.methodLink RX6 148 yX1_mark, Cond.instanceMethod yX1_mark, Cond.selects RX1 yX1_mark yX1_mark, Cond.initialized RX1, Cond.code yX1_mark cX1_mark 2 none, Cond.fieldLink RX1 9 "BenchRuns$Log" "countOf" "[I", Cond.fieldLink RX1 18 "BenchRuns$Log" "eventCount" "I", Cond.fieldLink RX1 15 "BenchRuns$Log" "events" "[I", Cond.methodLink RX6 190 yX6_doVialStep, Cond.instanceMethod yX6_doVialStep, Cond.selects RX6 yX6_doVialStep yX6_doVialStep, Cond.initialized RX6, Cond.code yX6_doVialStep cX6_doVialStep 5 (some (.object "BenchRuns$Way")), Cond.fieldLink RX6 155 "BenchRuns$Way" "SKIP" "LBenchRuns$Way;", Cond.fieldLink RX6 165 "BenchRuns$Way" "BREAK" "LBenchRuns$Way;"]
def wsX6_doSteps_r2 : List Cond := [Cond.fieldLink RX6 42 "BenchRuns" "stoppedBy" "I", Cond.fieldLink RX6 113 "BenchRuns$Way" "STOP" "LBenchRuns$Way;", Cond.fieldLink RX6 9 "BenchRuns" "vialDrops" "[I", Cond.methodLink RX6 201 yX6_addDrops, Cond.instanceMethod yX6_addDrops, Cond.selects RX6 yX6_addDrops yX6_addDrops, Cond.code yX6_addDrops cX6_addDrops 3 (some (.object "BenchRuns$Way")), Cond.methodLink RX6 174 yX1_fail, Cond.instanceMethod yX1_fail, Cond.selects RX1 yX1_fail yX1_fail, Cond.code yX1_fail cX1_fail 3 (some (.object "BenchRuns$Way")), Cond.fieldLink RX1 28 "BenchRuns$Log" "chain" "[I", Cond.fieldLink RX1 31 "BenchRuns$Log" "chainLength" "I", Cond.fieldLink RX1 34 "BenchRuns$Way" "FAILURE" "LBenchRuns$Way;", Cond.methodLink RX6 204 yX6_drawDrops, Cond.instanceMethod yX6_drawDrops, Cond.selects RX6 yX6_drawDrops yX6_drawDrops, Cond.code yX6_drawDrops cX6_drawDrops 3 (some (.object "BenchRuns$Way")), Cond.methodLink RX6 207 yX6_shareDrops, Cond.instanceMethod yX6_shareDrops, Cond.selects RX6 yX6_shareDrops yX6_shareDrops, Cond.code yX6_shareDrops cX6_shareDrops 3 (some (.object "BenchRuns$Way")), Cond.methodLink RX6 210 yX6_pourDrops, Cond.instanceMethod yX6_pourDrops]
def wsX6_doSteps_r3 : List Cond := [Cond.selects RX6 yX6_pourDrops yX6_pourDrops, Cond.code yX6_pourDrops cX6_pourDrops 3 (some (.object "BenchRuns$Way")), Cond.methodLink RX6 194 yX6_doBenchStep, Cond.instanceMethod yX6_doBenchStep, Cond.selects RX6 yX6_doBenchStep yX6_doBenchStep, Cond.code yX6_doBenchStep cX6_doBenchStep 4 (some (.object "BenchRuns$Way")), Cond.fieldLink RX6 31 "BenchRuns" "stock" "LBenchRuns$Stock;", Cond.fieldLink RX6 25 "BenchRuns" "laid" "[I", Cond.methodLink RX6 213 yX6_useTool, Cond.instanceMethod yX6_useTool, Cond.selects RX6 yX6_useTool yX6_useTool, Cond.code yX6_useTool cX6_useTool 2 (some (.object "BenchRuns$Way")), Cond.fieldLink RX6 21 "BenchRuns" "tools" "[LBenchRuns$Tool;", Cond.fieldLink RX6 79 "BenchRuns$Tool" "sort" "I", Cond.fieldLink RX6 86 "BenchRuns$Tool" "uses" "I", Cond.methodLink RX6 216 yX6_gripTool, Cond.instanceMethod yX6_gripTool, Cond.selects RX6 yX6_gripTool yX6_gripTool, Cond.code yX6_gripTool cX6_gripTool 3 (some (.object "BenchRuns$Way")), Cond.fieldLink RX6 83 "BenchRuns$Tool" "grip" "I", Cond.methodLink RX6 219 yX3_newRack, Cond.instanceMethod yX3_newRack, Cond.selects RX3 yX3_newRack yX3_newRack, Cond.initialized RX3]
def wsX6_doSteps_r4 : List Cond := [Cond.code yX3_newRack cX3_newRack 2 (some .boolean), Cond.fieldLink RX3 15 "BenchRuns$Stock" "rackSize" "I", Cond.methodLink RX6 223 yX3_newBox, Cond.instanceMethod yX3_newBox, Cond.selects RX3 yX3_newBox yX3_newBox, Cond.code yX3_newBox cX3_newBox 4 (some .boolean), Cond.fieldLink RX3 9 "BenchRuns$Stock" "boxTools" "[I", Cond.fieldLink RX3 19 "BenchRuns$Stock" "boxSize" "I", Cond.fieldLink RX3 22 "BenchRuns$Stock" "boxSort" "I", Cond.methodLink RX6 227 yX3_newGrid, Cond.instanceMethod yX3_newGrid, Cond.selects RX3 yX3_newGrid yX3_newGrid, Cond.code yX3_newGrid cX3_newGrid 3 (some .boolean), Cond.fieldLink RX3 25 "BenchRuns$Stock" "gridRows" "I", Cond.fieldLink RX3 28 "BenchRuns$Stock" "gridRowSize" "I", Cond.methodLink RX6 230 yX6_putTool, Cond.instanceMethod yX6_putTool, Cond.selects RX6 yX6_putTool yX6_putTool, Cond.code yX6_putTool cX6_putTool 4 (some (.object "BenchRuns$Way")), Cond.fieldLink RX6 92 "BenchRuns$Stock" "boxSize" "I", Cond.fieldLink RX6 95 "BenchRuns$Stock" "boxTools" "[I", Cond.methodLink RX6 236 yX3_boxTakes, Cond.instanceMethod yX3_boxTakes, Cond.selects RX3 yX3_boxTakes yX3_boxTakes]
def wsX6_doSteps_r5 : List Cond := [Cond.code yX3_boxTakes cX3_boxTakes 2 (some .boolean), Cond.methodLink RX6 89 yX3_sizeOf, Cond.instanceMethod yX3_sizeOf, Cond.selects RX3 yX3_sizeOf yX3_sizeOf, Cond.code yX3_sizeOf cX3_sizeOf 2 (some .int), Cond.methodLink RX6 233 yX1_failAsLaid, Cond.instanceMethod yX1_failAsLaid, Cond.selects RX1 yX1_failAsLaid yX1_failAsLaid, Cond.code yX1_failAsLaid cX1_failAsLaid 2 (some (.object "BenchRuns$Way"))]
def wsX6_doSteps : List Cond := .code yX6_doSteps cX6_doSteps 8 (some (.object "BenchRuns$Way")) :: ((wsX6_doSteps_r1 ++ (wsX6_doSteps_r2 ++ (wsX6_doSteps_r3 ++ (wsX6_doSteps_r4 ++ wsX6_doSteps_r5)))) ++ wsX20 ++ wsX60 ++ wsX10 ++ wsX40 ++ wsX30)
def wsX6_doRound_r1 : List Cond := [Cond.fieldLink RX6 171 "BenchRuns$Round" "vial" "I", Cond.fieldLink RX6 38 "BenchRuns" "log" "LBenchRuns$Log;", Cond.fieldLink RX6 9 "BenchRuns" "vialDrops" "[I", Cond.methodLink RX6 174 yX1_fail, Cond.instanceMethod yX1_fail, Cond.selects RX1 yX1_fail yX1_fail, Cond.initialized RX1, Cond.code yX1_fail cX1_fail 3 (some (.object "BenchRuns$Way")), Cond.fieldLink RX1 28 "BenchRuns$Log" "chain" "[I", Cond.fieldLink RX1 31 "BenchRuns$Log" "chainLength" "I", Cond.fieldLink RX1 34 "BenchRuns$Way" "FAILURE" "LBenchRuns$Way;", Cond.methodLink RX6 148 yX1_mark, Cond.instanceMethod yX1_mark, Cond.selects RX1 yX1_mark yX1_mark, Cond.code yX1_mark cX1_mark 2 none, Cond.fieldLink RX1 9 "BenchRuns$Log" "countOf" "[I", Cond.fieldLink RX1 18 "BenchRuns$Log" "eventCount" "I", Cond.fieldLink RX1 15 "BenchRuns$Log" "events" "[I", Cond.methodLink RX6 178 yX6_doSteps, Cond.instanceMethod yX6_doSteps, Cond.selects RX6 yX6_doSteps yX6_doSteps, Cond.initialized RX6, Cond.code yX6_doSteps cX6_doSteps 8 (some (.object "BenchRuns$Way")), Cond.fieldLink RX6 181 "BenchRuns$Round" "stepCount" "I"]
def wsX6_doRound_r2 : List Cond := [Cond.fieldLink RX6 131 "BenchRuns$Log" "countOf" "[I", Cond.fieldLink RX6 116 "BenchRuns$Way" "TIRED" "LBenchRuns$Way;", Cond.fieldLink RX6 184 "BenchRuns$Round" "kinds" "[I", Cond.fieldLink RX6 187 "BenchRuns$Round" "numbers" "[I", Cond.fieldLink RX6 198 "BenchRuns$Way" "ANEW" "LBenchRuns$Way;", Cond.fieldLink RX6 145 "BenchRuns$Way" "ONWARD" "LBenchRuns$Way;", Cond.methodLink RX6 190 yX6_doVialStep, Cond.instanceMethod yX6_doVialStep, Cond.selects RX6 yX6_doVialStep yX6_doVialStep, Cond.code yX6_doVialStep cX6_doVialStep 5 (some (.object "BenchRuns$Way")), Cond.fieldLink RX6 155 "BenchRuns$Way" "SKIP" "LBenchRuns$Way;", Cond.fieldLink RX6 165 "BenchRuns$Way" "BREAK" "LBenchRuns$Way;", Cond.fieldLink RX6 42 "BenchRuns" "stoppedBy" "I", Cond.fieldLink RX6 113 "BenchRuns$Way" "STOP" "LBenchRuns$Way;", Cond.methodLink RX6 201 yX6_addDrops, Cond.instanceMethod yX6_addDrops, Cond.selects RX6 yX6_addDrops yX6_addDrops, Cond.code yX6_addDrops cX6_addDrops 3 (some (.object "BenchRuns$Way")), Cond.methodLink RX6 204 yX6_drawDrops, Cond.instanceMethod yX6_drawDrops, Cond.selects RX6 yX6_drawDrops yX6_drawDrops, Cond.code yX6_drawDrops cX6_drawDrops 3 (some (.object "BenchRuns$Way")), Cond.methodLink RX6 207 yX6_shareDrops, Cond.instanceMethod yX6_shareDrops]
def wsX6_doRound_r3 : List Cond := [Cond.selects RX6 yX6_shareDrops yX6_shareDrops, Cond.code yX6_shareDrops cX6_shareDrops 3 (some (.object "BenchRuns$Way")), Cond.methodLink RX6 210 yX6_pourDrops, Cond.instanceMethod yX6_pourDrops, Cond.selects RX6 yX6_pourDrops yX6_pourDrops, Cond.code yX6_pourDrops cX6_pourDrops 3 (some (.object "BenchRuns$Way")), Cond.methodLink RX6 194 yX6_doBenchStep, Cond.instanceMethod yX6_doBenchStep, Cond.selects RX6 yX6_doBenchStep yX6_doBenchStep, Cond.code yX6_doBenchStep cX6_doBenchStep 4 (some (.object "BenchRuns$Way")), Cond.fieldLink RX6 31 "BenchRuns" "stock" "LBenchRuns$Stock;", Cond.fieldLink RX6 25 "BenchRuns" "laid" "[I", Cond.methodLink RX6 213 yX6_useTool, Cond.instanceMethod yX6_useTool, Cond.selects RX6 yX6_useTool yX6_useTool, Cond.code yX6_useTool cX6_useTool 2 (some (.object "BenchRuns$Way")), Cond.fieldLink RX6 21 "BenchRuns" "tools" "[LBenchRuns$Tool;", Cond.fieldLink RX6 79 "BenchRuns$Tool" "sort" "I", Cond.fieldLink RX6 86 "BenchRuns$Tool" "uses" "I", Cond.methodLink RX6 216 yX6_gripTool, Cond.instanceMethod yX6_gripTool, Cond.selects RX6 yX6_gripTool yX6_gripTool, Cond.code yX6_gripTool cX6_gripTool 3 (some (.object "BenchRuns$Way")), Cond.fieldLink RX6 83 "BenchRuns$Tool" "grip" "I"]
def wsX6_doRound_r4 : List Cond := [Cond.methodLink RX6 219 yX3_newRack, Cond.instanceMethod yX3_newRack, Cond.selects RX3 yX3_newRack yX3_newRack, Cond.initialized RX3, Cond.code yX3_newRack cX3_newRack 2 (some .boolean), Cond.fieldLink RX3 15 "BenchRuns$Stock" "rackSize" "I", Cond.methodLink RX6 223 yX3_newBox, Cond.instanceMethod yX3_newBox, Cond.selects RX3 yX3_newBox yX3_newBox, Cond.code yX3_newBox cX3_newBox 4 (some .boolean), Cond.fieldLink RX3 9 "BenchRuns$Stock" "boxTools" "[I", Cond.fieldLink RX3 19 "BenchRuns$Stock" "boxSize" "I", Cond.fieldLink RX3 22 "BenchRuns$Stock" "boxSort" "I", Cond.methodLink RX6 227 yX3_newGrid, Cond.instanceMethod yX3_newGrid, Cond.selects RX3 yX3_newGrid yX3_newGrid, Cond.code yX3_newGrid cX3_newGrid 3 (some .boolean), Cond.fieldLink RX3 25 "BenchRuns$Stock" "gridRows" "I", Cond.fieldLink RX3 28 "BenchRuns$Stock" "gridRowSize" "I", Cond.methodLink RX6 230 yX6_putTool, Cond.instanceMethod yX6_putTool, Cond.selects RX6 yX6_putTool yX6_putTool, Cond.code yX6_putTool cX6_putTool 4 (some (.object "BenchRuns$Way")), Cond.fieldLink RX6 92 "BenchRuns$Stock" "boxSize" "I"]
def wsX6_doRound_r5 : List Cond := [Cond.fieldLink RX6 95 "BenchRuns$Stock" "boxTools" "[I", Cond.methodLink RX6 236 yX3_boxTakes, Cond.instanceMethod yX3_boxTakes, Cond.selects RX3 yX3_boxTakes yX3_boxTakes, Cond.code yX3_boxTakes cX3_boxTakes 2 (some .boolean), Cond.methodLink RX6 89 yX3_sizeOf, Cond.instanceMethod yX3_sizeOf, Cond.selects RX3 yX3_sizeOf yX3_sizeOf, Cond.code yX3_sizeOf cX3_sizeOf 2 (some .int), Cond.methodLink RX6 233 yX1_failAsLaid, Cond.instanceMethod yX1_failAsLaid, Cond.selects RX1 yX1_failAsLaid yX1_failAsLaid, Cond.code yX1_failAsLaid cX1_failAsLaid 2 (some (.object "BenchRuns$Way"))]
def wsX6_doRound : List Cond := .code yX6_doRound cX6_doRound 3 (some (.object "BenchRuns$Way")) :: ((wsX6_doRound_r1 ++ (wsX6_doRound_r2 ++ (wsX6_doRound_r3 ++ (wsX6_doRound_r4 ++ wsX6_doRound_r5)))) ++ wsX20 ++ wsX60 ++ wsX10 ++ wsX40 ++ wsX30)
def wsX6_takeFailure : List Cond := .code yX6_takeFailure cX6_takeFailure 3 (some (.object "BenchRuns$Way")) :: ([.fieldLink RX6 38 "BenchRuns" "log" "LBenchRuns$Log;", .fieldLink RX6 145 "BenchRuns$Way" "ONWARD" "LBenchRuns$Way;", .fieldLink RX6 104 "BenchRuns$Way" "FAILURE" "LBenchRuns$Way;", .methodLink RX6 168 yX1_noteFailure, .instanceMethod yX1_noteFailure, .selects RX1 yX1_noteFailure yX1_noteFailure, .initialized RX1, .code yX1_noteFailure cX1_noteFailure 1 none, .fieldLink RX1 31 "BenchRuns$Log" "chainLength" "I", .fieldLink RX1 25 "BenchRuns$Log" "notedCount" "I", .fieldLink RX1 22 "BenchRuns$Log" "notedNumbers" "[I", .fieldLink RX1 28 "BenchRuns$Log" "chain" "[I", .methodLink RX6 110 yX1_failInStead, .instanceMethod yX1_failInStead, .selects RX1 yX1_failInStead yX1_failInStead, .code yX1_failInStead cX1_failInStead 2 none] ++ wsX60 ++ wsX10)
def wsX6_doBatch_r1 : List Cond := [Cond.fieldLink RX6 145 "BenchRuns$Way" "ONWARD" "LBenchRuns$Way;", Cond.fieldLink RX6 38 "BenchRuns" "log" "LBenchRuns$Log;", Cond.fieldLink RX6 56 "BenchRuns$Batch" "roundCount" "I", Cond.fieldLink RX6 69 "BenchRuns$Batch" "rounds" "[LBenchRuns$Round;", Cond.fieldLink RX6 155 "BenchRuns$Way" "SKIP" "LBenchRuns$Way;", Cond.fieldLink RX6 104 "BenchRuns$Way" "FAILURE" "LBenchRuns$Way;", Cond.fieldLink RX6 158 "BenchRuns$Batch" "mode" "I", Cond.fieldLink RX6 165 "BenchRuns$Way" "BREAK" "LBenchRuns$Way;", Cond.methodLink RX6 148 yX1_mark, Cond.instanceMethod yX1_mark, Cond.selects RX1 yX1_mark yX1_mark, Cond.initialized RX1, Cond.code yX1_mark cX1_mark 2 none, Cond.fieldLink RX1 9 "BenchRuns$Log" "countOf" "[I", Cond.fieldLink RX1 18 "BenchRuns$Log" "eventCount" "I", Cond.fieldLink RX1 15 "BenchRuns$Log" "events" "[I", Cond.methodLink RX6 151 yX6_doRound, Cond.instanceMethod yX6_doRound, Cond.selects RX6 yX6_doRound yX6_doRound, Cond.initialized RX6, Cond.code yX6_doRound cX6_doRound 3 (some (.object "BenchRuns$Way")), Cond.fieldLink RX6 171 "BenchRuns$Round" "vial" "I", Cond.fieldLink RX6 9 "BenchRuns" "vialDrops" "[I", Cond.methodLink RX6 174 yX1_fail]
def wsX6_doBatch_r2 : List Cond := [Cond.instanceMethod yX1_fail, Cond.selects RX1 yX1_fail yX1_fail, Cond.code yX1_fail cX1_fail 3 (some (.object "BenchRuns$Way")), Cond.fieldLink RX1 28 "BenchRuns$Log" "chain" "[I", Cond.fieldLink RX1 31 "BenchRuns$Log" "chainLength" "I", Cond.fieldLink RX1 34 "BenchRuns$Way" "FAILURE" "LBenchRuns$Way;", Cond.methodLink RX6 178 yX6_doSteps, Cond.instanceMethod yX6_doSteps, Cond.selects RX6 yX6_doSteps yX6_doSteps, Cond.code yX6_doSteps cX6_doSteps 8 (some (.object "BenchRuns$Way")), Cond.fieldLink RX6 181 "BenchRuns$Round" "stepCount" "I", Cond.fieldLink RX6 131 "BenchRuns$Log" "countOf" "[I", Cond.fieldLink RX6 116 "BenchRuns$Way" "TIRED" "LBenchRuns$Way;", Cond.fieldLink RX6 184 "BenchRuns$Round" "kinds" "[I", Cond.fieldLink RX6 187 "BenchRuns$Round" "numbers" "[I", Cond.fieldLink RX6 198 "BenchRuns$Way" "ANEW" "LBenchRuns$Way;", Cond.methodLink RX6 190 yX6_doVialStep, Cond.instanceMethod yX6_doVialStep, Cond.selects RX6 yX6_doVialStep yX6_doVialStep, Cond.code yX6_doVialStep cX6_doVialStep 5 (some (.object "BenchRuns$Way")), Cond.fieldLink RX6 42 "BenchRuns" "stoppedBy" "I", Cond.fieldLink RX6 113 "BenchRuns$Way" "STOP" "LBenchRuns$Way;", Cond.methodLink RX6 201 yX6_addDrops, Cond.instanceMethod yX6_addDrops]
def wsX6_doBatch_r3 : List Cond := [Cond.selects RX6 yX6_addDrops yX6_addDrops, Cond.code yX6_addDrops cX6_addDrops 3 (some (.object "BenchRuns$Way")), Cond.methodLink RX6 204 yX6_drawDrops, Cond.instanceMethod yX6_drawDrops, Cond.selects RX6 yX6_drawDrops yX6_drawDrops, Cond.code yX6_drawDrops cX6_drawDrops 3 (some (.object "BenchRuns$Way")), Cond.methodLink RX6 207 yX6_shareDrops, Cond.instanceMethod yX6_shareDrops, Cond.selects RX6 yX6_shareDrops yX6_shareDrops, Cond.code yX6_shareDrops cX6_shareDrops 3 (some (.object "BenchRuns$Way")), Cond.methodLink RX6 210 yX6_pourDrops, Cond.instanceMethod yX6_pourDrops, Cond.selects RX6 yX6_pourDrops yX6_pourDrops, Cond.code yX6_pourDrops cX6_pourDrops 3 (some (.object "BenchRuns$Way")), Cond.methodLink RX6 194 yX6_doBenchStep, Cond.instanceMethod yX6_doBenchStep, Cond.selects RX6 yX6_doBenchStep yX6_doBenchStep, Cond.code yX6_doBenchStep cX6_doBenchStep 4 (some (.object "BenchRuns$Way")), Cond.fieldLink RX6 31 "BenchRuns" "stock" "LBenchRuns$Stock;", Cond.fieldLink RX6 25 "BenchRuns" "laid" "[I", Cond.methodLink RX6 213 yX6_useTool, Cond.instanceMethod yX6_useTool, Cond.selects RX6 yX6_useTool yX6_useTool, Cond.code yX6_useTool cX6_useTool 2 (some (.object "BenchRuns$Way"))]
def wsX6_doBatch_r4 : List Cond := [Cond.fieldLink RX6 21 "BenchRuns" "tools" "[LBenchRuns$Tool;", Cond.fieldLink RX6 79 "BenchRuns$Tool" "sort" "I", Cond.fieldLink RX6 86 "BenchRuns$Tool" "uses" "I", Cond.methodLink RX6 216 yX6_gripTool, Cond.instanceMethod yX6_gripTool, Cond.selects RX6 yX6_gripTool yX6_gripTool, Cond.code yX6_gripTool cX6_gripTool 3 (some (.object "BenchRuns$Way")), Cond.fieldLink RX6 83 "BenchRuns$Tool" "grip" "I", Cond.methodLink RX6 219 yX3_newRack, Cond.instanceMethod yX3_newRack, Cond.selects RX3 yX3_newRack yX3_newRack, Cond.initialized RX3, Cond.code yX3_newRack cX3_newRack 2 (some .boolean), Cond.fieldLink RX3 15 "BenchRuns$Stock" "rackSize" "I", Cond.methodLink RX6 223 yX3_newBox, Cond.instanceMethod yX3_newBox, Cond.selects RX3 yX3_newBox yX3_newBox, Cond.code yX3_newBox cX3_newBox 4 (some .boolean), Cond.fieldLink RX3 9 "BenchRuns$Stock" "boxTools" "[I", Cond.fieldLink RX3 19 "BenchRuns$Stock" "boxSize" "I", Cond.fieldLink RX3 22 "BenchRuns$Stock" "boxSort" "I", Cond.methodLink RX6 227 yX3_newGrid, Cond.instanceMethod yX3_newGrid, Cond.selects RX3 yX3_newGrid yX3_newGrid]
def wsX6_doBatch_r5 : List Cond := [Cond.code yX3_newGrid cX3_newGrid 3 (some .boolean), Cond.fieldLink RX3 25 "BenchRuns$Stock" "gridRows" "I", Cond.fieldLink RX3 28 "BenchRuns$Stock" "gridRowSize" "I", Cond.methodLink RX6 230 yX6_putTool, Cond.instanceMethod yX6_putTool, Cond.selects RX6 yX6_putTool yX6_putTool, Cond.code yX6_putTool cX6_putTool 4 (some (.object "BenchRuns$Way")), Cond.fieldLink RX6 92 "BenchRuns$Stock" "boxSize" "I", Cond.fieldLink RX6 95 "BenchRuns$Stock" "boxTools" "[I", Cond.methodLink RX6 236 yX3_boxTakes, Cond.instanceMethod yX3_boxTakes, Cond.selects RX3 yX3_boxTakes yX3_boxTakes, Cond.code yX3_boxTakes cX3_boxTakes 2 (some .boolean), Cond.methodLink RX6 89 yX3_sizeOf, Cond.instanceMethod yX3_sizeOf, Cond.selects RX3 yX3_sizeOf yX3_sizeOf, Cond.code yX3_sizeOf cX3_sizeOf 2 (some .int), Cond.methodLink RX6 233 yX1_failAsLaid, Cond.instanceMethod yX1_failAsLaid, Cond.selects RX1 yX1_failAsLaid yX1_failAsLaid, Cond.code yX1_failAsLaid cX1_failAsLaid 2 (some (.object "BenchRuns$Way")), Cond.methodLink RX6 161 yX6_takeFailure, Cond.instanceMethod yX6_takeFailure, Cond.selects RX6 yX6_takeFailure yX6_takeFailure]
def wsX6_doBatch_r6 : List Cond := [Cond.code yX6_takeFailure cX6_takeFailure 3 (some (.object "BenchRuns$Way")), Cond.methodLink RX6 168 yX1_noteFailure, Cond.instanceMethod yX1_noteFailure, Cond.selects RX1 yX1_noteFailure yX1_noteFailure, Cond.code yX1_noteFailure cX1_noteFailure 1 none, Cond.fieldLink RX1 25 "BenchRuns$Log" "notedCount" "I", Cond.fieldLink RX1 22 "BenchRuns$Log" "notedNumbers" "[I", Cond.methodLink RX6 110 yX1_failInStead, Cond.instanceMethod yX1_failInStead, Cond.selects RX1 yX1_failInStead yX1_failInStead, Cond.code yX1_failInStead cX1_failInStead 2 none]
def wsX6_doBatch : List Cond := .code yX6_doBatch cX6_doBatch 4 (some (.object "BenchRuns$Way")) :: ((wsX6_doBatch_r1 ++ (wsX6_doBatch_r2 ++ (wsX6_doBatch_r3 ++ (wsX6_doBatch_r4 ++ (wsX6_doBatch_r5 ++ wsX6_doBatch_r6))))) ++ wsX60 ++ wsX00 ++ wsX10 ++ wsX20 ++ wsX40 ++ wsX30)
def wsX6_run_r1 : List Cond := [Cond.fieldLink RX6 38 "BenchRuns" "log" "LBenchRuns$Log;", Cond.fieldLink RX6 15 "BenchRuns" "batches" "[LBenchRuns$Batch;", Cond.fieldLink RX6 104 "BenchRuns$Way" "FAILURE" "LBenchRuns$Way;", Cond.fieldLink RX6 113 "BenchRuns$Way" "STOP" "LBenchRuns$Way;", Cond.fieldLink RX6 42 "BenchRuns" "stoppedBy" "I", Cond.fieldLink RX6 116 "BenchRuns$Way" "TIRED" "LBenchRuns$Way;", Cond.methodLink RX6 48 yX6_within, Cond.static yX6_within, Cond.initialized RX6, Cond.code yX6_within cX6_within 3 (some .boolean), Cond.methodLink RX6 98 yX1_beginAnew, Cond.instanceMethod yX1_beginAnew, Cond.selects RX1 yX1_beginAnew yX1_beginAnew, Cond.initialized RX1, Cond.code yX1_beginAnew cX1_beginAnew 2 none, Cond.fieldLink RX1 9 "BenchRuns$Log" "countOf" "[I", Cond.fieldLink RX1 18 "BenchRuns$Log" "eventCount" "I", Cond.fieldLink RX1 25 "BenchRuns$Log" "notedCount" "I", Cond.fieldLink RX1 31 "BenchRuns$Log" "chainLength" "I", Cond.methodLink RX6 100 yX6_doBatch, Cond.instanceMethod yX6_doBatch, Cond.selects RX6 yX6_doBatch yX6_doBatch, Cond.code yX6_doBatch cX6_doBatch 4 (some (.object "BenchRuns$Way")), Cond.fieldLink RX6 145 "BenchRuns$Way" "ONWARD" "LBenchRuns$Way;"]
def wsX6_run_r2 : List Cond := [Cond.fieldLink RX6 56 "BenchRuns$Batch" "roundCount" "I", Cond.fieldLink RX6 69 "BenchRuns$Batch" "rounds" "[LBenchRuns$Round;", Cond.fieldLink RX6 155 "BenchRuns$Way" "SKIP" "LBenchRuns$Way;", Cond.fieldLink RX6 158 "BenchRuns$Batch" "mode" "I", Cond.fieldLink RX6 165 "BenchRuns$Way" "BREAK" "LBenchRuns$Way;", Cond.methodLink RX6 148 yX1_mark, Cond.instanceMethod yX1_mark, Cond.selects RX1 yX1_mark yX1_mark, Cond.code yX1_mark cX1_mark 2 none, Cond.fieldLink RX1 15 "BenchRuns$Log" "events" "[I", Cond.methodLink RX6 151 yX6_doRound, Cond.instanceMethod yX6_doRound, Cond.selects RX6 yX6_doRound yX6_doRound, Cond.code yX6_doRound cX6_doRound 3 (some (.object "BenchRuns$Way")), Cond.fieldLink RX6 171 "BenchRuns$Round" "vial" "I", Cond.fieldLink RX6 9 "BenchRuns" "vialDrops" "[I", Cond.methodLink RX6 174 yX1_fail, Cond.instanceMethod yX1_fail, Cond.selects RX1 yX1_fail yX1_fail, Cond.code yX1_fail cX1_fail 3 (some (.object "BenchRuns$Way")), Cond.fieldLink RX1 28 "BenchRuns$Log" "chain" "[I", Cond.fieldLink RX1 34 "BenchRuns$Way" "FAILURE" "LBenchRuns$Way;", Cond.methodLink RX6 178 yX6_doSteps, Cond.instanceMethod yX6_doSteps]
def wsX6_run_r3 : List Cond := [Cond.selects RX6 yX6_doSteps yX6_doSteps, Cond.code yX6_doSteps cX6_doSteps 8 (some (.object "BenchRuns$Way")), Cond.fieldLink RX6 181 "BenchRuns$Round" "stepCount" "I", Cond.fieldLink RX6 131 "BenchRuns$Log" "countOf" "[I", Cond.fieldLink RX6 184 "BenchRuns$Round" "kinds" "[I", Cond.fieldLink RX6 187 "BenchRuns$Round" "numbers" "[I", Cond.fieldLink RX6 198 "BenchRuns$Way" "ANEW" "LBenchRuns$Way;", Cond.methodLink RX6 190 yX6_doVialStep, Cond.instanceMethod yX6_doVialStep, Cond.selects RX6 yX6_doVialStep yX6_doVialStep, Cond.code yX6_doVialStep cX6_doVialStep 5 (some (.object "BenchRuns$Way")), Cond.methodLink RX6 201 yX6_addDrops, Cond.instanceMethod yX6_addDrops, Cond.selects RX6 yX6_addDrops yX6_addDrops, Cond.code yX6_addDrops cX6_addDrops 3 (some (.object "BenchRuns$Way")), Cond.methodLink RX6 204 yX6_drawDrops, Cond.instanceMethod yX6_drawDrops, Cond.selects RX6 yX6_drawDrops yX6_drawDrops, Cond.code yX6_drawDrops cX6_drawDrops 3 (some (.object "BenchRuns$Way")), Cond.methodLink RX6 207 yX6_shareDrops, Cond.instanceMethod yX6_shareDrops, Cond.selects RX6 yX6_shareDrops yX6_shareDrops, Cond.code yX6_shareDrops cX6_shareDrops 3 (some (.object "BenchRuns$Way")), Cond.methodLink RX6 210 yX6_pourDrops]
def wsX6_run_r4 : List Cond := [Cond.instanceMethod yX6_pourDrops, Cond.selects RX6 yX6_pourDrops yX6_pourDrops, Cond.code yX6_pourDrops cX6_pourDrops 3 (some (.object "BenchRuns$Way")), Cond.methodLink RX6 194 yX6_doBenchStep, Cond.instanceMethod yX6_doBenchStep, Cond.selects RX6 yX6_doBenchStep yX6_doBenchStep, Cond.code yX6_doBenchStep cX6_doBenchStep 4 (some (.object "BenchRuns$Way")), Cond.fieldLink RX6 31 "BenchRuns" "stock" "LBenchRuns$Stock;", Cond.fieldLink RX6 25 "BenchRuns" "laid" "[I", Cond.methodLink RX6 213 yX6_useTool, Cond.instanceMethod yX6_useTool, Cond.selects RX6 yX6_useTool yX6_useTool, Cond.code yX6_useTool cX6_useTool 2 (some (.object "BenchRuns$Way")), Cond.fieldLink RX6 21 "BenchRuns" "tools" "[LBenchRuns$Tool;", Cond.fieldLink RX6 79 "BenchRuns$Tool" "sort" "I", Cond.fieldLink RX6 86 "BenchRuns$Tool" "uses" "I", Cond.methodLink RX6 216 yX6_gripTool, Cond.instanceMethod yX6_gripTool, Cond.selects RX6 yX6_gripTool yX6_gripTool, Cond.code yX6_gripTool cX6_gripTool 3 (some (.object "BenchRuns$Way")), Cond.fieldLink RX6 83 "BenchRuns$Tool" "grip" "I", Cond.methodLink RX6 219 yX3_newRack, Cond.instanceMethod yX3_newRack, Cond.selects RX3 yX3_newRack yX3_newRack]
def wsX6_run_r5 : List Cond := [Cond.initialized RX3, Cond.code yX3_newRack cX3_newRack 2 (some .boolean), Cond.fieldLink RX3 15 "BenchRuns$Stock" "rackSize" "I", Cond.methodLink RX6 223 yX3_newBox, Cond.instanceMethod yX3_newBox, Cond.selects RX3 yX3_newBox yX3_newBox, Cond.code yX3_newBox cX3_newBox 4 (some .boolean), Cond.fieldLink RX3 9 "BenchRuns$Stock" "boxTools" "[I", Cond.fieldLink RX3 19 "BenchRuns$Stock" "boxSize" "I", Cond.fieldLink RX3 22 "BenchRuns$Stock" "boxSort" "I", Cond.methodLink RX6 227 yX3_newGrid, Cond.instanceMethod yX3_newGrid, Cond.selects RX3 yX3_newGrid yX3_newGrid, Cond.code yX3_newGrid cX3_newGrid 3 (some .boolean), Cond.fieldLink RX3 25 "BenchRuns$Stock" "gridRows" "I", Cond.fieldLink RX3 28 "BenchRuns$Stock" "gridRowSize" "I", Cond.methodLink RX6 230 yX6_putTool, Cond.instanceMethod yX6_putTool, Cond.selects RX6 yX6_putTool yX6_putTool, Cond.code yX6_putTool cX6_putTool 4 (some (.object "BenchRuns$Way")), Cond.fieldLink RX6 92 "BenchRuns$Stock" "boxSize" "I", Cond.fieldLink RX6 95 "BenchRuns$Stock" "boxTools" "[I", Cond.methodLink RX6 236 yX3_boxTakes, Cond.instanceMethod yX3_boxTakes]
def wsX6_run_r6 : List Cond := [Cond.selects RX3 yX3_boxTakes yX3_boxTakes, Cond.code yX3_boxTakes cX3_boxTakes 2 (some .boolean), Cond.methodLink RX6 89 yX3_sizeOf, Cond.instanceMethod yX3_sizeOf, Cond.selects RX3 yX3_sizeOf yX3_sizeOf, Cond.code yX3_sizeOf cX3_sizeOf 2 (some .int), Cond.methodLink RX6 233 yX1_failAsLaid, Cond.instanceMethod yX1_failAsLaid, Cond.selects RX1 yX1_failAsLaid yX1_failAsLaid, Cond.code yX1_failAsLaid cX1_failAsLaid 2 (some (.object "BenchRuns$Way")), Cond.methodLink RX6 161 yX6_takeFailure, Cond.instanceMethod yX6_takeFailure, Cond.selects RX6 yX6_takeFailure yX6_takeFailure, Cond.code yX6_takeFailure cX6_takeFailure 3 (some (.object "BenchRuns$Way")), Cond.methodLink RX6 168 yX1_noteFailure, Cond.instanceMethod yX1_noteFailure, Cond.selects RX1 yX1_noteFailure yX1_noteFailure, Cond.code yX1_noteFailure cX1_noteFailure 1 none, Cond.fieldLink RX1 22 "BenchRuns$Log" "notedNumbers" "[I", Cond.methodLink RX6 110 yX1_failInStead, Cond.instanceMethod yX1_failInStead, Cond.selects RX1 yX1_failInStead yX1_failInStead, Cond.code yX1_failInStead cX1_failInStead 2 none]
def wsX6_run : List Cond := .code yX6_run cX6_run 6 (some .int) :: ((wsX6_run_r1 ++ (wsX6_run_r2 ++ (wsX6_run_r3 ++ (wsX6_run_r4 ++ (wsX6_run_r5 ++ wsX6_run_r6))))) ++ wsX60 ++ wsX10 ++ wsX00 ++ wsX20 ++ wsX40 ++ wsX30)
def wsX6_why : List Cond := .code yX6_why cX6_why 2 (some .int) :: ([.fieldLink RX6 38 "BenchRuns" "log" "LBenchRuns$Log;", .fieldLink RX6 119 "BenchRuns$Log" "chainLength" "I", .fieldLink RX6 122 "BenchRuns$Log" "chain" "[I", .methodLink RX6 48 yX6_within, .static yX6_within, .initialized RX6, .code yX6_within cX6_within 3 (some .boolean)] ++ wsX60 ++ wsX10)
def wsX6_told : List Cond := .code yX6_told cX6_told 2 (some .int) :: ([.fieldLink RX6 38 "BenchRuns" "log" "LBenchRuns$Log;", .fieldLink RX6 125 "BenchRuns$Log" "eventCount" "I", .fieldLink RX6 128 "BenchRuns$Log" "notedCount" "I", .fieldLink RX6 131 "BenchRuns$Log" "countOf" "[I", .methodLink RX6 48 yX6_within, .static yX6_within, .initialized RX6, .code yX6_within cX6_within 3 (some .boolean)] ++ wsX60 ++ wsX10)
def wsX6_trace : List Cond := .code yX6_trace cX6_trace 2 (some .int) :: ([.fieldLink RX6 38 "BenchRuns" "log" "LBenchRuns$Log;", .fieldLink RX6 125 "BenchRuns$Log" "eventCount" "I", .methodLink RX6 134 Lib.Math.min.name, .static Lib.Math.min.name, .initialized "java/lang/Math", .code Lib.Math.min.name Lib.Math.min.code 2 (some .int), .fieldLink RX6 139 "BenchRuns$Log" "events" "[I", .methodLink RX6 48 yX6_within, .static yX6_within, .initialized RX6, .code yX6_within cX6_within 3 (some .boolean)] ++ wsX60 ++ wsX10)
def wsX6_noted : List Cond := .code yX6_noted cX6_noted 2 (some .int) :: ([.fieldLink RX6 38 "BenchRuns" "log" "LBenchRuns$Log;", .fieldLink RX6 128 "BenchRuns$Log" "notedCount" "I", .fieldLink RX6 142 "BenchRuns$Log" "notedNumbers" "[I", .methodLink RX6 48 yX6_within, .static yX6_within, .initialized RX6, .code yX6_within cX6_within 3 (some .boolean)] ++ wsX60 ++ wsX10)
def wsX6_drops : List Cond := .code yX6_drops cX6_drops 2 (some .int) :: ([.fieldLink RX6 9 "BenchRuns" "vialDrops" "[I", .methodLink RX6 48 yX6_within, .static yX6_within, .initialized RX6, .code yX6_within cX6_within 3 (some .boolean), .methodLink RX6 52 yX6_orNone, .static yX6_orNone, .code yX6_orNone cX6_orNone 1 (some .int)] ++ wsX60)
def wsX6_sum : List Cond := .code yX6_sum cX6_sum 6 (some .int) :: ([.fieldLink RX6 9 "BenchRuns" "vialDrops" "[I"] ++ wsX60)
def wsX7_init_r1 : List Cond := [Cond.methodLink RX7 1 objectInit, Cond.instanceMethod objectInit, Cond.code objectInit ⟨#[0xb1]⟩ 1 none, Cond.arrayClass .boolean, Cond.fieldLink RX7 7 "BenchRunsModel" "isVial" "[Z", Cond.arrayClass .int, Cond.fieldLink RX7 13 "BenchRunsModel" "drops" "[I", Cond.fieldLink RX7 17 "BenchRunsModel" "mode" "[I", Cond.fieldLink RX7 20 "BenchRunsModel" "rounds" "[I", Cond.fieldLink RX7 23 "BenchRunsModel" "vialOf" "[I", Cond.fieldLink RX7 26 "BenchRunsModel" "steps" "[I", Cond.fieldLink RX7 29 "BenchRunsModel" "kinds" "[I", Cond.fieldLink RX7 32 "BenchRunsModel" "numbers" "[I", Cond.fieldLink RX7 35 "BenchRunsModel" "sort" "[I", Cond.fieldLink RX7 38 "BenchRunsModel" "uses" "[I", Cond.fieldLink RX7 41 "BenchRunsModel" "grips" "[I", Cond.fieldLink RX7 44 "BenchRunsModel" "rack" "I", Cond.fieldLink RX7 48 "BenchRunsModel" "boxSize" "I", Cond.fieldLink RX7 51 "BenchRunsModel" "box" "[I", Cond.fieldLink RX7 54 "BenchRunsModel" "gridRows" "I", Cond.fieldLink RX7 57 "BenchRunsModel" "laid" "[I", Cond.fieldLink RX7 60 "BenchRunsModel" "told" "[I", Cond.fieldLink RX7 63 "BenchRunsModel" "trace" "[I", Cond.fieldLink RX7 66 "BenchRunsModel" "noted" "[I"]
def wsX7_init_r2 : List Cond := [Cond.fieldLink RX7 69 "BenchRunsModel" "why" "[I"]
def wsX7_init : List Cond := .code yX7_init cX7_init 2 none :: ((wsX7_init_r1 ++ wsX7_init_r2) ++ wsX70)
def wsX7_in : List Cond := .code yX7_in cX7_in 3 (some .boolean) :: ([])
def wsX7_isBatch : List Cond := .code yX7_isBatch cX7_isBatch 1 (some .boolean) :: ([.methodLink RX7 75 yX7_in, .static yX7_in, .initialized RX7, .code yX7_in cX7_in 3 (some .boolean)])
def wsX7_vial : List Cond := .code yX7_vial cX7_vial 4 (some .int) :: ([.fieldLink RX7 72 "BenchRunsModel" "thrown" "I", .fieldLink RX7 7 "BenchRunsModel" "isVial" "[Z", .fieldLink RX7 13 "BenchRunsModel" "drops" "[I", .methodLink RX7 75 yX7_in, .static yX7_in, .initialized RX7, .code yX7_in cX7_in 3 (some .boolean)] ++ wsX70)
def wsX7_batch : List Cond := .code yX7_batch cX7_batch 4 (some .int) :: ([.fieldLink RX7 72 "BenchRunsModel" "thrown" "I", .fieldLink RX7 20 "BenchRunsModel" "rounds" "[I", .fieldLink RX7 17 "BenchRunsModel" "mode" "[I", .methodLink RX7 79 yX7_isBatch, .static yX7_isBatch, .initialized RX7, .code yX7_isBatch cX7_isBatch 1 (some .boolean), .methodLink RX7 75 yX7_in, .static yX7_in, .code yX7_in cX7_in 3 (some .boolean)] ++ wsX70)
def wsX7_round : List Cond := .code yX7_round cX7_round 4 (some .int) :: ([.fieldLink RX7 72 "BenchRunsModel" "thrown" "I", .fieldLink RX7 20 "BenchRunsModel" "rounds" "[I", .fieldLink RX7 23 "BenchRunsModel" "vialOf" "[I", .fieldLink RX7 26 "BenchRunsModel" "steps" "[I", .methodLink RX7 79 yX7_isBatch, .static yX7_isBatch, .initialized RX7, .code yX7_isBatch cX7_isBatch 1 (some .boolean), .methodLink RX7 75 yX7_in, .static yX7_in, .code yX7_in cX7_in 3 (some .boolean)] ++ wsX70)
def wsX7_most : List Cond := .code yX7_most cX7_most 1 (some .int) :: ([])
def wsX7_step : List Cond := .code yX7_step cX7_step 5 (some .int) :: ([.fieldLink RX7 72 "BenchRunsModel" "thrown" "I", .fieldLink RX7 20 "BenchRunsModel" "rounds" "[I", .fieldLink RX7 26 "BenchRunsModel" "steps" "[I", .fieldLink RX7 29 "BenchRunsModel" "kinds" "[I", .fieldLink RX7 32 "BenchRunsModel" "numbers" "[I", .methodLink RX7 79 yX7_isBatch, .static yX7_isBatch, .initialized RX7, .code yX7_isBatch cX7_isBatch 1 (some .boolean), .methodLink RX7 75 yX7_in, .static yX7_in, .code yX7_in cX7_in 3 (some .boolean), .methodLink RX7 83 yX7_most, .static yX7_most, .code yX7_most cX7_most 1 (some .int)] ++ wsX70)
def wsX7_tool : List Cond := .code yX7_tool cX7_tool 4 (some .int) :: ([.fieldLink RX7 72 "BenchRunsModel" "thrown" "I", .fieldLink RX7 35 "BenchRunsModel" "sort" "[I", .fieldLink RX7 38 "BenchRunsModel" "uses" "[I", .fieldLink RX7 41 "BenchRunsModel" "grips" "[I", .methodLink RX7 75 yX7_in, .static yX7_in, .initialized RX7, .code yX7_in cX7_in 3 (some .boolean)] ++ wsX70)
def wsX7_lay : List Cond := .code yX7_lay cX7_lay 4 (some .int) :: ([.fieldLink RX7 72 "BenchRunsModel" "thrown" "I", .fieldLink RX7 57 "BenchRunsModel" "laid" "[I", .methodLink RX7 75 yX7_in, .static yX7_in, .initialized RX7, .code yX7_in cX7_in 3 (some .boolean)] ++ wsX70)
def wsX7_about : List Cond := .code yX7_about cX7_about 3 (some .int) :: ([.fieldLink RX7 72 "BenchRunsModel" "thrown" "I", .fieldLink RX7 35 "BenchRunsModel" "sort" "[I", .fieldLink RX7 38 "BenchRunsModel" "uses" "[I", .fieldLink RX7 41 "BenchRunsModel" "grips" "[I", .methodLink RX7 75 yX7_in, .static yX7_in, .initialized RX7, .code yX7_in cX7_in 3 (some .boolean)] ++ wsX70)
def wsX7_places : List Cond := .code yX7_places cX7_places 3 (some .int) :: ([.fieldLink RX7 72 "BenchRunsModel" "thrown" "I", .fieldLink RX7 44 "BenchRunsModel" "rack" "I", .fieldLink RX7 48 "BenchRunsModel" "boxSize" "I", .fieldLink RX7 54 "BenchRunsModel" "gridRows" "I", .fieldLink RX7 87 "BenchRunsModel" "gridWide" "I", .methodLink RX7 75 yX7_in, .static yX7_in, .initialized RX7, .code yX7_in cX7_in 3 (some .boolean)] ++ wsX70)
def wsX7_box : List Cond := .code yX7_box cX7_box 2 (some .int) :: ([.fieldLink RX7 72 "BenchRunsModel" "thrown" "I", .fieldLink RX7 48 "BenchRunsModel" "boxSize" "I", .fieldLink RX7 51 "BenchRunsModel" "box" "[I", .methodLink RX7 75 yX7_in, .static yX7_in, .initialized RX7, .code yX7_in cX7_in 3 (some .boolean)] ++ wsX70)
def wsX7_mark : List Cond := .code yX7_mark cX7_mark 2 none :: ([.fieldLink RX7 60 "BenchRunsModel" "told" "[I", .fieldLink RX7 63 "BenchRunsModel" "trace" "[I"] ++ wsX70)
def wsX7_fails : List Cond := .code yX7_fails cX7_fails 2 (some .int) :: ([.fieldLink RX7 90 "BenchRunsModel" "failure" "I", .fieldLink RX7 93 "BenchRunsModel" "isMachines" "Z", .methodLink RX7 75 yX7_in, .static yX7_in, .initialized RX7, .code yX7_in cX7_in 3 (some .boolean)] ++ wsX70)
def wsX7_more : List Cond := .code yX7_more cX7_more 3 (some .int) :: ([.fieldLink RX7 13 "BenchRunsModel" "drops" "[I", .methodLink RX7 97 yX7_fails, .instanceMethod yX7_fails, .selects RX7 yX7_fails yX7_fails, .initialized RX7, .code yX7_fails cX7_fails 2 (some .int), .fieldLink RX7 90 "BenchRunsModel" "failure" "I", .fieldLink RX7 93 "BenchRunsModel" "isMachines" "Z", .methodLink RX7 75 yX7_in, .static yX7_in, .code yX7_in cX7_in 3 (some .boolean)] ++ wsX70)
def wsX7_pours : List Cond := .code yX7_pours cX7_pours 3 (some .int) :: ([.fieldLink RX7 7 "BenchRunsModel" "isVial" "[Z", .fieldLink RX7 13 "BenchRunsModel" "drops" "[I", .methodLink RX7 97 yX7_fails, .instanceMethod yX7_fails, .selects RX7 yX7_fails yX7_fails, .initialized RX7, .code yX7_fails cX7_fails 2 (some .int), .fieldLink RX7 90 "BenchRunsModel" "failure" "I", .fieldLink RX7 93 "BenchRunsModel" "isMachines" "Z", .methodLink RX7 75 yX7_in, .static yX7_in, .code yX7_in cX7_in 3 (some .boolean)] ++ wsX70)
def wsX7_grips : List Cond := .code yX7_grips cX7_grips 3 (some .int) :: ([.fieldLink RX7 35 "BenchRunsModel" "sort" "[I", .fieldLink RX7 41 "BenchRunsModel" "grips" "[I", .fieldLink RX7 13 "BenchRunsModel" "drops" "[I", .methodLink RX7 97 yX7_fails, .instanceMethod yX7_fails, .selects RX7 yX7_fails yX7_fails, .initialized RX7, .code yX7_fails cX7_fails 2 (some .int), .fieldLink RX7 90 "BenchRunsModel" "failure" "I", .fieldLink RX7 93 "BenchRunsModel" "isMachines" "Z", .methodLink RX7 75 yX7_in, .static yX7_in, .code yX7_in cX7_in 3 (some .boolean)] ++ wsX70)
def wsX7_uses : List Cond := .code yX7_uses cX7_uses 2 (some .int) :: ([.fieldLink RX7 35 "BenchRunsModel" "sort" "[I", .fieldLink RX7 38 "BenchRunsModel" "uses" "[I", .methodLink RX7 97 yX7_fails, .instanceMethod yX7_fails, .selects RX7 yX7_fails yX7_fails, .initialized RX7, .code yX7_fails cX7_fails 2 (some .int), .fieldLink RX7 90 "BenchRunsModel" "failure" "I", .fieldLink RX7 93 "BenchRunsModel" "isMachines" "Z", .methodLink RX7 75 yX7_in, .static yX7_in, .code yX7_in cX7_in 3 (some .boolean)] ++ wsX70)
def wsX7_boxes : List Cond := .code yX7_boxes cX7_boxes 4 (some .int) :: ([.fieldLink RX7 48 "BenchRunsModel" "boxSize" "I", .fieldLink RX7 100 "BenchRunsModel" "boxSort" "I", .fieldLink RX7 51 "BenchRunsModel" "box" "[I", .methodLink RX7 97 yX7_fails, .instanceMethod yX7_fails, .selects RX7 yX7_fails yX7_fails, .initialized RX7, .code yX7_fails cX7_fails 2 (some .int), .fieldLink RX7 90 "BenchRunsModel" "failure" "I", .fieldLink RX7 93 "BenchRunsModel" "isMachines" "Z", .methodLink RX7 75 yX7_in, .static yX7_in, .code yX7_in cX7_in 3 (some .boolean)] ++ wsX70)
def wsX7_grids : List Cond := .code yX7_grids cX7_grids 3 (some .int) :: ([.fieldLink RX7 54 "BenchRunsModel" "gridRows" "I", .fieldLink RX7 87 "BenchRunsModel" "gridWide" "I", .methodLink RX7 97 yX7_fails, .instanceMethod yX7_fails, .selects RX7 yX7_fails yX7_fails, .initialized RX7, .code yX7_fails cX7_fails 2 (some .int), .fieldLink RX7 90 "BenchRunsModel" "failure" "I", .fieldLink RX7 93 "BenchRunsModel" "isMachines" "Z", .methodLink RX7 75 yX7_in, .static yX7_in, .code yX7_in cX7_in 3 (some .boolean)] ++ wsX70)
def wsX7_puts : List Cond := .code yX7_puts cX7_puts 3 (some .int) :: ([.fieldLink RX7 48 "BenchRunsModel" "boxSize" "I", .fieldLink RX7 35 "BenchRunsModel" "sort" "[I", .fieldLink RX7 100 "BenchRunsModel" "boxSort" "I", .fieldLink RX7 51 "BenchRunsModel" "box" "[I", .methodLink RX7 97 yX7_fails, .instanceMethod yX7_fails, .selects RX7 yX7_fails yX7_fails, .initialized RX7, .code yX7_fails cX7_fails 2 (some .int), .fieldLink RX7 90 "BenchRunsModel" "failure" "I", .fieldLink RX7 93 "BenchRunsModel" "isMachines" "Z", .methodLink RX7 75 yX7_in, .static yX7_in, .code yX7_in cX7_in 3 (some .boolean)] ++ wsX70)
def wsX7_counts : List Cond := .code yX7_counts cX7_counts 4 (some .int) :: ([.fieldLink RX7 44 "BenchRunsModel" "rack" "I", .fieldLink RX7 48 "BenchRunsModel" "boxSize" "I", .fieldLink RX7 54 "BenchRunsModel" "gridRows" "I", .methodLink RX7 97 yX7_fails, .instanceMethod yX7_fails, .selects RX7 yX7_fails yX7_fails, .initialized RX7, .code yX7_fails cX7_fails 2 (some .int), .fieldLink RX7 90 "BenchRunsModel" "failure" "I", .fieldLink RX7 93 "BenchRunsModel" "isMachines" "Z", .methodLink RX7 75 yX7_in, .static yX7_in, .code yX7_in cX7_in 3 (some .boolean), .methodLink RX7 103 yX7_more, .instanceMethod yX7_more, .selects RX7 yX7_more yX7_more, .code yX7_more cX7_more 3 (some .int), .fieldLink RX7 13 "BenchRunsModel" "drops" "[I"] ++ wsX70)
def wsX7_raises : List Cond := .code yX7_raises cX7_raises 2 (some .int) :: ([.fieldLink RX7 57 "BenchRunsModel" "laid" "[I", .fieldLink RX7 90 "BenchRunsModel" "failure" "I", .fieldLink RX7 93 "BenchRunsModel" "isMachines" "Z", .methodLink RX7 97 yX7_fails, .instanceMethod yX7_fails, .selects RX7 yX7_fails yX7_fails, .initialized RX7, .code yX7_fails cX7_fails 2 (some .int), .methodLink RX7 75 yX7_in, .static yX7_in, .code yX7_in cX7_in 3 (some .boolean)] ++ wsX70)
def wsX7_act_r1 : List Cond := [Cond.fieldLink RX7 13 "BenchRunsModel" "drops" "[I", Cond.fieldLink RX7 110 "BenchRunsModel" "stopped" "I", Cond.fieldLink RX7 113 "BenchRunsModel" "again" "I", Cond.fieldLink RX7 44 "BenchRunsModel" "rack" "I", Cond.methodLink RX7 103 yX7_more, Cond.instanceMethod yX7_more, Cond.selects RX7 yX7_more yX7_more, Cond.initialized RX7, Cond.code yX7_more cX7_more 3 (some .int), Cond.methodLink RX7 97 yX7_fails, Cond.instanceMethod yX7_fails, Cond.selects RX7 yX7_fails yX7_fails, Cond.code yX7_fails cX7_fails 2 (some .int), Cond.fieldLink RX7 90 "BenchRunsModel" "failure" "I", Cond.fieldLink RX7 93 "BenchRunsModel" "isMachines" "Z", Cond.methodLink RX7 75 yX7_in, Cond.static yX7_in, Cond.code yX7_in cX7_in 3 (some .boolean), Cond.methodLink RX7 107 yX7_pours, Cond.instanceMethod yX7_pours, Cond.selects RX7 yX7_pours yX7_pours, Cond.code yX7_pours cX7_pours 3 (some .int), Cond.fieldLink RX7 7 "BenchRunsModel" "isVial" "[Z", Cond.methodLink RX7 116 yX7_uses]
def wsX7_act_r2 : List Cond := [Cond.instanceMethod yX7_uses, Cond.selects RX7 yX7_uses yX7_uses, Cond.code yX7_uses cX7_uses 2 (some .int), Cond.fieldLink RX7 35 "BenchRunsModel" "sort" "[I", Cond.fieldLink RX7 38 "BenchRunsModel" "uses" "[I", Cond.methodLink RX7 118 yX7_grips, Cond.instanceMethod yX7_grips, Cond.selects RX7 yX7_grips yX7_grips, Cond.code yX7_grips cX7_grips 3 (some .int), Cond.fieldLink RX7 41 "BenchRunsModel" "grips" "[I", Cond.methodLink RX7 120 yX7_boxes, Cond.instanceMethod yX7_boxes, Cond.selects RX7 yX7_boxes yX7_boxes, Cond.code yX7_boxes cX7_boxes 4 (some .int), Cond.fieldLink RX7 48 "BenchRunsModel" "boxSize" "I", Cond.fieldLink RX7 100 "BenchRunsModel" "boxSort" "I", Cond.fieldLink RX7 51 "BenchRunsModel" "box" "[I", Cond.methodLink RX7 123 yX7_grids, Cond.instanceMethod yX7_grids, Cond.selects RX7 yX7_grids yX7_grids, Cond.code yX7_grids cX7_grids 3 (some .int), Cond.fieldLink RX7 54 "BenchRunsModel" "gridRows" "I", Cond.fieldLink RX7 87 "BenchRunsModel" "gridWide" "I", Cond.methodLink RX7 126 yX7_puts]
def wsX7_act_r3 : List Cond := [Cond.instanceMethod yX7_puts, Cond.selects RX7 yX7_puts yX7_puts, Cond.code yX7_puts cX7_puts 3 (some .int), Cond.methodLink RX7 129 yX7_counts, Cond.instanceMethod yX7_counts, Cond.selects RX7 yX7_counts yX7_counts, Cond.code yX7_counts cX7_counts 4 (some .int), Cond.methodLink RX7 132 yX7_raises, Cond.instanceMethod yX7_raises, Cond.selects RX7 yX7_raises yX7_raises, Cond.code yX7_raises cX7_raises 2 (some .int), Cond.fieldLink RX7 57 "BenchRunsModel" "laid" "[I"]
def wsX7_act : List Cond := .code yX7_act cX7_act 4 (some .int) :: ((wsX7_act_r1 ++ (wsX7_act_r2 ++ wsX7_act_r3)) ++ wsX70)
def wsX7_goes_r1 : List Cond := [Cond.fieldLink RX7 23 "BenchRunsModel" "vialOf" "[I", Cond.fieldLink RX7 113 "BenchRunsModel" "again" "I", Cond.fieldLink RX7 26 "BenchRunsModel" "steps" "[I", Cond.fieldLink RX7 60 "BenchRunsModel" "told" "[I", Cond.fieldLink RX7 29 "BenchRunsModel" "kinds" "[I", Cond.fieldLink RX7 32 "BenchRunsModel" "numbers" "[I", Cond.methodLink RX7 135 yX7_mark, Cond.instanceMethod yX7_mark, Cond.selects RX7 yX7_mark yX7_mark, Cond.initialized RX7, Cond.code yX7_mark cX7_mark 2 none, Cond.fieldLink RX7 63 "BenchRunsModel" "trace" "[I", Cond.methodLink RX7 139 yX7_act, Cond.instanceMethod yX7_act, Cond.selects RX7 yX7_act yX7_act, Cond.code yX7_act cX7_act 4 (some .int), Cond.fieldLink RX7 13 "BenchRunsModel" "drops" "[I", Cond.fieldLink RX7 110 "BenchRunsModel" "stopped" "I", Cond.fieldLink RX7 44 "BenchRunsModel" "rack" "I", Cond.methodLink RX7 103 yX7_more, Cond.instanceMethod yX7_more, Cond.selects RX7 yX7_more yX7_more, Cond.code yX7_more cX7_more 3 (some .int), Cond.methodLink RX7 97 yX7_fails]
def wsX7_goes_r2 : List Cond := [Cond.instanceMethod yX7_fails, Cond.selects RX7 yX7_fails yX7_fails, Cond.code yX7_fails cX7_fails 2 (some .int), Cond.fieldLink RX7 90 "BenchRunsModel" "failure" "I", Cond.fieldLink RX7 93 "BenchRunsModel" "isMachines" "Z", Cond.methodLink RX7 75 yX7_in, Cond.static yX7_in, Cond.code yX7_in cX7_in 3 (some .boolean), Cond.methodLink RX7 107 yX7_pours, Cond.instanceMethod yX7_pours, Cond.selects RX7 yX7_pours yX7_pours, Cond.code yX7_pours cX7_pours 3 (some .int), Cond.fieldLink RX7 7 "BenchRunsModel" "isVial" "[Z", Cond.methodLink RX7 116 yX7_uses, Cond.instanceMethod yX7_uses, Cond.selects RX7 yX7_uses yX7_uses, Cond.code yX7_uses cX7_uses 2 (some .int), Cond.fieldLink RX7 35 "BenchRunsModel" "sort" "[I", Cond.fieldLink RX7 38 "BenchRunsModel" "uses" "[I", Cond.methodLink RX7 118 yX7_grips, Cond.instanceMethod yX7_grips, Cond.selects RX7 yX7_grips yX7_grips, Cond.code yX7_grips cX7_grips 3 (some .int), Cond.fieldLink RX7 41 "BenchRunsModel" "grips" "[I"]
def wsX7_goes_r3 : List Cond := [Cond.methodLink RX7 120 yX7_boxes, Cond.instanceMethod yX7_boxes, Cond.selects RX7 yX7_boxes yX7_boxes, Cond.code yX7_boxes cX7_boxes 4 (some .int), Cond.fieldLink RX7 48 "BenchRunsModel" "boxSize" "I", Cond.fieldLink RX7 100 "BenchRunsModel" "boxSort" "I", Cond.fieldLink RX7 51 "BenchRunsModel" "box" "[I", Cond.methodLink RX7 123 yX7_grids, Cond.instanceMethod yX7_grids, Cond.selects RX7 yX7_grids yX7_grids, Cond.code yX7_grids cX7_grids 3 (some .int), Cond.fieldLink RX7 54 "BenchRunsModel" "gridRows" "I", Cond.fieldLink RX7 87 "BenchRunsModel" "gridWide" "I", Cond.methodLink RX7 126 yX7_puts, Cond.instanceMethod yX7_puts, Cond.selects RX7 yX7_puts yX7_puts, Cond.code yX7_puts cX7_puts 3 (some .int), Cond.methodLink RX7 129 yX7_counts, Cond.instanceMethod yX7_counts, Cond.selects RX7 yX7_counts yX7_counts, Cond.code yX7_counts cX7_counts 4 (some .int), Cond.methodLink RX7 132 yX7_raises, Cond.instanceMethod yX7_raises, Cond.selects RX7 yX7_raises yX7_raises]
def wsX7_goes_r4 : List Cond := [Cond.code yX7_raises cX7_raises 2 (some .int), Cond.fieldLink RX7 57 "BenchRunsModel" "laid" "[I"]
def wsX7_goes : List Cond := .code yX7_goes cX7_goes 5 (some .int) :: ((wsX7_goes_r1 ++ (wsX7_goes_r2 ++ (wsX7_goes_r3 ++ wsX7_goes_r4))) ++ wsX70)
def wsX7_does_r1 : List Cond := [Cond.fieldLink RX7 23 "BenchRunsModel" "vialOf" "[I", Cond.fieldLink RX7 7 "BenchRunsModel" "isVial" "[Z", Cond.methodLink RX7 97 yX7_fails, Cond.instanceMethod yX7_fails, Cond.selects RX7 yX7_fails yX7_fails, Cond.initialized RX7, Cond.code yX7_fails cX7_fails 2 (some .int), Cond.fieldLink RX7 90 "BenchRunsModel" "failure" "I", Cond.fieldLink RX7 93 "BenchRunsModel" "isMachines" "Z", Cond.methodLink RX7 75 yX7_in, Cond.static yX7_in, Cond.code yX7_in cX7_in 3 (some .boolean), Cond.methodLink RX7 135 yX7_mark, Cond.instanceMethod yX7_mark, Cond.selects RX7 yX7_mark yX7_mark, Cond.code yX7_mark cX7_mark 2 none, Cond.fieldLink RX7 60 "BenchRunsModel" "told" "[I", Cond.fieldLink RX7 63 "BenchRunsModel" "trace" "[I", Cond.methodLink RX7 143 yX7_goes, Cond.instanceMethod yX7_goes, Cond.selects RX7 yX7_goes yX7_goes, Cond.code yX7_goes cX7_goes 5 (some .int), Cond.fieldLink RX7 113 "BenchRunsModel" "again" "I", Cond.fieldLink RX7 26 "BenchRunsModel" "steps" "[I"]
def wsX7_does_r2 : List Cond := [Cond.fieldLink RX7 29 "BenchRunsModel" "kinds" "[I", Cond.fieldLink RX7 32 "BenchRunsModel" "numbers" "[I", Cond.methodLink RX7 139 yX7_act, Cond.instanceMethod yX7_act, Cond.selects RX7 yX7_act yX7_act, Cond.code yX7_act cX7_act 4 (some .int), Cond.fieldLink RX7 13 "BenchRunsModel" "drops" "[I", Cond.fieldLink RX7 110 "BenchRunsModel" "stopped" "I", Cond.fieldLink RX7 44 "BenchRunsModel" "rack" "I", Cond.methodLink RX7 103 yX7_more, Cond.instanceMethod yX7_more, Cond.selects RX7 yX7_more yX7_more, Cond.code yX7_more cX7_more 3 (some .int), Cond.methodLink RX7 107 yX7_pours, Cond.instanceMethod yX7_pours, Cond.selects RX7 yX7_pours yX7_pours, Cond.code yX7_pours cX7_pours 3 (some .int), Cond.methodLink RX7 116 yX7_uses, Cond.instanceMethod yX7_uses, Cond.selects RX7 yX7_uses yX7_uses, Cond.code yX7_uses cX7_uses 2 (some .int), Cond.fieldLink RX7 35 "BenchRunsModel" "sort" "[I", Cond.fieldLink RX7 38 "BenchRunsModel" "uses" "[I", Cond.methodLink RX7 118 yX7_grips]
def wsX7_does_r3 : List Cond := [Cond.instanceMethod yX7_grips, Cond.selects RX7 yX7_grips yX7_grips, Cond.code yX7_grips cX7_grips 3 (some .int), Cond.fieldLink RX7 41 "BenchRunsModel" "grips" "[I", Cond.methodLink RX7 120 yX7_boxes, Cond.instanceMethod yX7_boxes, Cond.selects RX7 yX7_boxes yX7_boxes, Cond.code yX7_boxes cX7_boxes 4 (some .int), Cond.fieldLink RX7 48 "BenchRunsModel" "boxSize" "I", Cond.fieldLink RX7 100 "BenchRunsModel" "boxSort" "I", Cond.fieldLink RX7 51 "BenchRunsModel" "box" "[I", Cond.methodLink RX7 123 yX7_grids, Cond.instanceMethod yX7_grids, Cond.selects RX7 yX7_grids yX7_grids, Cond.code yX7_grids cX7_grids 3 (some .int), Cond.fieldLink RX7 54 "BenchRunsModel" "gridRows" "I", Cond.fieldLink RX7 87 "BenchRunsModel" "gridWide" "I", Cond.methodLink RX7 126 yX7_puts, Cond.instanceMethod yX7_puts, Cond.selects RX7 yX7_puts yX7_puts, Cond.code yX7_puts cX7_puts 3 (some .int), Cond.methodLink RX7 129 yX7_counts, Cond.instanceMethod yX7_counts, Cond.selects RX7 yX7_counts yX7_counts]
def wsX7_does_r4 : List Cond := [Cond.code yX7_counts cX7_counts 4 (some .int), Cond.methodLink RX7 132 yX7_raises, Cond.instanceMethod yX7_raises, Cond.selects RX7 yX7_raises yX7_raises, Cond.code yX7_raises cX7_raises 2 (some .int), Cond.fieldLink RX7 57 "BenchRunsModel" "laid" "[I"]
def wsX7_does : List Cond := .code yX7_does cX7_does 4 (some .int) :: ((wsX7_does_r1 ++ (wsX7_does_r2 ++ (wsX7_does_r3 ++ wsX7_does_r4))) ++ wsX70)
def wsX7_reasons : List Cond := .code yX7_reasons cX7_reasons 2 none :: ([.fieldLink RX7 69 "BenchRunsModel" "why" "[I", .fieldLink RX7 146 "BenchRunsModel" "whys" "I", .fieldLink RX7 93 "BenchRunsModel" "isMachines" "Z"] ++ wsX70)
def wsX7_inStead : List Cond := .code yX7_inStead cX7_inStead 3 none :: ([.fieldLink RX7 146 "BenchRunsModel" "whys" "I", .fieldLink RX7 69 "BenchRunsModel" "why" "[I"] ++ wsX70)
def wsX7_works_r1 : List Cond := [Cond.fieldLink RX7 20 "BenchRunsModel" "rounds" "[I", Cond.fieldLink RX7 17 "BenchRunsModel" "mode" "[I", Cond.fieldLink RX7 60 "BenchRunsModel" "told" "[I", Cond.fieldLink RX7 66 "BenchRunsModel" "noted" "[I", Cond.fieldLink RX7 90 "BenchRunsModel" "failure" "I", Cond.methodLink RX7 135 yX7_mark, Cond.instanceMethod yX7_mark, Cond.selects RX7 yX7_mark yX7_mark, Cond.initialized RX7, Cond.code yX7_mark cX7_mark 2 none, Cond.fieldLink RX7 63 "BenchRunsModel" "trace" "[I", Cond.methodLink RX7 149 yX7_does, Cond.instanceMethod yX7_does, Cond.selects RX7 yX7_does yX7_does, Cond.code yX7_does cX7_does 4 (some .int), Cond.fieldLink RX7 23 "BenchRunsModel" "vialOf" "[I", Cond.fieldLink RX7 7 "BenchRunsModel" "isVial" "[Z", Cond.methodLink RX7 97 yX7_fails, Cond.instanceMethod yX7_fails, Cond.selects RX7 yX7_fails yX7_fails, Cond.code yX7_fails cX7_fails 2 (some .int), Cond.fieldLink RX7 93 "BenchRunsModel" "isMachines" "Z", Cond.methodLink RX7 75 yX7_in, Cond.static yX7_in]
def wsX7_works_r2 : List Cond := [Cond.code yX7_in cX7_in 3 (some .boolean), Cond.methodLink RX7 143 yX7_goes, Cond.instanceMethod yX7_goes, Cond.selects RX7 yX7_goes yX7_goes, Cond.code yX7_goes cX7_goes 5 (some .int), Cond.fieldLink RX7 113 "BenchRunsModel" "again" "I", Cond.fieldLink RX7 26 "BenchRunsModel" "steps" "[I", Cond.fieldLink RX7 29 "BenchRunsModel" "kinds" "[I", Cond.fieldLink RX7 32 "BenchRunsModel" "numbers" "[I", Cond.methodLink RX7 139 yX7_act, Cond.instanceMethod yX7_act, Cond.selects RX7 yX7_act yX7_act, Cond.code yX7_act cX7_act 4 (some .int), Cond.fieldLink RX7 13 "BenchRunsModel" "drops" "[I", Cond.fieldLink RX7 110 "BenchRunsModel" "stopped" "I", Cond.fieldLink RX7 44 "BenchRunsModel" "rack" "I", Cond.methodLink RX7 103 yX7_more, Cond.instanceMethod yX7_more, Cond.selects RX7 yX7_more yX7_more, Cond.code yX7_more cX7_more 3 (some .int), Cond.methodLink RX7 107 yX7_pours, Cond.instanceMethod yX7_pours, Cond.selects RX7 yX7_pours yX7_pours, Cond.code yX7_pours cX7_pours 3 (some .int)]
def wsX7_works_r3 : List Cond := [Cond.methodLink RX7 116 yX7_uses, Cond.instanceMethod yX7_uses, Cond.selects RX7 yX7_uses yX7_uses, Cond.code yX7_uses cX7_uses 2 (some .int), Cond.fieldLink RX7 35 "BenchRunsModel" "sort" "[I", Cond.fieldLink RX7 38 "BenchRunsModel" "uses" "[I", Cond.methodLink RX7 118 yX7_grips, Cond.instanceMethod yX7_grips, Cond.selects RX7 yX7_grips yX7_grips, Cond.code yX7_grips cX7_grips 3 (some .int), Cond.fieldLink RX7 41 "BenchRunsModel" "grips" "[I", Cond.methodLink RX7 120 yX7_boxes, Cond.instanceMethod yX7_boxes, Cond.selects RX7 yX7_boxes yX7_boxes, Cond.code yX7_boxes cX7_boxes 4 (some .int), Cond.fieldLink RX7 48 "BenchRunsModel" "boxSize" "I", Cond.fieldLink RX7 100 "BenchRunsModel" "boxSort" "I", Cond.fieldLink RX7 51 "BenchRunsModel" "box" "[I", Cond.methodLink RX7 123 yX7_grids, Cond.instanceMethod yX7_grids, Cond.selects RX7 yX7_grids yX7_grids, Cond.code yX7_grids cX7_grids 3 (some .int), Cond.fieldLink RX7 54 "BenchRunsModel" "gridRows" "I", Cond.fieldLink RX7 87 "BenchRunsModel" "gridWide" "I"]
def wsX7_works_r4 : List Cond := [Cond.methodLink RX7 126 yX7_puts, Cond.instanceMethod yX7_puts, Cond.selects RX7 yX7_puts yX7_puts, Cond.code yX7_puts cX7_puts 3 (some .int), Cond.methodLink RX7 129 yX7_counts, Cond.instanceMethod yX7_counts, Cond.selects RX7 yX7_counts yX7_counts, Cond.code yX7_counts cX7_counts 4 (some .int), Cond.methodLink RX7 132 yX7_raises, Cond.instanceMethod yX7_raises, Cond.selects RX7 yX7_raises yX7_raises, Cond.code yX7_raises cX7_raises 2 (some .int), Cond.fieldLink RX7 57 "BenchRunsModel" "laid" "[I", Cond.methodLink RX7 152 yX7_reasons, Cond.instanceMethod yX7_reasons, Cond.selects RX7 yX7_reasons yX7_reasons, Cond.code yX7_reasons cX7_reasons 2 none, Cond.fieldLink RX7 69 "BenchRunsModel" "why" "[I", Cond.fieldLink RX7 146 "BenchRunsModel" "whys" "I", Cond.methodLink RX7 155 yX7_inStead, Cond.instanceMethod yX7_inStead, Cond.selects RX7 yX7_inStead yX7_inStead, Cond.code yX7_inStead cX7_inStead 3 none]
def wsX7_works : List Cond := .code yX7_works cX7_works 4 (some .int) :: ((wsX7_works_r1 ++ (wsX7_works_r2 ++ (wsX7_works_r3 ++ wsX7_works_r4))) ++ wsX70)
def wsX7_run_r1 : List Cond := [Cond.fieldLink RX7 72 "BenchRunsModel" "thrown" "I", Cond.fieldLink RX7 60 "BenchRunsModel" "told" "[I", Cond.fieldLink RX7 146 "BenchRunsModel" "whys" "I", Cond.fieldLink RX7 110 "BenchRunsModel" "stopped" "I", Cond.methodLink RX7 79 yX7_isBatch, Cond.static yX7_isBatch, Cond.initialized RX7, Cond.code yX7_isBatch cX7_isBatch 1 (some .boolean), Cond.methodLink RX7 75 yX7_in, Cond.static yX7_in, Cond.code yX7_in cX7_in 3 (some .boolean), Cond.methodLink RX7 158 yX7_works, Cond.instanceMethod yX7_works, Cond.selects RX7 yX7_works yX7_works, Cond.code yX7_works cX7_works 4 (some .int), Cond.fieldLink RX7 20 "BenchRunsModel" "rounds" "[I", Cond.fieldLink RX7 17 "BenchRunsModel" "mode" "[I", Cond.fieldLink RX7 66 "BenchRunsModel" "noted" "[I", Cond.fieldLink RX7 90 "BenchRunsModel" "failure" "I", Cond.methodLink RX7 135 yX7_mark, Cond.instanceMethod yX7_mark, Cond.selects RX7 yX7_mark yX7_mark, Cond.code yX7_mark cX7_mark 2 none, Cond.fieldLink RX7 63 "BenchRunsModel" "trace" "[I"]
def wsX7_run_r2 : List Cond := [Cond.methodLink RX7 149 yX7_does, Cond.instanceMethod yX7_does, Cond.selects RX7 yX7_does yX7_does, Cond.code yX7_does cX7_does 4 (some .int), Cond.fieldLink RX7 23 "BenchRunsModel" "vialOf" "[I", Cond.fieldLink RX7 7 "BenchRunsModel" "isVial" "[Z", Cond.methodLink RX7 97 yX7_fails, Cond.instanceMethod yX7_fails, Cond.selects RX7 yX7_fails yX7_fails, Cond.code yX7_fails cX7_fails 2 (some .int), Cond.fieldLink RX7 93 "BenchRunsModel" "isMachines" "Z", Cond.methodLink RX7 143 yX7_goes, Cond.instanceMethod yX7_goes, Cond.selects RX7 yX7_goes yX7_goes, Cond.code yX7_goes cX7_goes 5 (some .int), Cond.fieldLink RX7 113 "BenchRunsModel" "again" "I", Cond.fieldLink RX7 26 "BenchRunsModel" "steps" "[I", Cond.fieldLink RX7 29 "BenchRunsModel" "kinds" "[I", Cond.fieldLink RX7 32 "BenchRunsModel" "numbers" "[I", Cond.methodLink RX7 139 yX7_act, Cond.instanceMethod yX7_act, Cond.selects RX7 yX7_act yX7_act, Cond.code yX7_act cX7_act 4 (some .int), Cond.fieldLink RX7 13 "BenchRunsModel" "drops" "[I"]
def wsX7_run_r3 : List Cond := [Cond.fieldLink RX7 44 "BenchRunsModel" "rack" "I", Cond.methodLink RX7 103 yX7_more, Cond.instanceMethod yX7_more, Cond.selects RX7 yX7_more yX7_more, Cond.code yX7_more cX7_more 3 (some .int), Cond.methodLink RX7 107 yX7_pours, Cond.instanceMethod yX7_pours, Cond.selects RX7 yX7_pours yX7_pours, Cond.code yX7_pours cX7_pours 3 (some .int), Cond.methodLink RX7 116 yX7_uses, Cond.instanceMethod yX7_uses, Cond.selects RX7 yX7_uses yX7_uses, Cond.code yX7_uses cX7_uses 2 (some .int), Cond.fieldLink RX7 35 "BenchRunsModel" "sort" "[I", Cond.fieldLink RX7 38 "BenchRunsModel" "uses" "[I", Cond.methodLink RX7 118 yX7_grips, Cond.instanceMethod yX7_grips, Cond.selects RX7 yX7_grips yX7_grips, Cond.code yX7_grips cX7_grips 3 (some .int), Cond.fieldLink RX7 41 "BenchRunsModel" "grips" "[I", Cond.methodLink RX7 120 yX7_boxes, Cond.instanceMethod yX7_boxes, Cond.selects RX7 yX7_boxes yX7_boxes, Cond.code yX7_boxes cX7_boxes 4 (some .int)]
def wsX7_run_r4 : List Cond := [Cond.fieldLink RX7 48 "BenchRunsModel" "boxSize" "I", Cond.fieldLink RX7 100 "BenchRunsModel" "boxSort" "I", Cond.fieldLink RX7 51 "BenchRunsModel" "box" "[I", Cond.methodLink RX7 123 yX7_grids, Cond.instanceMethod yX7_grids, Cond.selects RX7 yX7_grids yX7_grids, Cond.code yX7_grids cX7_grids 3 (some .int), Cond.fieldLink RX7 54 "BenchRunsModel" "gridRows" "I", Cond.fieldLink RX7 87 "BenchRunsModel" "gridWide" "I", Cond.methodLink RX7 126 yX7_puts, Cond.instanceMethod yX7_puts, Cond.selects RX7 yX7_puts yX7_puts, Cond.code yX7_puts cX7_puts 3 (some .int), Cond.methodLink RX7 129 yX7_counts, Cond.instanceMethod yX7_counts, Cond.selects RX7 yX7_counts yX7_counts, Cond.code yX7_counts cX7_counts 4 (some .int), Cond.methodLink RX7 132 yX7_raises, Cond.instanceMethod yX7_raises, Cond.selects RX7 yX7_raises yX7_raises, Cond.code yX7_raises cX7_raises 2 (some .int), Cond.fieldLink RX7 57 "BenchRunsModel" "laid" "[I", Cond.methodLink RX7 152 yX7_reasons, Cond.instanceMethod yX7_reasons]
def wsX7_run_r5 : List Cond := [Cond.selects RX7 yX7_reasons yX7_reasons, Cond.code yX7_reasons cX7_reasons 2 none, Cond.fieldLink RX7 69 "BenchRunsModel" "why" "[I", Cond.methodLink RX7 155 yX7_inStead, Cond.instanceMethod yX7_inStead, Cond.selects RX7 yX7_inStead yX7_inStead, Cond.code yX7_inStead cX7_inStead 3 none]
def wsX7_run : List Cond := .code yX7_run cX7_run 6 (some .int) :: ((wsX7_run_r1 ++ (wsX7_run_r2 ++ (wsX7_run_r3 ++ (wsX7_run_r4 ++ wsX7_run_r5)))) ++ wsX70)
def wsX7_why : List Cond := .code yX7_why cX7_why 2 (some .int) :: ([.fieldLink RX7 72 "BenchRunsModel" "thrown" "I", .fieldLink RX7 146 "BenchRunsModel" "whys" "I", .fieldLink RX7 69 "BenchRunsModel" "why" "[I", .methodLink RX7 75 yX7_in, .static yX7_in, .initialized RX7, .code yX7_in cX7_in 3 (some .boolean)] ++ wsX70)
def wsX7_told : List Cond := .code yX7_told cX7_told 2 (some .int) :: ([.fieldLink RX7 72 "BenchRunsModel" "thrown" "I", .fieldLink RX7 60 "BenchRunsModel" "told" "[I", .methodLink RX7 75 yX7_in, .static yX7_in, .initialized RX7, .code yX7_in cX7_in 3 (some .boolean)] ++ wsX70)
def wsX7_trace : List Cond := .code yX7_trace cX7_trace 2 (some .int) :: ([.fieldLink RX7 72 "BenchRunsModel" "thrown" "I", .fieldLink RX7 60 "BenchRunsModel" "told" "[I", .fieldLink RX7 63 "BenchRunsModel" "trace" "[I", .methodLink RX7 75 yX7_in, .static yX7_in, .initialized RX7, .code yX7_in cX7_in 3 (some .boolean)] ++ wsX70)
def wsX7_noted : List Cond := .code yX7_noted cX7_noted 2 (some .int) :: ([.fieldLink RX7 72 "BenchRunsModel" "thrown" "I", .fieldLink RX7 60 "BenchRunsModel" "told" "[I", .fieldLink RX7 66 "BenchRunsModel" "noted" "[I", .methodLink RX7 75 yX7_in, .static yX7_in, .initialized RX7, .code yX7_in cX7_in 3 (some .boolean)] ++ wsX70)
def wsX7_drops : List Cond := .code yX7_drops cX7_drops 2 (some .int) :: ([.fieldLink RX7 72 "BenchRunsModel" "thrown" "I", .fieldLink RX7 7 "BenchRunsModel" "isVial" "[Z", .fieldLink RX7 13 "BenchRunsModel" "drops" "[I", .methodLink RX7 75 yX7_in, .static yX7_in, .initialized RX7, .code yX7_in cX7_in 3 (some .boolean)] ++ wsX70)
def wsX7_sum : List Cond := .code yX7_sum cX7_sum 3 (some .int) :: ([.fieldLink RX7 72 "BenchRunsModel" "thrown" "I", .fieldLink RX7 7 "BenchRunsModel" "isVial" "[Z", .fieldLink RX7 13 "BenchRunsModel" "drops" "[I"] ++ wsX70)
def wsJ9_min_7cf53 : List Cond := .code yJ9_min_7cf53 cJ9_min_7cf53 2 (some .int) :: ([])
def wsL_law_r1 : List Cond := [Cond.classLink RL 7 RX6, Cond.instantiable RX6 7, Cond.initialized RX6, Cond.classLink RL 10 RX7, Cond.instantiable RX7 28, Cond.initialized RX7, Cond.methodLink RL 9 yX6_init, Cond.instanceMethod yX6_init, Cond.code yX6_init cX6_init 2 none, Cond.methodLink RX6 1 objectInit, Cond.instanceMethod objectInit, Cond.code objectInit ⟨#[0xb1]⟩ 1 none, Cond.arrayClass .int, Cond.fieldLink RX6 9 "BenchRuns" "vialDrops" "[I", Cond.classLink RX6 13 RX0, Cond.fieldLink RX6 15 "BenchRuns" "batches" "[LBenchRuns$Batch;", Cond.classLink RX6 19 RX4, Cond.fieldLink RX6 21 "BenchRuns" "tools" "[LBenchRuns$Tool;", Cond.fieldLink RX6 25 "BenchRuns" "laid" "[I", Cond.classLink RX6 28 RX3, Cond.instantiable RX3 6, Cond.initialized RX3, Cond.fieldLink RX6 31 "BenchRuns" "stock" "LBenchRuns$Stock;", Cond.classLink RX6 35 RX1]
def wsL_law_r2 : List Cond := [Cond.instantiable RX1 7, Cond.initialized RX1, Cond.fieldLink RX6 38 "BenchRuns" "log" "LBenchRuns$Log;", Cond.fieldLink RX6 42 "BenchRuns" "stoppedBy" "I", Cond.instantiable RX0 3, Cond.initialized RX0, Cond.instantiable RX4 3, Cond.initialized RX4, Cond.instanceMethod yX3_init, Cond.code yX3_init cX3_init 1 none, Cond.methodLink RX3 3 objectInit, Cond.fieldLink RX3 9 "BenchRuns$Stock" "boxTools" "[I", Cond.fieldLink RX3 15 "BenchRuns$Stock" "rackSize" "I", Cond.fieldLink RX3 19 "BenchRuns$Stock" "boxSize" "I", Cond.fieldLink RX3 22 "BenchRuns$Stock" "boxSort" "I", Cond.fieldLink RX3 25 "BenchRuns$Stock" "gridRows" "I", Cond.fieldLink RX3 28 "BenchRuns$Stock" "gridRowSize" "I", Cond.instanceMethod yX1_init, Cond.code yX1_init cX1_init 1 none, Cond.methodLink RX1 3 objectInit, Cond.fieldLink RX1 9 "BenchRuns$Log" "countOf" "[I", Cond.fieldLink RX1 15 "BenchRuns$Log" "events" "[I", Cond.fieldLink RX1 18 "BenchRuns$Log" "eventCount" "I", Cond.fieldLink RX1 22 "BenchRuns$Log" "notedNumbers" "[I"]
def wsL_law_r3 : List Cond := [Cond.fieldLink RX1 25 "BenchRuns$Log" "notedCount" "I", Cond.fieldLink RX1 28 "BenchRuns$Log" "chain" "[I", Cond.fieldLink RX1 31 "BenchRuns$Log" "chainLength" "I", Cond.methodLink RX6 46 yX0_init, Cond.instanceMethod yX0_init, Cond.code yX0_init cX0_init 2 none, Cond.methodLink RX0 3 objectInit, Cond.classLink RX0 9 RX2, Cond.fieldLink RX0 11 "BenchRuns$Batch" "rounds" "[LBenchRuns$Round;", Cond.fieldLink RX0 17 "BenchRuns$Batch" "roundCount" "I", Cond.fieldLink RX0 21 "BenchRuns$Batch" "mode" "I", Cond.instantiable RX2 4, Cond.initialized RX2, Cond.instanceMethod yX2_init, Cond.code yX2_init cX2_init 1 none, Cond.methodLink RX2 3 objectInit, Cond.fieldLink RX2 9 "BenchRuns$Round" "kinds" "[I", Cond.fieldLink RX2 15 "BenchRuns$Round" "numbers" "[I", Cond.fieldLink RX2 18 "BenchRuns$Round" "stepCount" "I", Cond.fieldLink RX2 22 "BenchRuns$Round" "vial" "I", Cond.instanceMethod yX4_init, Cond.code yX4_init cX4_init 1 none, Cond.methodLink RX4 3 objectInit, Cond.fieldLink RX4 9 "BenchRuns$Tool" "sort" "I"]
def wsL_law_r4 : List Cond := [Cond.fieldLink RX4 15 "BenchRuns$Tool" "uses" "I", Cond.fieldLink RX4 18 "BenchRuns$Tool" "grip" "I", Cond.methodLink RL 12 yX7_init, Cond.instanceMethod yX7_init, Cond.code yX7_init cX7_init 2 none, Cond.methodLink RX7 1 objectInit, Cond.arrayClass .boolean, Cond.fieldLink RX7 7 "BenchRunsModel" "isVial" "[Z", Cond.fieldLink RX7 13 "BenchRunsModel" "drops" "[I", Cond.fieldLink RX7 17 "BenchRunsModel" "mode" "[I", Cond.fieldLink RX7 20 "BenchRunsModel" "rounds" "[I", Cond.fieldLink RX7 23 "BenchRunsModel" "vialOf" "[I", Cond.fieldLink RX7 26 "BenchRunsModel" "steps" "[I", Cond.fieldLink RX7 29 "BenchRunsModel" "kinds" "[I", Cond.fieldLink RX7 32 "BenchRunsModel" "numbers" "[I", Cond.fieldLink RX7 35 "BenchRunsModel" "sort" "[I", Cond.fieldLink RX7 38 "BenchRunsModel" "uses" "[I", Cond.fieldLink RX7 41 "BenchRunsModel" "grips" "[I", Cond.fieldLink RX7 44 "BenchRunsModel" "rack" "I", Cond.fieldLink RX7 48 "BenchRunsModel" "boxSize" "I", Cond.fieldLink RX7 51 "BenchRunsModel" "box" "[I", Cond.fieldLink RX7 54 "BenchRunsModel" "gridRows" "I", Cond.fieldLink RX7 57 "BenchRunsModel" "laid" "[I", Cond.fieldLink RX7 60 "BenchRunsModel" "told" "[I"]
def wsL_law_r5 : List Cond := [Cond.fieldLink RX7 63 "BenchRunsModel" "trace" "[I", Cond.fieldLink RX7 66 "BenchRunsModel" "noted" "[I", Cond.fieldLink RX7 69 "BenchRunsModel" "why" "[I", Cond.methodLink RL 13 yX6_vial, Cond.instanceMethod yX6_vial, Cond.selects RX6 yX6_vial yX6_vial, Cond.code yX6_vial cX6_vial 4 (some .int), Cond.methodLink RX6 48 yX6_within, Cond.static yX6_within, Cond.code yX6_within cX6_within 3 (some .boolean), Cond.methodLink RX6 52 yX6_orNone, Cond.static yX6_orNone, Cond.code yX6_orNone cX6_orNone 1 (some .int), Cond.methodLink RL 17 yX7_vial, Cond.instanceMethod yX7_vial, Cond.selects RX7 yX7_vial yX7_vial, Cond.code yX7_vial cX7_vial 4 (some .int), Cond.fieldLink RX7 72 "BenchRunsModel" "thrown" "I", Cond.methodLink RX7 75 yX7_in, Cond.static yX7_in, Cond.code yX7_in cX7_in 3 (some .boolean), Cond.methodLink RL 18 yX6_batch, Cond.instanceMethod yX6_batch, Cond.selects RX6 yX6_batch yX6_batch]
def wsL_law_r6 : List Cond := [Cond.code yX6_batch cX6_batch 4 (some .int), Cond.fieldLink RX6 56 "BenchRuns$Batch" "roundCount" "I", Cond.methodLink RX6 59 yX0_beginAnew, Cond.instanceMethod yX0_beginAnew, Cond.selects RX0 yX0_beginAnew yX0_beginAnew, Cond.code yX0_beginAnew cX0_beginAnew 2 none, Cond.methodLink RL 21 yX7_batch, Cond.instanceMethod yX7_batch, Cond.selects RX7 yX7_batch yX7_batch, Cond.code yX7_batch cX7_batch 4 (some .int), Cond.methodLink RX7 79 yX7_isBatch, Cond.static yX7_isBatch, Cond.code yX7_isBatch cX7_isBatch 1 (some .boolean), Cond.methodLink RL 22 yX6_round, Cond.instanceMethod yX6_round, Cond.selects RX6 yX6_round yX6_round, Cond.code yX6_round cX6_round 3 (some .int), Cond.methodLink RX6 63 yX0_addRound, Cond.instanceMethod yX0_addRound, Cond.selects RX0 yX0_addRound yX0_addRound, Cond.code yX0_addRound cX0_addRound 2 (some .int), Cond.methodLink RX0 25 yX2_beginAnew, Cond.instanceMethod yX2_beginAnew, Cond.selects RX2 yX2_beginAnew yX2_beginAnew]
def wsL_law_r7 : List Cond := [Cond.code yX2_beginAnew cX2_beginAnew 2 none, Cond.methodLink RL 25 yX7_round, Cond.instanceMethod yX7_round, Cond.selects RX7 yX7_round yX7_round, Cond.code yX7_round cX7_round 4 (some .int), Cond.methodLink RL 26 yX6_step, Cond.instanceMethod yX6_step, Cond.selects RX6 yX6_step yX6_step, Cond.code yX6_step cX6_step 5 (some .int), Cond.fieldLink RX6 66 "BenchRuns" "MOST_N" "[I", Cond.fieldLink RX6 69 "BenchRuns$Batch" "rounds" "[LBenchRuns$Round;", Cond.methodLink RX6 73 yX2_addStep, Cond.instanceMethod yX2_addStep, Cond.selects RX2 yX2_addStep yX2_addStep, Cond.code yX2_addStep cX2_addStep 3 (some .int), Cond.methodLink RL 30 yX7_step, Cond.instanceMethod yX7_step, Cond.selects RX7 yX7_step yX7_step, Cond.code yX7_step cX7_step 5 (some .int), Cond.methodLink RX7 83 yX7_most, Cond.static yX7_most, Cond.code yX7_most cX7_most 1 (some .int), Cond.methodLink RL 31 yX6_tool, Cond.instanceMethod yX6_tool]
def wsL_law_r8 : List Cond := [Cond.selects RX6 yX6_tool yX6_tool, Cond.code yX6_tool cX6_tool 4 (some .int), Cond.fieldLink RX6 79 "BenchRuns$Tool" "sort" "I", Cond.methodLink RX6 82 yX4_beginAnew, Cond.instanceMethod yX4_beginAnew, Cond.selects RX4 yX4_beginAnew yX4_beginAnew, Cond.code yX4_beginAnew cX4_beginAnew 2 none, Cond.methodLink RL 34 yX7_tool, Cond.instanceMethod yX7_tool, Cond.selects RX7 yX7_tool yX7_tool, Cond.code yX7_tool cX7_tool 4 (some .int), Cond.methodLink RL 35 yX6_lay, Cond.instanceMethod yX6_lay, Cond.selects RX6 yX6_lay yX6_lay, Cond.code yX6_lay cX6_lay 4 (some .int), Cond.methodLink RL 38 yX7_lay, Cond.instanceMethod yX7_lay, Cond.selects RX7 yX7_lay yX7_lay, Cond.code yX7_lay cX7_lay 4 (some .int), Cond.methodLink RL 39 yX6_about, Cond.instanceMethod yX6_about, Cond.selects RX6 yX6_about yX6_about, Cond.code yX6_about cX6_about 4 (some .int), Cond.fieldLink RX6 83 "BenchRuns$Tool" "grip" "I"]
def wsL_law_r9 : List Cond := [Cond.fieldLink RX6 86 "BenchRuns$Tool" "uses" "I", Cond.methodLink RL 42 yX7_about, Cond.instanceMethod yX7_about, Cond.selects RX7 yX7_about yX7_about, Cond.code yX7_about cX7_about 3 (some .int), Cond.methodLink RL 43 yX6_places, Cond.instanceMethod yX6_places, Cond.selects RX6 yX6_places yX6_places, Cond.code yX6_places cX6_places 2 (some .int), Cond.methodLink RX6 89 yX3_sizeOf, Cond.instanceMethod yX3_sizeOf, Cond.selects RX3 yX3_sizeOf yX3_sizeOf, Cond.code yX3_sizeOf cX3_sizeOf 2 (some .int), Cond.methodLink RL 47 yX7_places, Cond.instanceMethod yX7_places, Cond.selects RX7 yX7_places yX7_places, Cond.code yX7_places cX7_places 3 (some .int), Cond.fieldLink RX7 87 "BenchRunsModel" "gridWide" "I", Cond.methodLink RL 48 yX6_box, Cond.instanceMethod yX6_box, Cond.selects RX6 yX6_box yX6_box, Cond.code yX6_box cX6_box 2 (some .int), Cond.fieldLink RX6 92 "BenchRuns$Stock" "boxSize" "I", Cond.fieldLink RX6 95 "BenchRuns$Stock" "boxTools" "[I"]
def wsL_law_r10 : List Cond := [Cond.methodLink RL 51 yX7_box, Cond.instanceMethod yX7_box, Cond.selects RX7 yX7_box yX7_box, Cond.code yX7_box cX7_box 2 (some .int), Cond.methodLink RL 52 yX6_run, Cond.instanceMethod yX6_run, Cond.selects RX6 yX6_run yX6_run, Cond.code yX6_run cX6_run 6 (some .int), Cond.fieldLink RX6 104 "BenchRuns$Way" "FAILURE" "LBenchRuns$Way;", Cond.fieldLink RX6 113 "BenchRuns$Way" "STOP" "LBenchRuns$Way;", Cond.fieldLink RX6 116 "BenchRuns$Way" "TIRED" "LBenchRuns$Way;", Cond.methodLink RX6 98 yX1_beginAnew, Cond.instanceMethod yX1_beginAnew, Cond.selects RX1 yX1_beginAnew yX1_beginAnew, Cond.code yX1_beginAnew cX1_beginAnew 2 none, Cond.methodLink RX6 100 yX6_doBatch, Cond.instanceMethod yX6_doBatch, Cond.selects RX6 yX6_doBatch yX6_doBatch, Cond.code yX6_doBatch cX6_doBatch 4 (some (.object "BenchRuns$Way")), Cond.fieldLink RX6 145 "BenchRuns$Way" "ONWARD" "LBenchRuns$Way;", Cond.fieldLink RX6 155 "BenchRuns$Way" "SKIP" "LBenchRuns$Way;", Cond.fieldLink RX6 158 "BenchRuns$Batch" "mode" "I", Cond.fieldLink RX6 165 "BenchRuns$Way" "BREAK" "LBenchRuns$Way;", Cond.methodLink RX6 148 yX1_mark]
def wsL_law_r11 : List Cond := [Cond.instanceMethod yX1_mark, Cond.selects RX1 yX1_mark yX1_mark, Cond.code yX1_mark cX1_mark 2 none, Cond.methodLink RX6 151 yX6_doRound, Cond.instanceMethod yX6_doRound, Cond.selects RX6 yX6_doRound yX6_doRound, Cond.code yX6_doRound cX6_doRound 3 (some (.object "BenchRuns$Way")), Cond.fieldLink RX6 171 "BenchRuns$Round" "vial" "I", Cond.methodLink RX6 174 yX1_fail, Cond.instanceMethod yX1_fail, Cond.selects RX1 yX1_fail yX1_fail, Cond.code yX1_fail cX1_fail 3 (some (.object "BenchRuns$Way")), Cond.fieldLink RX1 34 "BenchRuns$Way" "FAILURE" "LBenchRuns$Way;", Cond.methodLink RX6 178 yX6_doSteps, Cond.instanceMethod yX6_doSteps, Cond.selects RX6 yX6_doSteps yX6_doSteps, Cond.code yX6_doSteps cX6_doSteps 8 (some (.object "BenchRuns$Way")), Cond.fieldLink RX6 181 "BenchRuns$Round" "stepCount" "I", Cond.fieldLink RX6 131 "BenchRuns$Log" "countOf" "[I", Cond.fieldLink RX6 184 "BenchRuns$Round" "kinds" "[I", Cond.fieldLink RX6 187 "BenchRuns$Round" "numbers" "[I", Cond.fieldLink RX6 198 "BenchRuns$Way" "ANEW" "LBenchRuns$Way;", Cond.methodLink RX6 190 yX6_doVialStep, Cond.instanceMethod yX6_doVialStep]
def wsL_law_r12 : List Cond := [Cond.selects RX6 yX6_doVialStep yX6_doVialStep, Cond.code yX6_doVialStep cX6_doVialStep 5 (some (.object "BenchRuns$Way")), Cond.methodLink RX6 201 yX6_addDrops, Cond.instanceMethod yX6_addDrops, Cond.selects RX6 yX6_addDrops yX6_addDrops, Cond.code yX6_addDrops cX6_addDrops 3 (some (.object "BenchRuns$Way")), Cond.methodLink RX6 204 yX6_drawDrops, Cond.instanceMethod yX6_drawDrops, Cond.selects RX6 yX6_drawDrops yX6_drawDrops, Cond.code yX6_drawDrops cX6_drawDrops 3 (some (.object "BenchRuns$Way")), Cond.methodLink RX6 207 yX6_shareDrops, Cond.instanceMethod yX6_shareDrops, Cond.selects RX6 yX6_shareDrops yX6_shareDrops, Cond.code yX6_shareDrops cX6_shareDrops 3 (some (.object "BenchRuns$Way")), Cond.methodLink RX6 210 yX6_pourDrops, Cond.instanceMethod yX6_pourDrops, Cond.selects RX6 yX6_pourDrops yX6_pourDrops, Cond.code yX6_pourDrops cX6_pourDrops 3 (some (.object "BenchRuns$Way")), Cond.methodLink RX6 194 yX6_doBenchStep, Cond.instanceMethod yX6_doBenchStep, Cond.selects RX6 yX6_doBenchStep yX6_doBenchStep, Cond.code yX6_doBenchStep cX6_doBenchStep 4 (some (.object "BenchRuns$Way")), Cond.methodLink RX6 213 yX6_useTool, Cond.instanceMethod yX6_useTool]
def wsL_law_r13 : List Cond := [Cond.selects RX6 yX6_useTool yX6_useTool, Cond.code yX6_useTool cX6_useTool 2 (some (.object "BenchRuns$Way")), Cond.methodLink RX6 216 yX6_gripTool, Cond.instanceMethod yX6_gripTool, Cond.selects RX6 yX6_gripTool yX6_gripTool, Cond.code yX6_gripTool cX6_gripTool 3 (some (.object "BenchRuns$Way")), Cond.methodLink RX6 219 yX3_newRack, Cond.instanceMethod yX3_newRack, Cond.selects RX3 yX3_newRack yX3_newRack, Cond.code yX3_newRack cX3_newRack 2 (some .boolean), Cond.methodLink RX6 223 yX3_newBox, Cond.instanceMethod yX3_newBox, Cond.selects RX3 yX3_newBox yX3_newBox, Cond.code yX3_newBox cX3_newBox 4 (some .boolean), Cond.methodLink RX6 227 yX3_newGrid, Cond.instanceMethod yX3_newGrid, Cond.selects RX3 yX3_newGrid yX3_newGrid, Cond.code yX3_newGrid cX3_newGrid 3 (some .boolean), Cond.methodLink RX6 230 yX6_putTool, Cond.instanceMethod yX6_putTool, Cond.selects RX6 yX6_putTool yX6_putTool, Cond.code yX6_putTool cX6_putTool 4 (some (.object "BenchRuns$Way")), Cond.methodLink RX6 236 yX3_boxTakes, Cond.instanceMethod yX3_boxTakes]
def wsL_law_r14 : List Cond := [Cond.selects RX3 yX3_boxTakes yX3_boxTakes, Cond.code yX3_boxTakes cX3_boxTakes 2 (some .boolean), Cond.methodLink RX6 233 yX1_failAsLaid, Cond.instanceMethod yX1_failAsLaid, Cond.selects RX1 yX1_failAsLaid yX1_failAsLaid, Cond.code yX1_failAsLaid cX1_failAsLaid 2 (some (.object "BenchRuns$Way")), Cond.methodLink RX6 161 yX6_takeFailure, Cond.instanceMethod yX6_takeFailure, Cond.selects RX6 yX6_takeFailure yX6_takeFailure, Cond.code yX6_takeFailure cX6_takeFailure 3 (some (.object "BenchRuns$Way")), Cond.methodLink RX6 168 yX1_noteFailure, Cond.instanceMethod yX1_noteFailure, Cond.selects RX1 yX1_noteFailure yX1_noteFailure, Cond.code yX1_noteFailure cX1_noteFailure 1 none, Cond.methodLink RX6 110 yX1_failInStead, Cond.instanceMethod yX1_failInStead, Cond.selects RX1 yX1_failInStead yX1_failInStead, Cond.code yX1_failInStead cX1_failInStead 2 none, Cond.methodLink RL 56 yX7_run, Cond.instanceMethod yX7_run, Cond.selects RX7 yX7_run yX7_run, Cond.code yX7_run cX7_run 6 (some .int), Cond.fieldLink RX7 146 "BenchRunsModel" "whys" "I", Cond.fieldLink RX7 110 "BenchRunsModel" "stopped" "I"]
def wsL_law_r15 : List Cond := [Cond.methodLink RX7 158 yX7_works, Cond.instanceMethod yX7_works, Cond.selects RX7 yX7_works yX7_works, Cond.code yX7_works cX7_works 4 (some .int), Cond.fieldLink RX7 90 "BenchRunsModel" "failure" "I", Cond.methodLink RX7 135 yX7_mark, Cond.instanceMethod yX7_mark, Cond.selects RX7 yX7_mark yX7_mark, Cond.code yX7_mark cX7_mark 2 none, Cond.methodLink RX7 149 yX7_does, Cond.instanceMethod yX7_does, Cond.selects RX7 yX7_does yX7_does, Cond.code yX7_does cX7_does 4 (some .int), Cond.methodLink RX7 97 yX7_fails, Cond.instanceMethod yX7_fails, Cond.selects RX7 yX7_fails yX7_fails, Cond.code yX7_fails cX7_fails 2 (some .int), Cond.fieldLink RX7 93 "BenchRunsModel" "isMachines" "Z", Cond.methodLink RX7 143 yX7_goes, Cond.instanceMethod yX7_goes, Cond.selects RX7 yX7_goes yX7_goes, Cond.code yX7_goes cX7_goes 5 (some .int), Cond.fieldLink RX7 113 "BenchRunsModel" "again" "I", Cond.methodLink RX7 139 yX7_act]
def wsL_law_r16 : List Cond := [Cond.instanceMethod yX7_act, Cond.selects RX7 yX7_act yX7_act, Cond.code yX7_act cX7_act 4 (some .int), Cond.methodLink RX7 103 yX7_more, Cond.instanceMethod yX7_more, Cond.selects RX7 yX7_more yX7_more, Cond.code yX7_more cX7_more 3 (some .int), Cond.methodLink RX7 107 yX7_pours, Cond.instanceMethod yX7_pours, Cond.selects RX7 yX7_pours yX7_pours, Cond.code yX7_pours cX7_pours 3 (some .int), Cond.methodLink RX7 116 yX7_uses, Cond.instanceMethod yX7_uses, Cond.selects RX7 yX7_uses yX7_uses, Cond.code yX7_uses cX7_uses 2 (some .int), Cond.methodLink RX7 118 yX7_grips, Cond.instanceMethod yX7_grips, Cond.selects RX7 yX7_grips yX7_grips, Cond.code yX7_grips cX7_grips 3 (some .int), Cond.methodLink RX7 120 yX7_boxes, Cond.instanceMethod yX7_boxes, Cond.selects RX7 yX7_boxes yX7_boxes, Cond.code yX7_boxes cX7_boxes 4 (some .int), Cond.fieldLink RX7 100 "BenchRunsModel" "boxSort" "I"]
def wsL_law_r17 : List Cond := [Cond.methodLink RX7 123 yX7_grids, Cond.instanceMethod yX7_grids, Cond.selects RX7 yX7_grids yX7_grids, Cond.code yX7_grids cX7_grids 3 (some .int), Cond.methodLink RX7 126 yX7_puts, Cond.instanceMethod yX7_puts, Cond.selects RX7 yX7_puts yX7_puts, Cond.code yX7_puts cX7_puts 3 (some .int), Cond.methodLink RX7 129 yX7_counts, Cond.instanceMethod yX7_counts, Cond.selects RX7 yX7_counts yX7_counts, Cond.code yX7_counts cX7_counts 4 (some .int), Cond.methodLink RX7 132 yX7_raises, Cond.instanceMethod yX7_raises, Cond.selects RX7 yX7_raises yX7_raises, Cond.code yX7_raises cX7_raises 2 (some .int), Cond.methodLink RX7 152 yX7_reasons, Cond.instanceMethod yX7_reasons, Cond.selects RX7 yX7_reasons yX7_reasons, Cond.code yX7_reasons cX7_reasons 2 none, Cond.methodLink RX7 155 yX7_inStead, Cond.instanceMethod yX7_inStead, Cond.selects RX7 yX7_inStead yX7_inStead, Cond.code yX7_inStead cX7_inStead 3 none]
def wsL_law_r18 : List Cond := [Cond.methodLink RL 57 yX6_why, Cond.instanceMethod yX6_why, Cond.selects RX6 yX6_why yX6_why, Cond.code yX6_why cX6_why 2 (some .int), Cond.fieldLink RX6 119 "BenchRuns$Log" "chainLength" "I", Cond.fieldLink RX6 122 "BenchRuns$Log" "chain" "[I", Cond.methodLink RL 60 yX7_why, Cond.instanceMethod yX7_why, Cond.selects RX7 yX7_why yX7_why, Cond.code yX7_why cX7_why 2 (some .int), Cond.methodLink RL 61 yX6_told, Cond.instanceMethod yX6_told, Cond.selects RX6 yX6_told yX6_told, Cond.code yX6_told cX6_told 2 (some .int), Cond.fieldLink RX6 125 "BenchRuns$Log" "eventCount" "I", Cond.fieldLink RX6 128 "BenchRuns$Log" "notedCount" "I", Cond.methodLink RL 64 yX7_told, Cond.instanceMethod yX7_told, Cond.selects RX7 yX7_told yX7_told, Cond.code yX7_told cX7_told 2 (some .int), Cond.methodLink RL 65 yX6_trace, Cond.instanceMethod yX6_trace, Cond.selects RX6 yX6_trace yX6_trace, Cond.code yX6_trace cX6_trace 2 (some .int)]
def wsL_law_r19 : List Cond := [Cond.methodLink RX6 134 Lib.Math.min.name, Cond.static Lib.Math.min.name, Cond.initialized "java/lang/Math", Cond.code Lib.Math.min.name Lib.Math.min.code 2 (some .int), Cond.fieldLink RX6 139 "BenchRuns$Log" "events" "[I", Cond.methodLink RL 68 yX7_trace, Cond.instanceMethod yX7_trace, Cond.selects RX7 yX7_trace yX7_trace, Cond.code yX7_trace cX7_trace 2 (some .int), Cond.methodLink RL 69 yX6_noted, Cond.instanceMethod yX6_noted, Cond.selects RX6 yX6_noted yX6_noted, Cond.code yX6_noted cX6_noted 2 (some .int), Cond.fieldLink RX6 142 "BenchRuns$Log" "notedNumbers" "[I", Cond.methodLink RL 72 yX7_noted, Cond.instanceMethod yX7_noted, Cond.selects RX7 yX7_noted yX7_noted, Cond.code yX7_noted cX7_noted 2 (some .int), Cond.methodLink RL 73 yX6_drops, Cond.instanceMethod yX6_drops, Cond.selects RX6 yX6_drops yX6_drops, Cond.code yX6_drops cX6_drops 2 (some .int), Cond.methodLink RL 76 yX7_drops, Cond.instanceMethod yX7_drops]
def wsL_law_r20 : List Cond := [Cond.selects RX7 yX7_drops yX7_drops, Cond.code yX7_drops cX7_drops 2 (some .int), Cond.methodLink RL 77 yX6_sum, Cond.instanceMethod yX6_sum, Cond.selects RX6 yX6_sum yX6_sum, Cond.code yX6_sum cX6_sum 6 (some .int), Cond.methodLink RL 81 yX7_sum, Cond.instanceMethod yX7_sum, Cond.selects RX7 yX7_sum yX7_sum, Cond.code yX7_sum cX7_sum 3 (some .int)]
def wsL_law : List Cond := (wsL_law_r1 ++ (wsL_law_r2 ++ (wsL_law_r3 ++ (wsL_law_r4 ++ (wsL_law_r5 ++ (wsL_law_r6 ++ (wsL_law_r7 ++ (wsL_law_r8 ++ (wsL_law_r9 ++ (wsL_law_r10 ++ (wsL_law_r11 ++ (wsL_law_r12 ++ (wsL_law_r13 ++ (wsL_law_r14 ++ (wsL_law_r15 ++ (wsL_law_r16 ++ (wsL_law_r17 ++ (wsL_law_r18 ++ (wsL_law_r19 ++ wsL_law_r20))))))))))))))))))) ++ wsX60 ++ wsX70 ++ wsX30 ++ wsX10 ++ wsX00 ++ wsX40 ++ wsX20 ++ ([] : List Cond)
end
section
theorem wl_places {big : List Cond} (ws : List Cond) (ps : List Nat) (hp : ws = ps.filterMap (fun i => big[i]?)) : ∀ w ∈ ws, w ∈ big := by
  intro w hw
  rw [hp] at hw
  obtain ⟨i, -, hi⟩ := List.mem_filterMap.mp hw
  first | exact List.mem_of_getElem? hi | exact List.getElem?_mem hi
theorem wl_app {big a b : List Cond} (ha : ∀ w ∈ a, w ∈ big) (hb : ∀ w ∈ b, w ∈ big) : ∀ w ∈ a ++ b, w ∈ big := fun w h => (List.mem_append.mp h).elim (ha w) (hb w)
set_option maxRecDepth 20000 in
theorem wl_in_r1 : ∀ w ∈ wsL_law_r1, w ∈ lw_tbl := wl_places _ [41, 42, 31, 404, 405, 37, 43, 44, 45, 46, 47, 48, 80, 176, 49, 177, 51, 178, 179, 53, 54, 32, 180, 81] (by decide +kernel)
set_option maxRecDepth 20000 in
theorem wl_in_r2 : ∀ w ∈ wsL_law_r2, w ∈ lw_tbl := wl_places _ [82, 33, 181, 182, 116, 34, 158, 36, 56, 57, 58, 59, 61, 62, 64, 65, 66, 84, 85, 86, 87, 89, 91, 93] (by decide +kernel)
set_option maxRecDepth 20000 in
theorem wl_in_r3 : ∀ w ∈ wsL_law_r3, w ∈ lw_tbl := wl_places _ [95, 97, 99, 117, 118, 119, 120, 121, 145, 147, 149, 123, 35, 125, 126, 127, 128, 130, 132, 134, 160, 161, 162, 163] (by decide +kernel)
set_option maxRecDepth 20000 in
theorem wl_in_r4 : ∀ w ∈ wsL_law_r4, w ∈ lw_tbl := wl_places _ [165, 167, 406, 407, 408, 409, 495, 411, 412, 413, 414, 415, 416, 417, 418, 419, 420, 421, 422, 423, 425, 426, 428, 429] (by decide +kernel)
set_option maxRecDepth 20000 in
theorem wl_in_r5 : ∀ w ∈ wsL_law_r5, w ∈ lw_tbl := wl_places _ [430, 431, 432, 198, 199, 200, 201, 202, 203, 204, 205, 206, 207, 496, 497, 498, 499, 410, 500, 501, 502, 208, 209, 210] (by decide +kernel)
set_option maxRecDepth 20000 in
theorem wl_in_r6 : ∀ w ∈ wsL_law_r6, w ∈ lw_tbl := wl_places _ [211, 148, 212, 213, 214, 215, 503, 504, 505, 506, 507, 508, 509, 216, 217, 218, 219, 220, 221, 222, 223, 224, 225, 226] (by decide +kernel)
set_option maxRecDepth 20000 in
theorem wl_in_r7 : ∀ w ∈ wsL_law_r7, w ∈ lw_tbl := wl_places _ [227, 510, 511, 512, 513, 228, 229, 230, 231, 232, 146, 234, 235, 236, 237, 514, 515, 516, 517, 518, 519, 520, 238, 239] (by decide +kernel)
set_option maxRecDepth 20000 in
theorem wl_in_r8 : ∀ w ∈ wsL_law_r8, w ∈ lw_tbl := wl_places _ [240, 241, 164, 242, 243, 244, 245, 521, 522, 523, 524, 246, 247, 248, 249, 525, 526, 527, 528, 250, 251, 252, 253, 168] (by decide +kernel)
set_option maxRecDepth 20000 in
theorem wl_in_r9 : ∀ w ∈ wsL_law_r9, w ∈ lw_tbl := wl_places _ [166, 529, 530, 531, 532, 254, 255, 256, 257, 258, 259, 260, 261, 533, 534, 535, 536, 427, 262, 263, 264, 265, 63, 60] (by decide +kernel)
set_option maxRecDepth 20000 in
theorem wl_in_r10 : ∀ w ∈ wsL_law_r10, w ∈ lw_tbl := wl_places _ [537, 538, 539, 540, 266, 267, 268, 269, 364, 324, 298, 270, 271, 272, 273, 274, 276, 0, 277, 278, 320, 150, 322, 280] (by decide +kernel)
set_option maxRecDepth 20000 in
theorem wl_in_r11 : ∀ w ∈ wsL_law_r11, w ∈ lw_tbl := wl_places _ [281, 282, 283, 284, 286, 1, 287, 135, 288, 289, 290, 291, 292, 294, 296, 2, 297, 133, 88, 129, 131, 326, 300, 302] (by decide +kernel)
set_option maxRecDepth 20000 in
theorem wl_in_r12 : ∀ w ∈ wsL_law_r12, w ∈ lw_tbl := wl_places _ [3, 303, 304, 306, 4, 307, 308, 310, 5, 311, 312, 314, 6, 315, 316, 318, 7, 319, 328, 330, 8, 331, 332, 334] (by decide +kernel)
set_option maxRecDepth 20000 in
theorem wl_in_r13 : ∀ w ∈ wsL_law_r13, w ∈ lw_tbl := wl_places _ [9, 335, 336, 338, 10, 339, 340, 341, 342, 343, 344, 345, 346, 347, 348, 349, 350, 351, 352, 354, 11, 355, 356, 357] (by decide +kernel)
set_option maxRecDepth 20000 in
theorem wl_in_r14 : ∀ w ∈ wsL_law_r14, w ∈ lw_tbl := wl_places _ [358, 359, 360, 361, 362, 363, 365, 367, 12, 368, 369, 370, 371, 372, 373, 374, 375, 376, 541, 542, 543, 544, 433, 437] (by decide +kernel)
set_option maxRecDepth 20000 in
theorem wl_in_r15 : ∀ w ∈ wsL_law_r15, w ∈ lw_tbl := wl_places _ [545, 547, 13, 548, 434, 549, 551, 14, 552, 553, 555, 15, 556, 557, 559, 16, 560, 435, 561, 563, 17, 564, 436, 565] (by decide +kernel)
set_option maxRecDepth 20000 in
theorem wl_in_r16 : ∀ w ∈ wsL_law_r16, w ∈ lw_tbl := wl_places _ [567, 18, 568, 569, 571, 19, 572, 573, 575, 20, 576, 577, 579, 21, 580, 581, 583, 22, 584, 585, 587, 23, 588, 424] (by decide +kernel)
set_option maxRecDepth 20000 in
theorem wl_in_r17 : ∀ w ∈ wsL_law_r17, w ∈ lw_tbl := wl_places _ [589, 591, 24, 592, 593, 595, 25, 596, 597, 599, 26, 600, 601, 603, 27, 604, 605, 607, 28, 608, 609, 611, 29, 612] (by decide +kernel)
set_option maxRecDepth 20000 in
theorem wl_in_r18 : ∀ w ∈ wsL_law_r18, w ∈ lw_tbl := wl_places _ [377, 378, 379, 380, 100, 98, 613, 614, 615, 616, 381, 382, 383, 384, 92, 96, 617, 618, 619, 620, 385, 386, 387, 388] (by decide +kernel)
set_option maxRecDepth 20000 in
theorem wl_in_r19 : ∀ w ∈ wsL_law_r19, w ∈ lw_tbl := wl_places _ [389, 390, 40, 391, 90, 621, 622, 623, 624, 392, 393, 394, 395, 94, 625, 626, 627, 628, 396, 397, 398, 399, 629, 630] (by decide +kernel)
set_option maxRecDepth 20000 in
theorem wl_in_r20 : ∀ w ∈ wsL_law_r20, w ∈ lw_tbl := wl_places _ [631, 632, 400, 401, 402, 403, 633, 634, 635, 636] (by decide +kernel)
set_option maxRecDepth 20000 in
theorem wl_in_wsX60 : ∀ w ∈ wsX60, w ∈ lw_tbl := by decide +kernel
set_option maxRecDepth 20000 in
theorem wl_in_wsX70 : ∀ w ∈ wsX70, w ∈ lw_tbl := by decide +kernel
set_option maxRecDepth 20000 in
theorem wl_in_wsX30 : ∀ w ∈ wsX30, w ∈ lw_tbl := by decide +kernel
set_option maxRecDepth 20000 in
theorem wl_in_wsX10 : ∀ w ∈ wsX10, w ∈ lw_tbl := by decide +kernel
set_option maxRecDepth 20000 in
theorem wl_in_wsX00 : ∀ w ∈ wsX00, w ∈ lw_tbl := by decide +kernel
set_option maxRecDepth 20000 in
theorem wl_in_wsX40 : ∀ w ∈ wsX40, w ∈ lw_tbl := by decide +kernel
set_option maxRecDepth 20000 in
theorem wl_in_wsX20 : ∀ w ∈ wsX20, w ∈ lw_tbl := by decide +kernel
theorem wsL_law_in : ∀ w ∈ wsL_law, w ∈ lw_tbl := wl_app (wl_app (wl_app (wl_app (wl_app (wl_app (wl_app (wl_app (wl_app wl_in_r1 (wl_app wl_in_r2 (wl_app wl_in_r3 (wl_app wl_in_r4 (wl_app wl_in_r5 (wl_app wl_in_r6 (wl_app wl_in_r7 (wl_app wl_in_r8 (wl_app wl_in_r9 (wl_app wl_in_r10 (wl_app wl_in_r11 (wl_app wl_in_r12 (wl_app wl_in_r13 (wl_app wl_in_r14 (wl_app wl_in_r15 (wl_app wl_in_r16 (wl_app wl_in_r17 (wl_app wl_in_r18 (wl_app wl_in_r19 wl_in_r20))))))))))))))))))) wl_in_wsX60) wl_in_wsX70) wl_in_wsX30) wl_in_wsX10) wl_in_wsX00) wl_in_wsX40) wl_in_wsX20) (fun _ h => absurd h List.not_mem_nil)
theorem inlX0 : ∀ w ∈ wsX00, w ∈ wsL_law := fun _ h => List.mem_append_left _ (List.mem_append_left _ (List.mem_append_left _ (List.mem_append_right _ h)))
theorem inX0 : ∀ w ∈ wsX00, w ∈ lw_tbl := fun w h => wsL_law_in w (inlX0 w h)
theorem inlX1 : ∀ w ∈ wsX10, w ∈ wsL_law := fun _ h => List.mem_append_left _ (List.mem_append_left _ (List.mem_append_left _ (List.mem_append_left _ (List.mem_append_right _ h))))
theorem inX1 : ∀ w ∈ wsX10, w ∈ lw_tbl := fun w h => wsL_law_in w (inlX1 w h)
theorem inlX2 : ∀ w ∈ wsX20, w ∈ wsL_law := fun _ h => List.mem_append_left _ (List.mem_append_right _ h)
theorem inX2 : ∀ w ∈ wsX20, w ∈ lw_tbl := fun w h => wsL_law_in w (inlX2 w h)
theorem inlX3 : ∀ w ∈ wsX30, w ∈ wsL_law := fun _ h => List.mem_append_left _ (List.mem_append_left _ (List.mem_append_left _ (List.mem_append_left _ (List.mem_append_left _ (List.mem_append_right _ h)))))
theorem inX3 : ∀ w ∈ wsX30, w ∈ lw_tbl := fun w h => wsL_law_in w (inlX3 w h)
theorem inlX4 : ∀ w ∈ wsX40, w ∈ wsL_law := fun _ h => List.mem_append_left _ (List.mem_append_left _ (List.mem_append_right _ h))
theorem inX4 : ∀ w ∈ wsX40, w ∈ lw_tbl := fun w h => wsL_law_in w (inlX4 w h)
theorem inX5 : ∀ w ∈ wsX50, w ∈ lw_tbl := by decide +kernel
theorem inlX6 : ∀ w ∈ wsX60, w ∈ wsL_law := fun _ h => List.mem_append_left _ (List.mem_append_left _ (List.mem_append_left _ (List.mem_append_left _ (List.mem_append_left _ (List.mem_append_left _ (List.mem_append_left _ (List.mem_append_right _ h)))))))
theorem inX6 : ∀ w ∈ wsX60, w ∈ lw_tbl := fun w h => wsL_law_in w (inlX6 w h)
theorem inlX7 : ∀ w ∈ wsX70, w ∈ wsL_law := fun _ h => List.mem_append_left _ (List.mem_append_left _ (List.mem_append_left _ (List.mem_append_left _ (List.mem_append_left _ (List.mem_append_left _ (List.mem_append_right _ h))))))
theorem inX7 : ∀ w ∈ wsX70, w ∈ lw_tbl := fun w h => wsL_law_in w (inlX7 w h)
theorem inJx29ce0 : ∀ w ∈ wsJx29ce00, w ∈ lw_tbl := by decide +kernel
end
section
theorem inJ9 : ∀ w ∈ wsJ90, w ∈ lw_tbl := by decide +kernel
set_option maxRecDepth 20000 in
theorem ggX0_init_X2_init : GoodIn wsX0_init wsX2_init := goodIn_r _ [11, 12, 2, 3, 13, 14, 15, 16, 17, 21, 22, 23, 24] (by decide +kernel) (by decide +kernel)
set_option maxRecDepth 20000 in
theorem gX0_init_X2_init_n24 : GoodIn wsX0_init (wsX2_init) := ggX0_init_X2_init
theorem dX0_init_0 : decode cX0_init 0 = .ok (.aload_n 0, 1) := by decide +kernel
theorem dX0_init_1 : decode cX0_init 1 = .ok (.invokespecial 3, 3) := by decide +kernel
theorem dX0_init_4 : decode cX0_init 4 = .ok (.aload_n 0, 1) := by decide +kernel
theorem dX0_init_5 : decode cX0_init 5 = .ok (.bipush 6, 2) := by decide +kernel
theorem dX0_init_7 : decode cX0_init 7 = .ok (.anewarray 9, 3) := by decide +kernel
theorem dX0_init_10 : decode cX0_init 10 = .ok (.putfield 11, 3) := by decide +kernel
theorem dX0_init_13 : decode cX0_init 13 = .ok (.aload_n 0, 1) := by decide +kernel
theorem dX0_init_14 : decode cX0_init 14 = .ok (.iconst 0, 1) := by decide +kernel
theorem dX0_init_15 : decode cX0_init 15 = .ok (.putfield 17, 3) := by decide +kernel
theorem dX0_init_18 : decode cX0_init 18 = .ok (.aload_n 0, 1) := by decide +kernel
theorem dX0_init_19 : decode cX0_init 19 = .ok (.iconst 0, 1) := by decide +kernel
theorem dX0_init_20 : decode cX0_init 20 = .ok (.putfield 21, 3) := by decide +kernel
theorem dX0_init_23 : decode cX0_init 23 = .ok (.iconst 0, 1) := by decide +kernel
theorem dX0_init_24 : decode cX0_init 24 = .ok (.istore_n 1, 1) := by decide +kernel
theorem dX0_init_25 : decode cX0_init 25 = .ok (.iload_n 1, 1) := by decide +kernel
theorem dX0_init_26 : decode cX0_init 26 = .ok (.bipush 6, 2) := by decide +kernel
theorem dX0_init_28 : decode cX0_init 28 = .ok (.if_icmp .ge 22, 3) := by decide +kernel
theorem dX0_init_31 : decode cX0_init 31 = .ok (.aload_n 0, 1) := by decide +kernel
theorem dX0_init_32 : decode cX0_init 32 = .ok (.getfield 11, 3) := by decide +kernel
theorem dX0_init_35 : decode cX0_init 35 = .ok (.iload_n 1, 1) := by decide +kernel
theorem dX0_init_36 : decode cX0_init 36 = .ok (.new 9, 3) := by decide +kernel
theorem dX0_init_39 : decode cX0_init 39 = .ok (.dup, 1) := by decide +kernel
theorem dX0_init_40 : decode cX0_init 40 = .ok (.invokespecial 24, 3) := by decide +kernel
theorem dX0_init_43 : decode cX0_init 43 = .ok (.aastore, 1) := by decide +kernel
theorem dX0_init_44 : decode cX0_init 44 = .ok (.iinc 1 1, 3) := by decide +kernel
theorem dX0_init_47 : decode cX0_init 47 = .ok (.goto (-22), 3) := by decide +kernel
theorem dX0_init_50 : decode cX0_init 50 = .ok (.return_, 1) := by decide +kernel
theorem dX0_beginAnew_0 : decode cX0_beginAnew 0 = .ok (.aload_n 0, 1) := by decide +kernel
theorem dX0_beginAnew_1 : decode cX0_beginAnew 1 = .ok (.iload_n 1, 1) := by decide +kernel
theorem dX0_beginAnew_2 : decode cX0_beginAnew 2 = .ok (.putfield 21, 3) := by decide +kernel
theorem dX0_beginAnew_5 : decode cX0_beginAnew 5 = .ok (.aload_n 0, 1) := by decide +kernel
theorem dX0_beginAnew_6 : decode cX0_beginAnew 6 = .ok (.iconst 0, 1) := by decide +kernel
theorem dX0_beginAnew_7 : decode cX0_beginAnew 7 = .ok (.putfield 17, 3) := by decide +kernel
theorem dX0_beginAnew_10 : decode cX0_beginAnew 10 = .ok (.return_, 1) := by decide +kernel
set_option maxRecDepth 20000 in
theorem ggX0_addRound_X2_beginAnew : GoodIn wsX0_addRound wsX2_beginAnew := goodIn_r _ [7, 8, 9, 13, 14, 15, 16] (by decide +kernel) (by decide +kernel)
set_option maxRecDepth 20000 in
theorem gX0_addRound_X2_beginAnew : GoodIn wsX0_addRound (wsV RX0 25 RX2 yX2_beginAnew wsX2_beginAnew) := goodIn_app (goodIn_of _ (by decide +kernel)) ggX0_addRound_X2_beginAnew
theorem dX0_addRound_0 : decode cX0_addRound 0 = .ok (.aload_n 0, 1) := by decide +kernel
theorem dX0_addRound_1 : decode cX0_addRound 1 = .ok (.getfield 17, 3) := by decide +kernel
theorem dX0_addRound_4 : decode cX0_addRound 4 = .ok (.bipush 6, 2) := by decide +kernel
theorem dX0_addRound_6 : decode cX0_addRound 6 = .ok (.if_icmp .lt 6, 3) := by decide +kernel
theorem dX0_addRound_9 : decode cX0_addRound 9 = .ok (.bipush (-2), 2) := by decide +kernel
theorem dX0_addRound_11 : decode cX0_addRound 11 = .ok (.ireturn, 1) := by decide +kernel
theorem dX0_addRound_12 : decode cX0_addRound 12 = .ok (.aload_n 0, 1) := by decide +kernel
theorem dX0_addRound_13 : decode cX0_addRound 13 = .ok (.getfield 11, 3) := by decide +kernel
theorem dX0_addRound_16 : decode cX0_addRound 16 = .ok (.aload_n 0, 1) := by decide +kernel
theorem dX0_addRound_17 : decode cX0_addRound 17 = .ok (.getfield 17, 3) := by decide +kernel
theorem dX0_addRound_20 : decode cX0_addRound 20 = .ok (.aaload, 1) := by decide +kernel
theorem dX0_addRound_21 : decode cX0_addRound 21 = .ok (.iload_n 1, 1) := by decide +kernel
theorem dX0_addRound_22 : decode cX0_addRound 22 = .ok (.invokevirtual 25, 3) := by decide +kernel
theorem dX0_addRound_25 : decode cX0_addRound 25 = .ok (.aload_n 0, 1) := by decide +kernel
theorem dX0_addRound_26 : decode cX0_addRound 26 = .ok (.dup, 1) := by decide +kernel
theorem dX0_addRound_27 : decode cX0_addRound 27 = .ok (.getfield 17, 3) := by decide +kernel
theorem dX0_addRound_30 : decode cX0_addRound 30 = .ok (.dup_x1, 1) := by decide +kernel
theorem dX0_addRound_31 : decode cX0_addRound 31 = .ok (.iconst 1, 1) := by decide +kernel
theorem dX0_addRound_32 : decode cX0_addRound 32 = .ok (.iadd, 1) := by decide +kernel
theorem dX0_addRound_33 : decode cX0_addRound 33 = .ok (.putfield 17, 3) := by decide +kernel
theorem dX0_addRound_36 : decode cX0_addRound 36 = .ok (.ireturn, 1) := by decide +kernel
theorem dX1_init_0 : decode cX1_init 0 = .ok (.aload_n 0, 1) := by decide +kernel
theorem dX1_init_1 : decode cX1_init 1 = .ok (.invokespecial 3, 3) := by decide +kernel
theorem dX1_init_4 : decode cX1_init 4 = .ok (.aload_n 0, 1) := by decide +kernel
theorem dX1_init_5 : decode cX1_init 5 = .ok (.bipush 7, 2) := by decide +kernel
theorem dX1_init_7 : decode cX1_init 7 = .ok (.newarray .int, 2) := by decide +kernel
theorem dX1_init_9 : decode cX1_init 9 = .ok (.putfield 9, 3) := by decide +kernel
theorem dX1_init_12 : decode cX1_init 12 = .ok (.aload_n 0, 1) := by decide +kernel
theorem dX1_init_13 : decode cX1_init 13 = .ok (.sipush 400, 3) := by decide +kernel
theorem dX1_init_16 : decode cX1_init 16 = .ok (.newarray .int, 2) := by decide +kernel
theorem dX1_init_18 : decode cX1_init 18 = .ok (.putfield 15, 3) := by decide +kernel
theorem dX1_init_21 : decode cX1_init 21 = .ok (.aload_n 0, 1) := by decide +kernel
theorem dX1_init_22 : decode cX1_init 22 = .ok (.iconst 0, 1) := by decide +kernel
theorem dX1_init_23 : decode cX1_init 23 = .ok (.putfield 18, 3) := by decide +kernel
theorem dX1_init_26 : decode cX1_init 26 = .ok (.aload_n 0, 1) := by decide +kernel
theorem dX1_init_27 : decode cX1_init 27 = .ok (.bipush 24, 2) := by decide +kernel
theorem dX1_init_29 : decode cX1_init 29 = .ok (.newarray .int, 2) := by decide +kernel
theorem dX1_init_31 : decode cX1_init 31 = .ok (.putfield 22, 3) := by decide +kernel
theorem dX1_init_34 : decode cX1_init 34 = .ok (.aload_n 0, 1) := by decide +kernel
theorem dX1_init_35 : decode cX1_init 35 = .ok (.iconst 0, 1) := by decide +kernel
theorem dX1_init_36 : decode cX1_init 36 = .ok (.putfield 25, 3) := by decide +kernel
theorem dX1_init_39 : decode cX1_init 39 = .ok (.aload_n 0, 1) := by decide +kernel
theorem dX1_init_40 : decode cX1_init 40 = .ok (.iconst 4, 1) := by decide +kernel
theorem dX1_init_41 : decode cX1_init 41 = .ok (.newarray .int, 2) := by decide +kernel
theorem dX1_init_43 : decode cX1_init 43 = .ok (.putfield 28, 3) := by decide +kernel
theorem dX1_init_46 : decode cX1_init 46 = .ok (.aload_n 0, 1) := by decide +kernel
theorem dX1_init_47 : decode cX1_init 47 = .ok (.iconst 0, 1) := by decide +kernel
theorem dX1_init_48 : decode cX1_init 48 = .ok (.putfield 31, 3) := by decide +kernel
theorem dX1_init_51 : decode cX1_init 51 = .ok (.return_, 1) := by decide +kernel
theorem dX1_beginAnew_0 : decode cX1_beginAnew 0 = .ok (.iconst 1, 1) := by decide +kernel
theorem dX1_beginAnew_1 : decode cX1_beginAnew 1 = .ok (.istore_n 1, 1) := by decide +kernel
theorem dX1_beginAnew_2 : decode cX1_beginAnew 2 = .ok (.iload_n 1, 1) := by decide +kernel
theorem dX1_beginAnew_3 : decode cX1_beginAnew 3 = .ok (.bipush 6, 2) := by decide +kernel
theorem dX1_beginAnew_5 : decode cX1_beginAnew 5 = .ok (.if_icmp .gt 16, 3) := by decide +kernel
theorem dX1_beginAnew_8 : decode cX1_beginAnew 8 = .ok (.aload_n 0, 1) := by decide +kernel
theorem dX1_beginAnew_9 : decode cX1_beginAnew 9 = .ok (.getfield 9, 3) := by decide +kernel
theorem dX1_beginAnew_12 : decode cX1_beginAnew 12 = .ok (.iload_n 1, 1) := by decide +kernel
theorem dX1_beginAnew_13 : decode cX1_beginAnew 13 = .ok (.iconst 0, 1) := by decide +kernel
theorem dX1_beginAnew_14 : decode cX1_beginAnew 14 = .ok (.iastore, 1) := by decide +kernel
theorem dX1_beginAnew_15 : decode cX1_beginAnew 15 = .ok (.iinc 1 1, 3) := by decide +kernel
theorem dX1_beginAnew_18 : decode cX1_beginAnew 18 = .ok (.goto (-16), 3) := by decide +kernel
theorem dX1_beginAnew_21 : decode cX1_beginAnew 21 = .ok (.aload_n 0, 1) := by decide +kernel
theorem dX1_beginAnew_22 : decode cX1_beginAnew 22 = .ok (.iconst 0, 1) := by decide +kernel
theorem dX1_beginAnew_23 : decode cX1_beginAnew 23 = .ok (.putfield 18, 3) := by decide +kernel
theorem dX1_beginAnew_26 : decode cX1_beginAnew 26 = .ok (.aload_n 0, 1) := by decide +kernel
theorem dX1_beginAnew_27 : decode cX1_beginAnew 27 = .ok (.iconst 0, 1) := by decide +kernel
theorem dX1_beginAnew_28 : decode cX1_beginAnew 28 = .ok (.putfield 25, 3) := by decide +kernel
theorem dX1_beginAnew_31 : decode cX1_beginAnew 31 = .ok (.aload_n 0, 1) := by decide +kernel
theorem dX1_beginAnew_32 : decode cX1_beginAnew 32 = .ok (.iconst 0, 1) := by decide +kernel
theorem dX1_beginAnew_33 : decode cX1_beginAnew 33 = .ok (.putfield 31, 3) := by decide +kernel
theorem dX1_beginAnew_36 : decode cX1_beginAnew 36 = .ok (.return_, 1) := by decide +kernel
theorem dX1_mark_0 : decode cX1_mark 0 = .ok (.aload_n 0, 1) := by decide +kernel
theorem dX1_mark_1 : decode cX1_mark 1 = .ok (.getfield 9, 3) := by decide +kernel
theorem dX1_mark_4 : decode cX1_mark 4 = .ok (.iload_n 1, 1) := by decide +kernel
theorem dX1_mark_5 : decode cX1_mark 5 = .ok (.dup2, 1) := by decide +kernel
theorem dX1_mark_6 : decode cX1_mark 6 = .ok (.iaload, 1) := by decide +kernel
theorem dX1_mark_7 : decode cX1_mark 7 = .ok (.iconst 1, 1) := by decide +kernel
theorem dX1_mark_8 : decode cX1_mark 8 = .ok (.iadd, 1) := by decide +kernel
theorem dX1_mark_9 : decode cX1_mark 9 = .ok (.iastore, 1) := by decide +kernel
theorem dX1_mark_10 : decode cX1_mark 10 = .ok (.aload_n 0, 1) := by decide +kernel
theorem dX1_mark_11 : decode cX1_mark 11 = .ok (.getfield 18, 3) := by decide +kernel
theorem dX1_mark_14 : decode cX1_mark 14 = .ok (.sipush 400, 3) := by decide +kernel
theorem dX1_mark_17 : decode cX1_mark 17 = .ok (.if_icmp .ge 13, 3) := by decide +kernel
theorem dX1_mark_20 : decode cX1_mark 20 = .ok (.aload_n 0, 1) := by decide +kernel
theorem dX1_mark_21 : decode cX1_mark 21 = .ok (.getfield 15, 3) := by decide +kernel
theorem dX1_mark_24 : decode cX1_mark 24 = .ok (.aload_n 0, 1) := by decide +kernel
theorem dX1_mark_25 : decode cX1_mark 25 = .ok (.getfield 18, 3) := by decide +kernel
theorem dX1_mark_28 : decode cX1_mark 28 = .ok (.iload_n 1, 1) := by decide +kernel
theorem dX1_mark_29 : decode cX1_mark 29 = .ok (.iastore, 1) := by decide +kernel
theorem dX1_mark_30 : decode cX1_mark 30 = .ok (.aload_n 0, 1) := by decide +kernel
theorem dX1_mark_31 : decode cX1_mark 31 = .ok (.dup, 1) := by decide +kernel
theorem dX1_mark_32 : decode cX1_mark 32 = .ok (.getfield 18, 3) := by decide +kernel
theorem dX1_mark_35 : decode cX1_mark 35 = .ok (.iconst 1, 1) := by decide +kernel
theorem dX1_mark_36 : decode cX1_mark 36 = .ok (.iadd, 1) := by decide +kernel
theorem dX1_mark_37 : decode cX1_mark 37 = .ok (.putfield 18, 3) := by decide +kernel
theorem dX1_mark_40 : decode cX1_mark 40 = .ok (.return_, 1) := by decide +kernel
theorem dX1_fail_0 : decode cX1_fail 0 = .ok (.iload_n 1, 1) := by decide +kernel
theorem dX1_fail_1 : decode cX1_fail 1 = .ok (.iconst 3, 1) := by decide +kernel
theorem dX1_fail_2 : decode cX1_fail 2 = .ok (.if_icmp .lt 13, 3) := by decide +kernel
theorem dX1_fail_5 : decode cX1_fail 5 = .ok (.iload_n 1, 1) := by decide +kernel
theorem dX1_fail_6 : decode cX1_fail 6 = .ok (.bipush 8, 2) := by decide +kernel
theorem dX1_fail_8 : decode cX1_fail 8 = .ok (.if_icmp .gt 7, 3) := by decide +kernel
theorem dX1_fail_11 : decode cX1_fail 11 = .ok (.iconst 1, 1) := by decide +kernel
theorem dX1_fail_12 : decode cX1_fail 12 = .ok (.goto 4, 3) := by decide +kernel
theorem dX1_fail_15 : decode cX1_fail 15 = .ok (.iconst 0, 1) := by decide +kernel
theorem dX1_fail_16 : decode cX1_fail 16 = .ok (.istore_n 2, 1) := by decide +kernel
theorem dX1_fail_17 : decode cX1_fail 17 = .ok (.aload_n 0, 1) := by decide +kernel
theorem dX1_fail_18 : decode cX1_fail 18 = .ok (.getfield 28, 3) := by decide +kernel
theorem dX1_fail_21 : decode cX1_fail 21 = .ok (.iconst 0, 1) := by decide +kernel
theorem dX1_fail_22 : decode cX1_fail 22 = .ok (.iload_n 2, 1) := by decide +kernel
theorem dX1_fail_23 : decode cX1_fail 23 = .ok (.ifCond .eq 10, 3) := by decide +kernel
theorem dX1_fail_26 : decode cX1_fail 26 = .ok (.bipush 100, 2) := by decide +kernel
theorem dX1_fail_28 : decode cX1_fail 28 = .ok (.iload_n 1, 1) := by decide +kernel
theorem dX1_fail_29 : decode cX1_fail 29 = .ok (.iadd, 1) := by decide +kernel
theorem dX1_fail_30 : decode cX1_fail 30 = .ok (.goto 4, 3) := by decide +kernel
theorem dX1_fail_33 : decode cX1_fail 33 = .ok (.iload_n 1, 1) := by decide +kernel
theorem dX1_fail_34 : decode cX1_fail 34 = .ok (.iastore, 1) := by decide +kernel
theorem dX1_fail_35 : decode cX1_fail 35 = .ok (.aload_n 0, 1) := by decide +kernel
theorem dX1_fail_36 : decode cX1_fail 36 = .ok (.getfield 28, 3) := by decide +kernel
theorem dX1_fail_39 : decode cX1_fail 39 = .ok (.iconst 1, 1) := by decide +kernel
theorem dX1_fail_40 : decode cX1_fail 40 = .ok (.iload_n 1, 1) := by decide +kernel
theorem dX1_fail_41 : decode cX1_fail 41 = .ok (.iastore, 1) := by decide +kernel
theorem dX1_fail_42 : decode cX1_fail 42 = .ok (.aload_n 0, 1) := by decide +kernel
theorem dX1_fail_43 : decode cX1_fail 43 = .ok (.iload_n 2, 1) := by decide +kernel
theorem dX1_fail_44 : decode cX1_fail 44 = .ok (.ifCond .eq 7, 3) := by decide +kernel
theorem dX1_fail_47 : decode cX1_fail 47 = .ok (.iconst 2, 1) := by decide +kernel
theorem dX1_fail_48 : decode cX1_fail 48 = .ok (.goto 4, 3) := by decide +kernel
theorem dX1_fail_51 : decode cX1_fail 51 = .ok (.iconst 1, 1) := by decide +kernel
theorem dX1_fail_52 : decode cX1_fail 52 = .ok (.putfield 31, 3) := by decide +kernel
theorem dX1_fail_55 : decode cX1_fail 55 = .ok (.getstatic 34, 3) := by decide +kernel
theorem dX1_fail_58 : decode cX1_fail 58 = .ok (.areturn, 1) := by decide +kernel
theorem dX1_failAsLaid_0 : decode cX1_failAsLaid 0 = .ok (.aload_n 0, 1) := by decide +kernel
theorem dX1_failAsLaid_1 : decode cX1_failAsLaid 1 = .ok (.getfield 28, 3) := by decide +kernel
theorem dX1_failAsLaid_4 : decode cX1_failAsLaid 4 = .ok (.iconst 0, 1) := by decide +kernel
theorem dX1_failAsLaid_5 : decode cX1_failAsLaid 5 = .ok (.iload_n 1, 1) := by decide +kernel
theorem dX1_failAsLaid_6 : decode cX1_failAsLaid 6 = .ok (.iastore, 1) := by decide +kernel
theorem dX1_failAsLaid_7 : decode cX1_failAsLaid 7 = .ok (.aload_n 0, 1) := by decide +kernel
theorem dX1_failAsLaid_8 : decode cX1_failAsLaid 8 = .ok (.iconst 1, 1) := by decide +kernel
theorem dX1_failAsLaid_9 : decode cX1_failAsLaid 9 = .ok (.putfield 31, 3) := by decide +kernel
theorem dX1_failAsLaid_12 : decode cX1_failAsLaid 12 = .ok (.getstatic 34, 3) := by decide +kernel
theorem dX1_failAsLaid_15 : decode cX1_failAsLaid 15 = .ok (.areturn, 1) := by decide +kernel
theorem dX1_failInStead_0 : decode cX1_failInStead 0 = .ok (.aload_n 0, 1) := by decide +kernel
theorem dX1_failInStead_1 : decode cX1_failInStead 1 = .ok (.getfield 31, 3) := by decide +kernel
theorem dX1_failInStead_4 : decode cX1_failInStead 4 = .ok (.iconst 4, 1) := by decide +kernel
theorem dX1_failInStead_5 : decode cX1_failInStead 5 = .ok (.if_icmp .ge 23, 3) := by decide +kernel
theorem dX1_failInStead_8 : decode cX1_failInStead 8 = .ok (.aload_n 0, 1) := by decide +kernel
theorem dX1_failInStead_9 : decode cX1_failInStead 9 = .ok (.getfield 28, 3) := by decide +kernel
theorem dX1_failInStead_12 : decode cX1_failInStead 12 = .ok (.aload_n 0, 1) := by decide +kernel
theorem dX1_failInStead_13 : decode cX1_failInStead 13 = .ok (.getfield 31, 3) := by decide +kernel
theorem dX1_failInStead_16 : decode cX1_failInStead 16 = .ok (.iload_n 1, 1) := by decide +kernel
theorem dX1_failInStead_17 : decode cX1_failInStead 17 = .ok (.iastore, 1) := by decide +kernel
theorem dX1_failInStead_18 : decode cX1_failInStead 18 = .ok (.aload_n 0, 1) := by decide +kernel
theorem dX1_failInStead_19 : decode cX1_failInStead 19 = .ok (.dup, 1) := by decide +kernel
theorem dX1_failInStead_20 : decode cX1_failInStead 20 = .ok (.getfield 31, 3) := by decide +kernel
theorem dX1_failInStead_23 : decode cX1_failInStead 23 = .ok (.iconst 1, 1) := by decide +kernel
theorem dX1_failInStead_24 : decode cX1_failInStead 24 = .ok (.iadd, 1) := by decide +kernel
theorem dX1_failInStead_25 : decode cX1_failInStead 25 = .ok (.putfield 31, 3) := by decide +kernel
theorem dX1_failInStead_28 : decode cX1_failInStead 28 = .ok (.return_, 1) := by decide +kernel
theorem dX1_noteFailure_0 : decode cX1_noteFailure 0 = .ok (.aload_n 0, 1) := by decide +kernel
theorem dX1_noteFailure_1 : decode cX1_noteFailure 1 = .ok (.getfield 31, 3) := by decide +kernel
theorem dX1_noteFailure_4 : decode cX1_noteFailure 4 = .ok (.ifCond .le 42, 3) := by decide +kernel
theorem dX1_noteFailure_7 : decode cX1_noteFailure 7 = .ok (.aload_n 0, 1) := by decide +kernel
theorem dX1_noteFailure_8 : decode cX1_noteFailure 8 = .ok (.getfield 25, 3) := by decide +kernel
theorem dX1_noteFailure_11 : decode cX1_noteFailure 11 = .ok (.bipush 24, 2) := by decide +kernel
theorem dX1_noteFailure_13 : decode cX1_noteFailure 13 = .ok (.if_icmp .ge 33, 3) := by decide +kernel
theorem dX1_noteFailure_16 : decode cX1_noteFailure 16 = .ok (.aload_n 0, 1) := by decide +kernel
theorem dX1_noteFailure_17 : decode cX1_noteFailure 17 = .ok (.getfield 22, 3) := by decide +kernel
theorem dX1_noteFailure_20 : decode cX1_noteFailure 20 = .ok (.aload_n 0, 1) := by decide +kernel
theorem dX1_noteFailure_21 : decode cX1_noteFailure 21 = .ok (.getfield 25, 3) := by decide +kernel
theorem dX1_noteFailure_24 : decode cX1_noteFailure 24 = .ok (.aload_n 0, 1) := by decide +kernel
theorem dX1_noteFailure_25 : decode cX1_noteFailure 25 = .ok (.getfield 28, 3) := by decide +kernel
theorem dX1_noteFailure_28 : decode cX1_noteFailure 28 = .ok (.aload_n 0, 1) := by decide +kernel
theorem dX1_noteFailure_29 : decode cX1_noteFailure 29 = .ok (.getfield 31, 3) := by decide +kernel
theorem dX1_noteFailure_32 : decode cX1_noteFailure 32 = .ok (.iconst 1, 1) := by decide +kernel
theorem dX1_noteFailure_33 : decode cX1_noteFailure 33 = .ok (.isub, 1) := by decide +kernel
theorem dX1_noteFailure_34 : decode cX1_noteFailure 34 = .ok (.iaload, 1) := by decide +kernel
theorem dX1_noteFailure_35 : decode cX1_noteFailure 35 = .ok (.iastore, 1) := by decide +kernel
theorem dX1_noteFailure_36 : decode cX1_noteFailure 36 = .ok (.aload_n 0, 1) := by decide +kernel
theorem dX1_noteFailure_37 : decode cX1_noteFailure 37 = .ok (.dup, 1) := by decide +kernel
theorem dX1_noteFailure_38 : decode cX1_noteFailure 38 = .ok (.getfield 25, 3) := by decide +kernel
theorem dX1_noteFailure_41 : decode cX1_noteFailure 41 = .ok (.iconst 1, 1) := by decide +kernel
theorem dX1_noteFailure_42 : decode cX1_noteFailure 42 = .ok (.iadd, 1) := by decide +kernel
theorem dX1_noteFailure_43 : decode cX1_noteFailure 43 = .ok (.putfield 25, 3) := by decide +kernel
theorem dX1_noteFailure_46 : decode cX1_noteFailure 46 = .ok (.aload_n 0, 1) := by decide +kernel
theorem dX1_noteFailure_47 : decode cX1_noteFailure 47 = .ok (.iconst 0, 1) := by decide +kernel
theorem dX1_noteFailure_48 : decode cX1_noteFailure 48 = .ok (.putfield 31, 3) := by decide +kernel
theorem dX1_noteFailure_51 : decode cX1_noteFailure 51 = .ok (.return_, 1) := by decide +kernel
theorem dX2_init_0 : decode cX2_init 0 = .ok (.aload_n 0, 1) := by decide +kernel
theorem dX2_init_1 : decode cX2_init 1 = .ok (.invokespecial 3, 3) := by decide +kernel
theorem dX2_init_4 : decode cX2_init 4 = .ok (.aload_n 0, 1) := by decide +kernel
theorem dX2_init_5 : decode cX2_init 5 = .ok (.bipush 8, 2) := by decide +kernel
theorem dX2_init_7 : decode cX2_init 7 = .ok (.newarray .int, 2) := by decide +kernel
theorem dX2_init_9 : decode cX2_init 9 = .ok (.putfield 9, 3) := by decide +kernel
theorem dX2_init_12 : decode cX2_init 12 = .ok (.aload_n 0, 1) := by decide +kernel
theorem dX2_init_13 : decode cX2_init 13 = .ok (.bipush 8, 2) := by decide +kernel
theorem dX2_init_15 : decode cX2_init 15 = .ok (.newarray .int, 2) := by decide +kernel
theorem dX2_init_17 : decode cX2_init 17 = .ok (.putfield 15, 3) := by decide +kernel
theorem dX2_init_20 : decode cX2_init 20 = .ok (.aload_n 0, 1) := by decide +kernel
theorem dX2_init_21 : decode cX2_init 21 = .ok (.iconst 0, 1) := by decide +kernel
theorem dX2_init_22 : decode cX2_init 22 = .ok (.putfield 18, 3) := by decide +kernel
theorem dX2_init_25 : decode cX2_init 25 = .ok (.aload_n 0, 1) := by decide +kernel
theorem dX2_init_26 : decode cX2_init 26 = .ok (.iconst 0, 1) := by decide +kernel
theorem dX2_init_27 : decode cX2_init 27 = .ok (.putfield 22, 3) := by decide +kernel
theorem dX2_init_30 : decode cX2_init 30 = .ok (.return_, 1) := by decide +kernel
theorem dX2_beginAnew_0 : decode cX2_beginAnew 0 = .ok (.aload_n 0, 1) := by decide +kernel
theorem dX2_beginAnew_1 : decode cX2_beginAnew 1 = .ok (.iload_n 1, 1) := by decide +kernel
theorem dX2_beginAnew_2 : decode cX2_beginAnew 2 = .ok (.putfield 22, 3) := by decide +kernel
theorem dX2_beginAnew_5 : decode cX2_beginAnew 5 = .ok (.aload_n 0, 1) := by decide +kernel
theorem dX2_beginAnew_6 : decode cX2_beginAnew 6 = .ok (.iconst 0, 1) := by decide +kernel
theorem dX2_beginAnew_7 : decode cX2_beginAnew 7 = .ok (.putfield 18, 3) := by decide +kernel
theorem dX2_beginAnew_10 : decode cX2_beginAnew 10 = .ok (.return_, 1) := by decide +kernel
theorem dX2_addStep_0 : decode cX2_addStep 0 = .ok (.aload_n 0, 1) := by decide +kernel
theorem dX2_addStep_1 : decode cX2_addStep 1 = .ok (.getfield 18, 3) := by decide +kernel
theorem dX2_addStep_4 : decode cX2_addStep 4 = .ok (.bipush 8, 2) := by decide +kernel
theorem dX2_addStep_6 : decode cX2_addStep 6 = .ok (.if_icmp .lt 6, 3) := by decide +kernel
theorem dX2_addStep_9 : decode cX2_addStep 9 = .ok (.bipush (-2), 2) := by decide +kernel
theorem dX2_addStep_11 : decode cX2_addStep 11 = .ok (.ireturn, 1) := by decide +kernel
theorem dX2_addStep_12 : decode cX2_addStep 12 = .ok (.aload_n 0, 1) := by decide +kernel
theorem dX2_addStep_13 : decode cX2_addStep 13 = .ok (.getfield 9, 3) := by decide +kernel
theorem dX2_addStep_16 : decode cX2_addStep 16 = .ok (.aload_n 0, 1) := by decide +kernel
theorem dX2_addStep_17 : decode cX2_addStep 17 = .ok (.getfield 18, 3) := by decide +kernel
theorem dX2_addStep_20 : decode cX2_addStep 20 = .ok (.iload_n 1, 1) := by decide +kernel
theorem dX2_addStep_21 : decode cX2_addStep 21 = .ok (.iastore, 1) := by decide +kernel
theorem dX2_addStep_22 : decode cX2_addStep 22 = .ok (.aload_n 0, 1) := by decide +kernel
theorem dX2_addStep_23 : decode cX2_addStep 23 = .ok (.getfield 15, 3) := by decide +kernel
theorem dX2_addStep_26 : decode cX2_addStep 26 = .ok (.aload_n 0, 1) := by decide +kernel
theorem dX2_addStep_27 : decode cX2_addStep 27 = .ok (.getfield 18, 3) := by decide +kernel
theorem dX2_addStep_30 : decode cX2_addStep 30 = .ok (.iload_n 2, 1) := by decide +kernel
theorem dX2_addStep_31 : decode cX2_addStep 31 = .ok (.iastore, 1) := by decide +kernel
theorem dX2_addStep_32 : decode cX2_addStep 32 = .ok (.aload_n 0, 1) := by decide +kernel
theorem dX2_addStep_33 : decode cX2_addStep 33 = .ok (.dup, 1) := by decide +kernel
theorem dX2_addStep_34 : decode cX2_addStep 34 = .ok (.getfield 18, 3) := by decide +kernel
theorem dX2_addStep_37 : decode cX2_addStep 37 = .ok (.dup_x1, 1) := by decide +kernel
theorem dX2_addStep_38 : decode cX2_addStep 38 = .ok (.iconst 1, 1) := by decide +kernel
theorem dX2_addStep_39 : decode cX2_addStep 39 = .ok (.iadd, 1) := by decide +kernel
theorem dX2_addStep_40 : decode cX2_addStep 40 = .ok (.putfield 18, 3) := by decide +kernel
theorem dX2_addStep_43 : decode cX2_addStep 43 = .ok (.ireturn, 1) := by decide +kernel
theorem dX3_init_0 : decode cX3_init 0 = .ok (.aload_n 0, 1) := by decide +kernel
theorem dX3_init_1 : decode cX3_init 1 = .ok (.invokespecial 3, 3) := by decide +kernel
theorem dX3_init_4 : decode cX3_init 4 = .ok (.aload_n 0, 1) := by decide +kernel
theorem dX3_init_5 : decode cX3_init 5 = .ok (.bipush 18, 2) := by decide +kernel
theorem dX3_init_7 : decode cX3_init 7 = .ok (.newarray .int, 2) := by decide +kernel
theorem dX3_init_9 : decode cX3_init 9 = .ok (.putfield 9, 3) := by decide +kernel
theorem dX3_init_12 : decode cX3_init 12 = .ok (.aload_n 0, 1) := by decide +kernel
theorem dX3_init_13 : decode cX3_init 13 = .ok (.bipush (-4), 2) := by decide +kernel
theorem dX3_init_15 : decode cX3_init 15 = .ok (.putfield 15, 3) := by decide +kernel
theorem dX3_init_18 : decode cX3_init 18 = .ok (.aload_n 0, 1) := by decide +kernel
theorem dX3_init_19 : decode cX3_init 19 = .ok (.bipush (-4), 2) := by decide +kernel
theorem dX3_init_21 : decode cX3_init 21 = .ok (.putfield 19, 3) := by decide +kernel
theorem dX3_init_24 : decode cX3_init 24 = .ok (.aload_n 0, 1) := by decide +kernel
theorem dX3_init_25 : decode cX3_init 25 = .ok (.iconst 2, 1) := by decide +kernel
theorem dX3_init_26 : decode cX3_init 26 = .ok (.putfield 22, 3) := by decide +kernel
theorem dX3_init_29 : decode cX3_init 29 = .ok (.aload_n 0, 1) := by decide +kernel
theorem dX3_init_30 : decode cX3_init 30 = .ok (.bipush (-4), 2) := by decide +kernel
theorem dX3_init_32 : decode cX3_init 32 = .ok (.putfield 25, 3) := by decide +kernel
theorem dX3_init_35 : decode cX3_init 35 = .ok (.aload_n 0, 1) := by decide +kernel
theorem dX3_init_36 : decode cX3_init 36 = .ok (.bipush (-4), 2) := by decide +kernel
theorem dX3_init_38 : decode cX3_init 38 = .ok (.putfield 28, 3) := by decide +kernel
theorem dX3_init_41 : decode cX3_init 41 = .ok (.return_, 1) := by decide +kernel
theorem dX3_newRack_0 : decode cX3_newRack 0 = .ok (.iload_n 1, 1) := by decide +kernel
theorem dX3_newRack_1 : decode cX3_newRack 1 = .ok (.ifCond .ge 5, 3) := by decide +kernel
theorem dX3_newRack_4 : decode cX3_newRack 4 = .ok (.iconst 0, 1) := by decide +kernel
theorem dX3_newRack_5 : decode cX3_newRack 5 = .ok (.ireturn, 1) := by decide +kernel
theorem dX3_newRack_6 : decode cX3_newRack 6 = .ok (.aload_n 0, 1) := by decide +kernel
theorem dX3_newRack_7 : decode cX3_newRack 7 = .ok (.iload_n 1, 1) := by decide +kernel
theorem dX3_newRack_8 : decode cX3_newRack 8 = .ok (.putfield 15, 3) := by decide +kernel
theorem dX3_newRack_11 : decode cX3_newRack 11 = .ok (.iconst 1, 1) := by decide +kernel
theorem dX3_newRack_12 : decode cX3_newRack 12 = .ok (.ireturn, 1) := by decide +kernel
theorem dX3_newBox_0 : decode cX3_newBox 0 = .ok (.iload_n 1, 1) := by decide +kernel
theorem dX3_newBox_1 : decode cX3_newBox 1 = .ok (.ifCond .lt 9, 3) := by decide +kernel
theorem dX3_newBox_4 : decode cX3_newBox 4 = .ok (.iload_n 1, 1) := by decide +kernel
theorem dX3_newBox_5 : decode cX3_newBox 5 = .ok (.bipush 18, 2) := by decide +kernel
theorem dX3_newBox_7 : decode cX3_newBox 7 = .ok (.if_icmp .le 5, 3) := by decide +kernel
theorem dX3_newBox_10 : decode cX3_newBox 10 = .ok (.iconst 0, 1) := by decide +kernel
theorem dX3_newBox_11 : decode cX3_newBox 11 = .ok (.ireturn, 1) := by decide +kernel
theorem dX3_newBox_12 : decode cX3_newBox 12 = .ok (.iconst 0, 1) := by decide +kernel
theorem dX3_newBox_13 : decode cX3_newBox 13 = .ok (.istore_n 3, 1) := by decide +kernel
theorem dX3_newBox_14 : decode cX3_newBox 14 = .ok (.iload_n 3, 1) := by decide +kernel
theorem dX3_newBox_15 : decode cX3_newBox 15 = .ok (.iload_n 1, 1) := by decide +kernel
theorem dX3_newBox_16 : decode cX3_newBox 16 = .ok (.if_icmp .ge 17, 3) := by decide +kernel
theorem dX3_newBox_19 : decode cX3_newBox 19 = .ok (.aload_n 0, 1) := by decide +kernel
theorem dX3_newBox_20 : decode cX3_newBox 20 = .ok (.getfield 9, 3) := by decide +kernel
theorem dX3_newBox_23 : decode cX3_newBox 23 = .ok (.iload_n 3, 1) := by decide +kernel
theorem dX3_newBox_24 : decode cX3_newBox 24 = .ok (.bipush (-4), 2) := by decide +kernel
theorem dX3_newBox_26 : decode cX3_newBox 26 = .ok (.iastore, 1) := by decide +kernel
theorem dX3_newBox_27 : decode cX3_newBox 27 = .ok (.iinc 3 1, 3) := by decide +kernel
theorem dX3_newBox_30 : decode cX3_newBox 30 = .ok (.goto (-16), 3) := by decide +kernel
theorem dX3_newBox_33 : decode cX3_newBox 33 = .ok (.aload_n 0, 1) := by decide +kernel
theorem dX3_newBox_34 : decode cX3_newBox 34 = .ok (.iload_n 1, 1) := by decide +kernel
theorem dX3_newBox_35 : decode cX3_newBox 35 = .ok (.putfield 19, 3) := by decide +kernel
theorem dX3_newBox_38 : decode cX3_newBox 38 = .ok (.aload_n 0, 1) := by decide +kernel
theorem dX3_newBox_39 : decode cX3_newBox 39 = .ok (.iload_n 2, 1) := by decide +kernel
theorem dX3_newBox_40 : decode cX3_newBox 40 = .ok (.putfield 22, 3) := by decide +kernel
theorem dX3_newBox_43 : decode cX3_newBox 43 = .ok (.iconst 1, 1) := by decide +kernel
theorem dX3_newBox_44 : decode cX3_newBox 44 = .ok (.ireturn, 1) := by decide +kernel
theorem dX3_newGrid_0 : decode cX3_newGrid 0 = .ok (.iload_n 1, 1) := by decide +kernel
theorem dX3_newGrid_1 : decode cX3_newGrid 1 = .ok (.ifCond .lt 7, 3) := by decide +kernel
theorem dX3_newGrid_4 : decode cX3_newGrid 4 = .ok (.iload_n 2, 1) := by decide +kernel
theorem dX3_newGrid_5 : decode cX3_newGrid 5 = .ok (.ifCond .ge 5, 3) := by decide +kernel
theorem dX3_newGrid_8 : decode cX3_newGrid 8 = .ok (.iconst 0, 1) := by decide +kernel
theorem dX3_newGrid_9 : decode cX3_newGrid 9 = .ok (.ireturn, 1) := by decide +kernel
theorem dX3_newGrid_10 : decode cX3_newGrid 10 = .ok (.aload_n 0, 1) := by decide +kernel
theorem dX3_newGrid_11 : decode cX3_newGrid 11 = .ok (.iload_n 1, 1) := by decide +kernel
theorem dX3_newGrid_12 : decode cX3_newGrid 12 = .ok (.putfield 25, 3) := by decide +kernel
theorem dX3_newGrid_15 : decode cX3_newGrid 15 = .ok (.aload_n 0, 1) := by decide +kernel
theorem dX3_newGrid_16 : decode cX3_newGrid 16 = .ok (.iload_n 2, 1) := by decide +kernel
theorem dX3_newGrid_17 : decode cX3_newGrid 17 = .ok (.putfield 28, 3) := by decide +kernel
theorem dX3_newGrid_20 : decode cX3_newGrid 20 = .ok (.iconst 1, 1) := by decide +kernel
theorem dX3_newGrid_21 : decode cX3_newGrid 21 = .ok (.ireturn, 1) := by decide +kernel
theorem dX3_boxTakes_0 : decode cX3_boxTakes 0 = .ok (.iload_n 1, 1) := by decide +kernel
theorem dX3_boxTakes_1 : decode cX3_boxTakes 1 = .ok (.iconst (-1), 1) := by decide +kernel
theorem dX3_boxTakes_2 : decode cX3_boxTakes 2 = .ok (.if_icmp .eq 19, 3) := by decide +kernel
theorem dX3_boxTakes_5 : decode cX3_boxTakes 5 = .ok (.aload_n 0, 1) := by decide +kernel
theorem dX3_boxTakes_6 : decode cX3_boxTakes 6 = .ok (.getfield 22, 3) := by decide +kernel
theorem dX3_boxTakes_9 : decode cX3_boxTakes 9 = .ok (.iconst 2, 1) := by decide +kernel
theorem dX3_boxTakes_10 : decode cX3_boxTakes 10 = .ok (.if_icmp .eq 11, 3) := by decide +kernel
theorem dX3_boxTakes_13 : decode cX3_boxTakes 13 = .ok (.iload_n 1, 1) := by decide +kernel
theorem dX3_boxTakes_14 : decode cX3_boxTakes 14 = .ok (.aload_n 0, 1) := by decide +kernel
theorem dX3_boxTakes_15 : decode cX3_boxTakes 15 = .ok (.getfield 22, 3) := by decide +kernel
theorem dX3_boxTakes_18 : decode cX3_boxTakes 18 = .ok (.if_icmp .ne 7, 3) := by decide +kernel
theorem dX3_boxTakes_21 : decode cX3_boxTakes 21 = .ok (.iconst 1, 1) := by decide +kernel
theorem dX3_boxTakes_22 : decode cX3_boxTakes 22 = .ok (.goto 4, 3) := by decide +kernel
theorem dX3_boxTakes_25 : decode cX3_boxTakes 25 = .ok (.iconst 0, 1) := by decide +kernel
theorem dX3_boxTakes_26 : decode cX3_boxTakes 26 = .ok (.ireturn, 1) := by decide +kernel
theorem dX3_sizeOf_0 : decode cX3_sizeOf 0 = .ok (.iload_n 1, 1) := by decide +kernel
theorem dX3_sizeOf_1 : decode cX3_sizeOf 1 = .ok (.tableswitch 63 0 3 #[31, 36, 41, 46], 31) := by decide +kernel
theorem dX3_sizeOf_32 : decode cX3_sizeOf 32 = .ok (.aload_n 0, 1) := by decide +kernel
theorem dX3_sizeOf_33 : decode cX3_sizeOf 33 = .ok (.getfield 15, 3) := by decide +kernel
theorem dX3_sizeOf_36 : decode cX3_sizeOf 36 = .ok (.ireturn, 1) := by decide +kernel
theorem dX3_sizeOf_37 : decode cX3_sizeOf 37 = .ok (.aload_n 0, 1) := by decide +kernel
theorem dX3_sizeOf_38 : decode cX3_sizeOf 38 = .ok (.getfield 19, 3) := by decide +kernel
theorem dX3_sizeOf_41 : decode cX3_sizeOf 41 = .ok (.ireturn, 1) := by decide +kernel
theorem dX3_sizeOf_42 : decode cX3_sizeOf 42 = .ok (.aload_n 0, 1) := by decide +kernel
theorem dX3_sizeOf_43 : decode cX3_sizeOf 43 = .ok (.getfield 25, 3) := by decide +kernel
theorem dX3_sizeOf_46 : decode cX3_sizeOf 46 = .ok (.ireturn, 1) := by decide +kernel
theorem dX3_sizeOf_47 : decode cX3_sizeOf 47 = .ok (.aload_n 0, 1) := by decide +kernel
theorem dX3_sizeOf_48 : decode cX3_sizeOf 48 = .ok (.getfield 25, 3) := by decide +kernel
theorem dX3_sizeOf_51 : decode cX3_sizeOf 51 = .ok (.ifCond .le 10, 3) := by decide +kernel
theorem dX3_sizeOf_54 : decode cX3_sizeOf 54 = .ok (.aload_n 0, 1) := by decide +kernel
theorem dX3_sizeOf_55 : decode cX3_sizeOf 55 = .ok (.getfield 28, 3) := by decide +kernel
theorem dX3_sizeOf_58 : decode cX3_sizeOf 58 = .ok (.goto 5, 3) := by decide +kernel
theorem dX3_sizeOf_61 : decode cX3_sizeOf 61 = .ok (.bipush (-4), 2) := by decide +kernel
theorem dX3_sizeOf_63 : decode cX3_sizeOf 63 = .ok (.ireturn, 1) := by decide +kernel
theorem dX3_sizeOf_64 : decode cX3_sizeOf 64 = .ok (.bipush (-4), 2) := by decide +kernel
theorem dX3_sizeOf_66 : decode cX3_sizeOf 66 = .ok (.ireturn, 1) := by decide +kernel
theorem dX4_init_0 : decode cX4_init 0 = .ok (.aload_n 0, 1) := by decide +kernel
theorem dX4_init_1 : decode cX4_init 1 = .ok (.invokespecial 3, 3) := by decide +kernel
theorem dX4_init_4 : decode cX4_init 4 = .ok (.aload_n 0, 1) := by decide +kernel
theorem dX4_init_5 : decode cX4_init 5 = .ok (.iconst (-1), 1) := by decide +kernel
theorem dX4_init_6 : decode cX4_init 6 = .ok (.putfield 9, 3) := by decide +kernel
theorem dX4_init_9 : decode cX4_init 9 = .ok (.aload_n 0, 1) := by decide +kernel
theorem dX4_init_10 : decode cX4_init 10 = .ok (.iconst 0, 1) := by decide +kernel
theorem dX4_init_11 : decode cX4_init 11 = .ok (.putfield 15, 3) := by decide +kernel
theorem dX4_init_14 : decode cX4_init 14 = .ok (.aload_n 0, 1) := by decide +kernel
theorem dX4_init_15 : decode cX4_init 15 = .ok (.iconst 0, 1) := by decide +kernel
theorem dX4_init_16 : decode cX4_init 16 = .ok (.putfield 18, 3) := by decide +kernel
theorem dX4_init_19 : decode cX4_init 19 = .ok (.return_, 1) := by decide +kernel
theorem dX4_beginAnew_0 : decode cX4_beginAnew 0 = .ok (.aload_n 0, 1) := by decide +kernel
theorem dX4_beginAnew_1 : decode cX4_beginAnew 1 = .ok (.iload_n 1, 1) := by decide +kernel
theorem dX4_beginAnew_2 : decode cX4_beginAnew 2 = .ok (.putfield 9, 3) := by decide +kernel
theorem dX4_beginAnew_5 : decode cX4_beginAnew 5 = .ok (.aload_n 0, 1) := by decide +kernel
theorem dX4_beginAnew_6 : decode cX4_beginAnew 6 = .ok (.iconst 0, 1) := by decide +kernel
theorem dX4_beginAnew_7 : decode cX4_beginAnew 7 = .ok (.putfield 15, 3) := by decide +kernel
theorem dX4_beginAnew_10 : decode cX4_beginAnew 10 = .ok (.aload_n 0, 1) := by decide +kernel
theorem dX4_beginAnew_11 : decode cX4_beginAnew 11 = .ok (.iconst 0, 1) := by decide +kernel
theorem dX4_beginAnew_12 : decode cX4_beginAnew 12 = .ok (.putfield 18, 3) := by decide +kernel
theorem dX4_beginAnew_15 : decode cX4_beginAnew 15 = .ok (.return_, 1) := by decide +kernel
end
section
set_option maxRecDepth 20000 in
theorem ggX6_init_X3_init : GoodIn wsX6_init wsX3_init := goodIn_r _ [25, 26, 2, 3, 4, 27, 28, 29, 30, 31, 32, 73, 74, 75, 76, 77, 78] (by decide +kernel) (by decide +kernel)
set_option maxRecDepth 20000 in
theorem gX6_init_X3_init_n30 : GoodIn wsX6_init (wsX3_init) := ggX6_init_X3_init
set_option maxRecDepth 20000 in
theorem ggX6_init_X1_init : GoodIn wsX6_init wsX1_init := goodIn_r _ [34, 35, 2, 3, 4, 36, 37, 38, 39, 40, 41, 42, 79, 80, 81, 82, 83, 84, 85] (by decide +kernel) (by decide +kernel)
set_option maxRecDepth 20000 in
theorem gX6_init_X1_init_n37 : GoodIn wsX6_init (wsX1_init) := ggX6_init_X1_init
set_option maxRecDepth 20000 in
theorem ggX6_init_X0_init : GoodIn wsX6_init wsX0_init := goodIn_r _ [45, 46, 2, 3, 47, 48, 49, 50, 51, 52, 53, 54, 55, 4, 56, 57, 58, 59, 86, 87, 88, 92, 93, 94, 95] (by decide +kernel) (by decide +kernel)
set_option maxRecDepth 20000 in
theorem gX6_init_X0_init : GoodIn wsX6_init (wsX0_init) := ggX6_init_X0_init
set_option maxRecDepth 20000 in
theorem ggX6_init_X4_init : GoodIn wsX6_init wsX4_init := goodIn_r _ [61, 62, 2, 3, 63, 64, 65, 89, 90, 91] (by decide +kernel) (by decide +kernel)
set_option maxRecDepth 20000 in
theorem gX6_init_X4_init_n47 : GoodIn wsX6_init (wsX4_init) := ggX6_init_X4_init
theorem dX6_init_0 : decode cX6_init 0 = .ok (.aload_n 0, 1) := by decide +kernel
theorem dX6_init_1 : decode cX6_init 1 = .ok (.invokespecial 1, 3) := by decide +kernel
theorem dX6_init_4 : decode cX6_init 4 = .ok (.aload_n 0, 1) := by decide +kernel
theorem dX6_init_5 : decode cX6_init 5 = .ok (.bipush 8, 2) := by decide +kernel
theorem dX6_init_7 : decode cX6_init 7 = .ok (.newarray .int, 2) := by decide +kernel
theorem dX6_init_9 : decode cX6_init 9 = .ok (.putfield 9, 3) := by decide +kernel
theorem dX6_init_12 : decode cX6_init 12 = .ok (.aload_n 0, 1) := by decide +kernel
theorem dX6_init_13 : decode cX6_init 13 = .ok (.iconst 4, 1) := by decide +kernel
theorem dX6_init_14 : decode cX6_init 14 = .ok (.anewarray 13, 3) := by decide +kernel
theorem dX6_init_17 : decode cX6_init 17 = .ok (.putfield 15, 3) := by decide +kernel
theorem dX6_init_20 : decode cX6_init 20 = .ok (.aload_n 0, 1) := by decide +kernel
theorem dX6_init_21 : decode cX6_init 21 = .ok (.bipush 6, 2) := by decide +kernel
theorem dX6_init_23 : decode cX6_init 23 = .ok (.anewarray 19, 3) := by decide +kernel
theorem dX6_init_26 : decode cX6_init 26 = .ok (.putfield 21, 3) := by decide +kernel
theorem dX6_init_29 : decode cX6_init 29 = .ok (.aload_n 0, 1) := by decide +kernel
theorem dX6_init_30 : decode cX6_init 30 = .ok (.iconst 4, 1) := by decide +kernel
theorem dX6_init_31 : decode cX6_init 31 = .ok (.newarray .int, 2) := by decide +kernel
theorem dX6_init_33 : decode cX6_init 33 = .ok (.putfield 25, 3) := by decide +kernel
theorem dX6_init_36 : decode cX6_init 36 = .ok (.aload_n 0, 1) := by decide +kernel
theorem dX6_init_37 : decode cX6_init 37 = .ok (.new 28, 3) := by decide +kernel
theorem dX6_init_40 : decode cX6_init 40 = .ok (.dup, 1) := by decide +kernel
theorem dX6_init_41 : decode cX6_init 41 = .ok (.invokespecial 30, 3) := by decide +kernel
theorem dX6_init_44 : decode cX6_init 44 = .ok (.putfield 31, 3) := by decide +kernel
theorem dX6_init_47 : decode cX6_init 47 = .ok (.aload_n 0, 1) := by decide +kernel
theorem dX6_init_48 : decode cX6_init 48 = .ok (.new 35, 3) := by decide +kernel
theorem dX6_init_51 : decode cX6_init 51 = .ok (.dup, 1) := by decide +kernel
theorem dX6_init_52 : decode cX6_init 52 = .ok (.invokespecial 37, 3) := by decide +kernel
theorem dX6_init_55 : decode cX6_init 55 = .ok (.putfield 38, 3) := by decide +kernel
theorem dX6_init_58 : decode cX6_init 58 = .ok (.aload_n 0, 1) := by decide +kernel
theorem dX6_init_59 : decode cX6_init 59 = .ok (.iconst 0, 1) := by decide +kernel
theorem dX6_init_60 : decode cX6_init 60 = .ok (.putfield 42, 3) := by decide +kernel
theorem dX6_init_63 : decode cX6_init 63 = .ok (.iconst 4, 1) := by decide +kernel
theorem dX6_init_64 : decode cX6_init 64 = .ok (.istore_n 1, 1) := by decide +kernel
theorem dX6_init_65 : decode cX6_init 65 = .ok (.iload_n 1, 1) := by decide +kernel
theorem dX6_init_66 : decode cX6_init 66 = .ok (.bipush 8, 2) := by decide +kernel
theorem dX6_init_68 : decode cX6_init 68 = .ok (.if_icmp .ge 16, 3) := by decide +kernel
theorem dX6_init_71 : decode cX6_init 71 = .ok (.aload_n 0, 1) := by decide +kernel
theorem dX6_init_72 : decode cX6_init 72 = .ok (.getfield 9, 3) := by decide +kernel
theorem dX6_init_75 : decode cX6_init 75 = .ok (.iload_n 1, 1) := by decide +kernel
theorem dX6_init_76 : decode cX6_init 76 = .ok (.iconst (-1), 1) := by decide +kernel
theorem dX6_init_77 : decode cX6_init 77 = .ok (.iastore, 1) := by decide +kernel
theorem dX6_init_78 : decode cX6_init 78 = .ok (.iinc 1 1, 3) := by decide +kernel
theorem dX6_init_81 : decode cX6_init 81 = .ok (.goto (-16), 3) := by decide +kernel
theorem dX6_init_84 : decode cX6_init 84 = .ok (.iconst 0, 1) := by decide +kernel
theorem dX6_init_85 : decode cX6_init 85 = .ok (.istore_n 1, 1) := by decide +kernel
theorem dX6_init_86 : decode cX6_init 86 = .ok (.iload_n 1, 1) := by decide +kernel
theorem dX6_init_87 : decode cX6_init 87 = .ok (.iconst 4, 1) := by decide +kernel
theorem dX6_init_88 : decode cX6_init 88 = .ok (.if_icmp .ge 22, 3) := by decide +kernel
theorem dX6_init_91 : decode cX6_init 91 = .ok (.aload_n 0, 1) := by decide +kernel
theorem dX6_init_92 : decode cX6_init 92 = .ok (.getfield 15, 3) := by decide +kernel
theorem dX6_init_95 : decode cX6_init 95 = .ok (.iload_n 1, 1) := by decide +kernel
theorem dX6_init_96 : decode cX6_init 96 = .ok (.new 13, 3) := by decide +kernel
theorem dX6_init_99 : decode cX6_init 99 = .ok (.dup, 1) := by decide +kernel
theorem dX6_init_100 : decode cX6_init 100 = .ok (.invokespecial 46, 3) := by decide +kernel
theorem dX6_init_103 : decode cX6_init 103 = .ok (.aastore, 1) := by decide +kernel
theorem dX6_init_104 : decode cX6_init 104 = .ok (.iinc 1 1, 3) := by decide +kernel
theorem dX6_init_107 : decode cX6_init 107 = .ok (.goto (-21), 3) := by decide +kernel
theorem dX6_init_110 : decode cX6_init 110 = .ok (.iconst 0, 1) := by decide +kernel
theorem dX6_init_111 : decode cX6_init 111 = .ok (.istore_n 1, 1) := by decide +kernel
theorem dX6_init_112 : decode cX6_init 112 = .ok (.iload_n 1, 1) := by decide +kernel
theorem dX6_init_113 : decode cX6_init 113 = .ok (.bipush 6, 2) := by decide +kernel
theorem dX6_init_115 : decode cX6_init 115 = .ok (.if_icmp .ge 22, 3) := by decide +kernel
theorem dX6_init_118 : decode cX6_init 118 = .ok (.aload_n 0, 1) := by decide +kernel
theorem dX6_init_119 : decode cX6_init 119 = .ok (.getfield 21, 3) := by decide +kernel
theorem dX6_init_122 : decode cX6_init 122 = .ok (.iload_n 1, 1) := by decide +kernel
theorem dX6_init_123 : decode cX6_init 123 = .ok (.new 19, 3) := by decide +kernel
theorem dX6_init_126 : decode cX6_init 126 = .ok (.dup, 1) := by decide +kernel
theorem dX6_init_127 : decode cX6_init 127 = .ok (.invokespecial 47, 3) := by decide +kernel
theorem dX6_init_130 : decode cX6_init 130 = .ok (.aastore, 1) := by decide +kernel
theorem dX6_init_131 : decode cX6_init 131 = .ok (.iinc 1 1, 3) := by decide +kernel
theorem dX6_init_134 : decode cX6_init 134 = .ok (.goto (-22), 3) := by decide +kernel
theorem dX6_init_137 : decode cX6_init 137 = .ok (.return_, 1) := by decide +kernel
set_option maxRecDepth 20000 in
theorem ggX6_vial_X6_within : GoodIn wsX6_vial wsX6_within := goodIn_r _ [5] (by decide +kernel) (by decide +kernel)
set_option maxRecDepth 20000 in
theorem gX6_vial_X6_within : GoodIn wsX6_vial (va_wsS RX6 48 yX6_within wsX6_within) := goodIn_app (goodIn_of _ (by decide +kernel)) ggX6_vial_X6_within
set_option maxRecDepth 20000 in
theorem ggX6_vial_X6_orNone : GoodIn wsX6_vial wsX6_orNone := goodIn_r _ [8] (by decide +kernel) (by decide +kernel)
set_option maxRecDepth 20000 in
theorem gX6_vial_X6_orNone : GoodIn wsX6_vial (va_wsS RX6 52 yX6_orNone wsX6_orNone) := goodIn_app (goodIn_of _ (by decide +kernel)) ggX6_vial_X6_orNone
theorem dX6_vial_0 : decode cX6_vial 0 = .ok (.iload_n 1, 1) := by decide +kernel
theorem dX6_vial_1 : decode cX6_vial 1 = .ok (.iconst 0, 1) := by decide +kernel
theorem dX6_vial_2 : decode cX6_vial 2 = .ok (.bipush 7, 2) := by decide +kernel
theorem dX6_vial_4 : decode cX6_vial 4 = .ok (.invokestatic 48, 3) := by decide +kernel
theorem dX6_vial_7 : decode cX6_vial 7 = .ok (.ifCond .eq 14, 3) := by decide +kernel
theorem dX6_vial_10 : decode cX6_vial 10 = .ok (.iload_n 2, 1) := by decide +kernel
theorem dX6_vial_11 : decode cX6_vial 11 = .ok (.iconst (-1), 1) := by decide +kernel
theorem dX6_vial_12 : decode cX6_vial 12 = .ok (.sipush 1000, 3) := by decide +kernel
theorem dX6_vial_15 : decode cX6_vial 15 = .ok (.invokestatic 48, 3) := by decide +kernel
theorem dX6_vial_18 : decode cX6_vial 18 = .ok (.ifCond .ne 5, 3) := by decide +kernel
theorem dX6_vial_21 : decode cX6_vial 21 = .ok (.iconst (-1), 1) := by decide +kernel
theorem dX6_vial_22 : decode cX6_vial 22 = .ok (.ireturn, 1) := by decide +kernel
theorem dX6_vial_23 : decode cX6_vial 23 = .ok (.aload_n 0, 1) := by decide +kernel
theorem dX6_vial_24 : decode cX6_vial 24 = .ok (.getfield 9, 3) := by decide +kernel
theorem dX6_vial_27 : decode cX6_vial 27 = .ok (.iload_n 1, 1) := by decide +kernel
theorem dX6_vial_28 : decode cX6_vial 28 = .ok (.iaload, 1) := by decide +kernel
theorem dX6_vial_29 : decode cX6_vial 29 = .ok (.invokestatic 52, 3) := by decide +kernel
theorem dX6_vial_32 : decode cX6_vial 32 = .ok (.istore_n 3, 1) := by decide +kernel
theorem dX6_vial_33 : decode cX6_vial 33 = .ok (.aload_n 0, 1) := by decide +kernel
theorem dX6_vial_34 : decode cX6_vial 34 = .ok (.getfield 9, 3) := by decide +kernel
theorem dX6_vial_37 : decode cX6_vial 37 = .ok (.iload_n 1, 1) := by decide +kernel
theorem dX6_vial_38 : decode cX6_vial 38 = .ok (.iload_n 2, 1) := by decide +kernel
theorem dX6_vial_39 : decode cX6_vial 39 = .ok (.iastore, 1) := by decide +kernel
theorem dX6_vial_40 : decode cX6_vial 40 = .ok (.iload_n 3, 1) := by decide +kernel
theorem dX6_vial_41 : decode cX6_vial 41 = .ok (.ireturn, 1) := by decide +kernel
set_option maxRecDepth 20000 in
theorem ggX6_batch_X6_within : GoodIn wsX6_batch wsX6_within := goodIn_r _ [6] (by decide +kernel) (by decide +kernel)
set_option maxRecDepth 20000 in
theorem gX6_batch_X6_within : GoodIn wsX6_batch (va_wsS RX6 48 yX6_within wsX6_within) := goodIn_app (goodIn_of _ (by decide +kernel)) ggX6_batch_X6_within
set_option maxRecDepth 20000 in
theorem ggX6_batch_X0_beginAnew : GoodIn wsX6_batch wsX0_beginAnew := goodIn_r _ [11, 12, 13, 21, 22, 23] (by decide +kernel) (by decide +kernel)
set_option maxRecDepth 20000 in
theorem gX6_batch_X0_beginAnew : GoodIn wsX6_batch (wsV RX6 59 RX0 yX0_beginAnew wsX0_beginAnew) := goodIn_app (goodIn_of _ (by decide +kernel)) ggX6_batch_X0_beginAnew
theorem dX6_batch_0 : decode cX6_batch 0 = .ok (.iload_n 1, 1) := by decide +kernel
theorem dX6_batch_1 : decode cX6_batch 1 = .ok (.iconst 0, 1) := by decide +kernel
theorem dX6_batch_2 : decode cX6_batch 2 = .ok (.iconst 3, 1) := by decide +kernel
theorem dX6_batch_3 : decode cX6_batch 3 = .ok (.invokestatic 48, 3) := by decide +kernel
theorem dX6_batch_6 : decode cX6_batch 6 = .ok (.ifCond .eq 12, 3) := by decide +kernel
theorem dX6_batch_9 : decode cX6_batch 9 = .ok (.iload_n 2, 1) := by decide +kernel
theorem dX6_batch_10 : decode cX6_batch 10 = .ok (.iconst 0, 1) := by decide +kernel
theorem dX6_batch_11 : decode cX6_batch 11 = .ok (.iconst 2, 1) := by decide +kernel
theorem dX6_batch_12 : decode cX6_batch 12 = .ok (.invokestatic 48, 3) := by decide +kernel
theorem dX6_batch_15 : decode cX6_batch 15 = .ok (.ifCond .ne 5, 3) := by decide +kernel
theorem dX6_batch_18 : decode cX6_batch 18 = .ok (.iconst (-1), 1) := by decide +kernel
theorem dX6_batch_19 : decode cX6_batch 19 = .ok (.ireturn, 1) := by decide +kernel
theorem dX6_batch_20 : decode cX6_batch 20 = .ok (.aload_n 0, 1) := by decide +kernel
theorem dX6_batch_21 : decode cX6_batch 21 = .ok (.getfield 15, 3) := by decide +kernel
theorem dX6_batch_24 : decode cX6_batch 24 = .ok (.iload_n 1, 1) := by decide +kernel
theorem dX6_batch_25 : decode cX6_batch 25 = .ok (.aaload, 1) := by decide +kernel
theorem dX6_batch_26 : decode cX6_batch 26 = .ok (.getfield 56, 3) := by decide +kernel
theorem dX6_batch_29 : decode cX6_batch 29 = .ok (.istore_n 3, 1) := by decide +kernel
theorem dX6_batch_30 : decode cX6_batch 30 = .ok (.aload_n 0, 1) := by decide +kernel
theorem dX6_batch_31 : decode cX6_batch 31 = .ok (.getfield 15, 3) := by decide +kernel
theorem dX6_batch_34 : decode cX6_batch 34 = .ok (.iload_n 1, 1) := by decide +kernel
theorem dX6_batch_35 : decode cX6_batch 35 = .ok (.aaload, 1) := by decide +kernel
theorem dX6_batch_36 : decode cX6_batch 36 = .ok (.iload_n 2, 1) := by decide +kernel
theorem dX6_batch_37 : decode cX6_batch 37 = .ok (.invokevirtual 59, 3) := by decide +kernel
theorem dX6_batch_40 : decode cX6_batch 40 = .ok (.iload_n 3, 1) := by decide +kernel
theorem dX6_batch_41 : decode cX6_batch 41 = .ok (.ireturn, 1) := by decide +kernel
set_option maxRecDepth 20000 in
theorem ggX6_round_X6_within : GoodIn wsX6_round wsX6_within := goodIn_r _ [5] (by decide +kernel) (by decide +kernel)
set_option maxRecDepth 20000 in
theorem gX6_round_X6_within : GoodIn wsX6_round (va_wsS RX6 48 yX6_within wsX6_within) := goodIn_app (goodIn_of _ (by decide +kernel)) ggX6_round_X6_within
set_option maxRecDepth 20000 in
theorem ggX6_round_X0_addRound : GoodIn wsX6_round wsX0_addRound := goodIn_r _ [10, 11, 12, 13, 14, 15, 16, 17, 18, 19, 27, 28, 29, 30, 31, 32, 33] (by decide +kernel) (by decide +kernel)
set_option maxRecDepth 20000 in
theorem gX6_round_X0_addRound : GoodIn wsX6_round (wsV RX6 63 RX0 yX0_addRound wsX0_addRound) := goodIn_app (goodIn_of _ (by decide +kernel)) ggX6_round_X0_addRound
theorem dX6_round_0 : decode cX6_round 0 = .ok (.iload_n 1, 1) := by decide +kernel
theorem dX6_round_1 : decode cX6_round 1 = .ok (.iconst 0, 1) := by decide +kernel
theorem dX6_round_2 : decode cX6_round 2 = .ok (.iconst 3, 1) := by decide +kernel
theorem dX6_round_3 : decode cX6_round 3 = .ok (.invokestatic 48, 3) := by decide +kernel
theorem dX6_round_6 : decode cX6_round 6 = .ok (.ifCond .eq 13, 3) := by decide +kernel
theorem dX6_round_9 : decode cX6_round 9 = .ok (.iload_n 2, 1) := by decide +kernel
theorem dX6_round_10 : decode cX6_round 10 = .ok (.iconst 0, 1) := by decide +kernel
theorem dX6_round_11 : decode cX6_round 11 = .ok (.bipush 9, 2) := by decide +kernel
theorem dX6_round_13 : decode cX6_round 13 = .ok (.invokestatic 48, 3) := by decide +kernel
theorem dX6_round_16 : decode cX6_round 16 = .ok (.ifCond .ne 5, 3) := by decide +kernel
theorem dX6_round_19 : decode cX6_round 19 = .ok (.iconst (-1), 1) := by decide +kernel
theorem dX6_round_20 : decode cX6_round 20 = .ok (.ireturn, 1) := by decide +kernel
theorem dX6_round_21 : decode cX6_round 21 = .ok (.aload_n 0, 1) := by decide +kernel
theorem dX6_round_22 : decode cX6_round 22 = .ok (.getfield 15, 3) := by decide +kernel
theorem dX6_round_25 : decode cX6_round 25 = .ok (.iload_n 1, 1) := by decide +kernel
theorem dX6_round_26 : decode cX6_round 26 = .ok (.aaload, 1) := by decide +kernel
theorem dX6_round_27 : decode cX6_round 27 = .ok (.iload_n 2, 1) := by decide +kernel
theorem dX6_round_28 : decode cX6_round 28 = .ok (.invokevirtual 63, 3) := by decide +kernel
theorem dX6_round_31 : decode cX6_round 31 = .ok (.ireturn, 1) := by decide +kernel
set_option maxRecDepth 20000 in
theorem ggX6_step_X6_within : GoodIn wsX6_step wsX6_within := goodIn_r _ [8] (by decide +kernel) (by decide +kernel)
set_option maxRecDepth 20000 in
theorem gX6_step_X6_within : GoodIn wsX6_step (va_wsS RX6 48 yX6_within wsX6_within) := goodIn_app (goodIn_of _ (by decide +kernel)) ggX6_step_X6_within
set_option maxRecDepth 20000 in
theorem ggX6_step_X2_addStep : GoodIn wsX6_step wsX2_addStep := goodIn_r _ [13, 14, 15, 16, 27, 28, 29, 30] (by decide +kernel) (by decide +kernel)
set_option maxRecDepth 20000 in
theorem gX6_step_X2_addStep : GoodIn wsX6_step (wsV RX6 73 RX2 yX2_addStep wsX2_addStep) := goodIn_app (goodIn_of _ (by decide +kernel)) ggX6_step_X2_addStep
theorem dX6_step_0 : decode cX6_step 0 = .ok (.iload_n 1, 1) := by decide +kernel
theorem dX6_step_1 : decode cX6_step 1 = .ok (.iconst 0, 1) := by decide +kernel
theorem dX6_step_2 : decode cX6_step 2 = .ok (.iconst 3, 1) := by decide +kernel
theorem dX6_step_3 : decode cX6_step 3 = .ok (.invokestatic 48, 3) := by decide +kernel
theorem dX6_step_6 : decode cX6_step 6 = .ok (.ifCond .eq 26, 3) := by decide +kernel
theorem dX6_step_9 : decode cX6_step 9 = .ok (.iload_n 2, 1) := by decide +kernel
theorem dX6_step_10 : decode cX6_step 10 = .ok (.iconst 0, 1) := by decide +kernel
theorem dX6_step_11 : decode cX6_step 11 = .ok (.bipush 17, 2) := by decide +kernel
theorem dX6_step_13 : decode cX6_step 13 = .ok (.invokestatic 48, 3) := by decide +kernel
theorem dX6_step_16 : decode cX6_step 16 = .ok (.ifCond .eq 16, 3) := by decide +kernel
theorem dX6_step_19 : decode cX6_step 19 = .ok (.iload_n 3, 1) := by decide +kernel
theorem dX6_step_20 : decode cX6_step 20 = .ok (.iconst 0, 1) := by decide +kernel
theorem dX6_step_21 : decode cX6_step 21 = .ok (.getstatic 66, 3) := by decide +kernel
theorem dX6_step_24 : decode cX6_step 24 = .ok (.iload_n 2, 1) := by decide +kernel
theorem dX6_step_25 : decode cX6_step 25 = .ok (.iaload, 1) := by decide +kernel
theorem dX6_step_26 : decode cX6_step 26 = .ok (.invokestatic 48, 3) := by decide +kernel
theorem dX6_step_29 : decode cX6_step 29 = .ok (.ifCond .ne 5, 3) := by decide +kernel
theorem dX6_step_32 : decode cX6_step 32 = .ok (.iconst (-1), 1) := by decide +kernel
theorem dX6_step_33 : decode cX6_step 33 = .ok (.ireturn, 1) := by decide +kernel
theorem dX6_step_34 : decode cX6_step 34 = .ok (.aload_n 0, 1) := by decide +kernel
theorem dX6_step_35 : decode cX6_step 35 = .ok (.getfield 15, 3) := by decide +kernel
theorem dX6_step_38 : decode cX6_step 38 = .ok (.iload_n 1, 1) := by decide +kernel
theorem dX6_step_39 : decode cX6_step 39 = .ok (.aaload, 1) := by decide +kernel
theorem dX6_step_40 : decode cX6_step 40 = .ok (.getfield 56, 3) := by decide +kernel
theorem dX6_step_43 : decode cX6_step 43 = .ok (.istore 4, 2) := by decide +kernel
theorem dX6_step_45 : decode cX6_step 45 = .ok (.iload 4, 2) := by decide +kernel
theorem dX6_step_47 : decode cX6_step 47 = .ok (.ifCond .ne 6, 3) := by decide +kernel
theorem dX6_step_50 : decode cX6_step 50 = .ok (.bipush (-3), 2) := by decide +kernel
theorem dX6_step_52 : decode cX6_step 52 = .ok (.ireturn, 1) := by decide +kernel
theorem dX6_step_53 : decode cX6_step 53 = .ok (.aload_n 0, 1) := by decide +kernel
theorem dX6_step_54 : decode cX6_step 54 = .ok (.getfield 15, 3) := by decide +kernel
theorem dX6_step_57 : decode cX6_step 57 = .ok (.iload_n 1, 1) := by decide +kernel
theorem dX6_step_58 : decode cX6_step 58 = .ok (.aaload, 1) := by decide +kernel
theorem dX6_step_59 : decode cX6_step 59 = .ok (.getfield 69, 3) := by decide +kernel
theorem dX6_step_62 : decode cX6_step 62 = .ok (.iload 4, 2) := by decide +kernel
theorem dX6_step_64 : decode cX6_step 64 = .ok (.iconst 1, 1) := by decide +kernel
theorem dX6_step_65 : decode cX6_step 65 = .ok (.isub, 1) := by decide +kernel
theorem dX6_step_66 : decode cX6_step 66 = .ok (.aaload, 1) := by decide +kernel
theorem dX6_step_67 : decode cX6_step 67 = .ok (.iload_n 2, 1) := by decide +kernel
theorem dX6_step_68 : decode cX6_step 68 = .ok (.iload_n 3, 1) := by decide +kernel
theorem dX6_step_69 : decode cX6_step 69 = .ok (.invokevirtual 73, 3) := by decide +kernel
theorem dX6_step_72 : decode cX6_step 72 = .ok (.ireturn, 1) := by decide +kernel
set_option maxRecDepth 20000 in
theorem ggX6_tool_X6_within : GoodIn wsX6_tool wsX6_within := goodIn_r _ [6] (by decide +kernel) (by decide +kernel)
set_option maxRecDepth 20000 in
theorem gX6_tool_X6_within : GoodIn wsX6_tool (va_wsS RX6 48 yX6_within wsX6_within) := goodIn_app (goodIn_of _ (by decide +kernel)) ggX6_tool_X6_within
set_option maxRecDepth 20000 in
theorem ggX6_tool_X6_orNone : GoodIn wsX6_tool wsX6_orNone := goodIn_r _ [9] (by decide +kernel) (by decide +kernel)
set_option maxRecDepth 20000 in
theorem gX6_tool_X6_orNone : GoodIn wsX6_tool (va_wsS RX6 52 yX6_orNone wsX6_orNone) := goodIn_app (goodIn_of _ (by decide +kernel)) ggX6_tool_X6_orNone
set_option maxRecDepth 20000 in
theorem ggX6_tool_X4_beginAnew : GoodIn wsX6_tool wsX4_beginAnew := goodIn_r _ [14, 15, 16, 17, 25, 26, 27] (by decide +kernel) (by decide +kernel)
set_option maxRecDepth 20000 in
theorem gX6_tool_X4_beginAnew : GoodIn wsX6_tool (wsV RX6 82 RX4 yX4_beginAnew wsX4_beginAnew) := goodIn_app (goodIn_of _ (by decide +kernel)) ggX6_tool_X4_beginAnew
theorem dX6_tool_0 : decode cX6_tool 0 = .ok (.iload_n 1, 1) := by decide +kernel
theorem dX6_tool_1 : decode cX6_tool 1 = .ok (.iconst 0, 1) := by decide +kernel
theorem dX6_tool_2 : decode cX6_tool 2 = .ok (.iconst 5, 1) := by decide +kernel
theorem dX6_tool_3 : decode cX6_tool 3 = .ok (.invokestatic 48, 3) := by decide +kernel
theorem dX6_tool_6 : decode cX6_tool 6 = .ok (.ifCond .eq 12, 3) := by decide +kernel
theorem dX6_tool_9 : decode cX6_tool 9 = .ok (.iload_n 2, 1) := by decide +kernel
theorem dX6_tool_10 : decode cX6_tool 10 = .ok (.iconst (-1), 1) := by decide +kernel
theorem dX6_tool_11 : decode cX6_tool 11 = .ok (.iconst 1, 1) := by decide +kernel
theorem dX6_tool_12 : decode cX6_tool 12 = .ok (.invokestatic 48, 3) := by decide +kernel
theorem dX6_tool_15 : decode cX6_tool 15 = .ok (.ifCond .ne 5, 3) := by decide +kernel
theorem dX6_tool_18 : decode cX6_tool 18 = .ok (.iconst (-1), 1) := by decide +kernel
theorem dX6_tool_19 : decode cX6_tool 19 = .ok (.ireturn, 1) := by decide +kernel
theorem dX6_tool_20 : decode cX6_tool 20 = .ok (.aload_n 0, 1) := by decide +kernel
theorem dX6_tool_21 : decode cX6_tool 21 = .ok (.getfield 21, 3) := by decide +kernel
theorem dX6_tool_24 : decode cX6_tool 24 = .ok (.iload_n 1, 1) := by decide +kernel
theorem dX6_tool_25 : decode cX6_tool 25 = .ok (.aaload, 1) := by decide +kernel
theorem dX6_tool_26 : decode cX6_tool 26 = .ok (.getfield 79, 3) := by decide +kernel
theorem dX6_tool_29 : decode cX6_tool 29 = .ok (.invokestatic 52, 3) := by decide +kernel
theorem dX6_tool_32 : decode cX6_tool 32 = .ok (.istore_n 3, 1) := by decide +kernel
theorem dX6_tool_33 : decode cX6_tool 33 = .ok (.aload_n 0, 1) := by decide +kernel
theorem dX6_tool_34 : decode cX6_tool 34 = .ok (.getfield 21, 3) := by decide +kernel
theorem dX6_tool_37 : decode cX6_tool 37 = .ok (.iload_n 1, 1) := by decide +kernel
theorem dX6_tool_38 : decode cX6_tool 38 = .ok (.aaload, 1) := by decide +kernel
theorem dX6_tool_39 : decode cX6_tool 39 = .ok (.iload_n 2, 1) := by decide +kernel
theorem dX6_tool_40 : decode cX6_tool 40 = .ok (.invokevirtual 82, 3) := by decide +kernel
theorem dX6_tool_43 : decode cX6_tool 43 = .ok (.iload_n 3, 1) := by decide +kernel
theorem dX6_tool_44 : decode cX6_tool 44 = .ok (.ireturn, 1) := by decide +kernel
set_option maxRecDepth 20000 in
theorem ggX6_lay_X6_within : GoodIn wsX6_lay wsX6_within := goodIn_r _ [5] (by decide +kernel) (by decide +kernel)
set_option maxRecDepth 20000 in
theorem gX6_lay_X6_within : GoodIn wsX6_lay (va_wsS RX6 48 yX6_within wsX6_within) := goodIn_app (goodIn_of _ (by decide +kernel)) ggX6_lay_X6_within
theorem dX6_lay_0 : decode cX6_lay 0 = .ok (.iload_n 1, 1) := by decide +kernel
theorem dX6_lay_1 : decode cX6_lay 1 = .ok (.iconst 0, 1) := by decide +kernel
theorem dX6_lay_2 : decode cX6_lay 2 = .ok (.iconst 3, 1) := by decide +kernel
theorem dX6_lay_3 : decode cX6_lay 3 = .ok (.invokestatic 48, 3) := by decide +kernel
theorem dX6_lay_6 : decode cX6_lay 6 = .ok (.ifCond .eq 13, 3) := by decide +kernel
theorem dX6_lay_9 : decode cX6_lay 9 = .ok (.iload_n 2, 1) := by decide +kernel
theorem dX6_lay_10 : decode cX6_lay 10 = .ok (.iconst 0, 1) := by decide +kernel
theorem dX6_lay_11 : decode cX6_lay 11 = .ok (.bipush 99, 2) := by decide +kernel
theorem dX6_lay_13 : decode cX6_lay 13 = .ok (.invokestatic 48, 3) := by decide +kernel
theorem dX6_lay_16 : decode cX6_lay 16 = .ok (.ifCond .ne 5, 3) := by decide +kernel
theorem dX6_lay_19 : decode cX6_lay 19 = .ok (.iconst (-1), 1) := by decide +kernel
theorem dX6_lay_20 : decode cX6_lay 20 = .ok (.ireturn, 1) := by decide +kernel
theorem dX6_lay_21 : decode cX6_lay 21 = .ok (.aload_n 0, 1) := by decide +kernel
theorem dX6_lay_22 : decode cX6_lay 22 = .ok (.getfield 25, 3) := by decide +kernel
theorem dX6_lay_25 : decode cX6_lay 25 = .ok (.iload_n 1, 1) := by decide +kernel
theorem dX6_lay_26 : decode cX6_lay 26 = .ok (.iaload, 1) := by decide +kernel
theorem dX6_lay_27 : decode cX6_lay 27 = .ok (.istore_n 3, 1) := by decide +kernel
theorem dX6_lay_28 : decode cX6_lay 28 = .ok (.aload_n 0, 1) := by decide +kernel
theorem dX6_lay_29 : decode cX6_lay 29 = .ok (.getfield 25, 3) := by decide +kernel
theorem dX6_lay_32 : decode cX6_lay 32 = .ok (.iload_n 1, 1) := by decide +kernel
theorem dX6_lay_33 : decode cX6_lay 33 = .ok (.iload_n 2, 1) := by decide +kernel
theorem dX6_lay_34 : decode cX6_lay 34 = .ok (.iastore, 1) := by decide +kernel
theorem dX6_lay_35 : decode cX6_lay 35 = .ok (.iload_n 3, 1) := by decide +kernel
theorem dX6_lay_36 : decode cX6_lay 36 = .ok (.ireturn, 1) := by decide +kernel
set_option maxRecDepth 20000 in
theorem ggX6_about_X6_within : GoodIn wsX6_about wsX6_within := goodIn_r _ [8] (by decide +kernel) (by decide +kernel)
set_option maxRecDepth 20000 in
theorem gX6_about_X6_within : GoodIn wsX6_about (va_wsS RX6 48 yX6_within wsX6_within) := goodIn_app (goodIn_of _ (by decide +kernel)) ggX6_about_X6_within
theorem dX6_about_0 : decode cX6_about 0 = .ok (.iload_n 1, 1) := by decide +kernel
theorem dX6_about_1 : decode cX6_about 1 = .ok (.iconst 0, 1) := by decide +kernel
theorem dX6_about_2 : decode cX6_about 2 = .ok (.iconst 5, 1) := by decide +kernel
theorem dX6_about_3 : decode cX6_about 3 = .ok (.invokestatic 48, 3) := by decide +kernel
theorem dX6_about_6 : decode cX6_about 6 = .ok (.ifCond .eq 12, 3) := by decide +kernel
theorem dX6_about_9 : decode cX6_about 9 = .ok (.iload_n 2, 1) := by decide +kernel
theorem dX6_about_10 : decode cX6_about 10 = .ok (.iconst 0, 1) := by decide +kernel
theorem dX6_about_11 : decode cX6_about 11 = .ok (.iconst 2, 1) := by decide +kernel
theorem dX6_about_12 : decode cX6_about 12 = .ok (.invokestatic 48, 3) := by decide +kernel
theorem dX6_about_15 : decode cX6_about 15 = .ok (.ifCond .ne 5, 3) := by decide +kernel
theorem dX6_about_18 : decode cX6_about 18 = .ok (.iconst (-1), 1) := by decide +kernel
theorem dX6_about_19 : decode cX6_about 19 = .ok (.ireturn, 1) := by decide +kernel
theorem dX6_about_20 : decode cX6_about 20 = .ok (.aload_n 0, 1) := by decide +kernel
theorem dX6_about_21 : decode cX6_about 21 = .ok (.getfield 21, 3) := by decide +kernel
theorem dX6_about_24 : decode cX6_about 24 = .ok (.iload_n 1, 1) := by decide +kernel
theorem dX6_about_25 : decode cX6_about 25 = .ok (.aaload, 1) := by decide +kernel
theorem dX6_about_26 : decode cX6_about 26 = .ok (.astore_n 3, 1) := by decide +kernel
theorem dX6_about_27 : decode cX6_about 27 = .ok (.aload_n 3, 1) := by decide +kernel
theorem dX6_about_28 : decode cX6_about 28 = .ok (.getfield 79, 3) := by decide +kernel
theorem dX6_about_31 : decode cX6_about 31 = .ok (.iconst (-1), 1) := by decide +kernel
theorem dX6_about_32 : decode cX6_about 32 = .ok (.if_icmp .ne 6, 3) := by decide +kernel
theorem dX6_about_35 : decode cX6_about 35 = .ok (.bipush (-3), 2) := by decide +kernel
theorem dX6_about_37 : decode cX6_about 37 = .ok (.ireturn, 1) := by decide +kernel
theorem dX6_about_38 : decode cX6_about 38 = .ok (.iload_n 2, 1) := by decide +kernel
theorem dX6_about_39 : decode cX6_about 39 = .ok (.iconst 2, 1) := by decide +kernel
theorem dX6_about_40 : decode cX6_about 40 = .ok (.if_icmp .ne 8, 3) := by decide +kernel
theorem dX6_about_43 : decode cX6_about 43 = .ok (.aload_n 3, 1) := by decide +kernel
theorem dX6_about_44 : decode cX6_about 44 = .ok (.getfield 79, 3) := by decide +kernel
theorem dX6_about_47 : decode cX6_about 47 = .ok (.ireturn, 1) := by decide +kernel
theorem dX6_about_48 : decode cX6_about 48 = .ok (.iload_n 2, 1) := by decide +kernel
theorem dX6_about_49 : decode cX6_about 49 = .ok (.iconst 1, 1) := by decide +kernel
theorem dX6_about_50 : decode cX6_about 50 = .ok (.if_icmp .ne 10, 3) := by decide +kernel
theorem dX6_about_53 : decode cX6_about 53 = .ok (.aload_n 3, 1) := by decide +kernel
theorem dX6_about_54 : decode cX6_about 54 = .ok (.getfield 83, 3) := by decide +kernel
theorem dX6_about_57 : decode cX6_about 57 = .ok (.goto 7, 3) := by decide +kernel
theorem dX6_about_60 : decode cX6_about 60 = .ok (.aload_n 3, 1) := by decide +kernel
theorem dX6_about_61 : decode cX6_about 61 = .ok (.getfield 86, 3) := by decide +kernel
theorem dX6_about_64 : decode cX6_about 64 = .ok (.ireturn, 1) := by decide +kernel
set_option maxRecDepth 20000 in
theorem ggX6_places_X6_within : GoodIn wsX6_places wsX6_within := goodIn_r _ [5] (by decide +kernel) (by decide +kernel)
set_option maxRecDepth 20000 in
theorem gX6_places_X6_within : GoodIn wsX6_places (va_wsS RX6 48 yX6_within wsX6_within) := goodIn_app (goodIn_of _ (by decide +kernel)) ggX6_places_X6_within
set_option maxRecDepth 20000 in
theorem ggX6_places_X3_sizeOf : GoodIn wsX6_places wsX3_sizeOf := goodIn_r _ [10, 11, 12, 13, 14, 22, 23, 24, 25, 26, 27] (by decide +kernel) (by decide +kernel)
set_option maxRecDepth 20000 in
theorem gX6_places_X3_sizeOf : GoodIn wsX6_places (wsV RX6 89 RX3 yX3_sizeOf wsX3_sizeOf) := goodIn_app (goodIn_of _ (by decide +kernel)) ggX6_places_X3_sizeOf
theorem dX6_places_0 : decode cX6_places 0 = .ok (.iload_n 1, 1) := by decide +kernel
theorem dX6_places_1 : decode cX6_places 1 = .ok (.iconst 0, 1) := by decide +kernel
theorem dX6_places_2 : decode cX6_places 2 = .ok (.iconst 3, 1) := by decide +kernel
theorem dX6_places_3 : decode cX6_places 3 = .ok (.invokestatic 48, 3) := by decide +kernel
theorem dX6_places_6 : decode cX6_places 6 = .ok (.ifCond .eq 14, 3) := by decide +kernel
theorem dX6_places_9 : decode cX6_places 9 = .ok (.aload_n 0, 1) := by decide +kernel
theorem dX6_places_10 : decode cX6_places 10 = .ok (.getfield 31, 3) := by decide +kernel
theorem dX6_places_13 : decode cX6_places 13 = .ok (.iload_n 1, 1) := by decide +kernel
theorem dX6_places_14 : decode cX6_places 14 = .ok (.invokevirtual 89, 3) := by decide +kernel
theorem dX6_places_17 : decode cX6_places 17 = .ok (.goto 4, 3) := by decide +kernel
theorem dX6_places_20 : decode cX6_places 20 = .ok (.iconst (-1), 1) := by decide +kernel
theorem dX6_places_21 : decode cX6_places 21 = .ok (.ireturn, 1) := by decide +kernel
set_option maxRecDepth 20000 in
theorem ggX6_box_X6_within : GoodIn wsX6_box wsX6_within := goodIn_r _ [7] (by decide +kernel) (by decide +kernel)
set_option maxRecDepth 20000 in
theorem gX6_box_X6_within : GoodIn wsX6_box (va_wsS RX6 48 yX6_within wsX6_within) := goodIn_app (goodIn_of _ (by decide +kernel)) ggX6_box_X6_within
theorem dX6_box_0 : decode cX6_box 0 = .ok (.iload_n 1, 1) := by decide +kernel
theorem dX6_box_1 : decode cX6_box 1 = .ok (.iconst 0, 1) := by decide +kernel
theorem dX6_box_2 : decode cX6_box 2 = .ok (.aload_n 0, 1) := by decide +kernel
theorem dX6_box_3 : decode cX6_box 3 = .ok (.getfield 31, 3) := by decide +kernel
theorem dX6_box_6 : decode cX6_box 6 = .ok (.getfield 92, 3) := by decide +kernel
theorem dX6_box_9 : decode cX6_box 9 = .ok (.iconst 1, 1) := by decide +kernel
theorem dX6_box_10 : decode cX6_box 10 = .ok (.isub, 1) := by decide +kernel
theorem dX6_box_11 : decode cX6_box 11 = .ok (.invokestatic 48, 3) := by decide +kernel
theorem dX6_box_14 : decode cX6_box 14 = .ok (.ifCond .eq 15, 3) := by decide +kernel
theorem dX6_box_17 : decode cX6_box 17 = .ok (.aload_n 0, 1) := by decide +kernel
theorem dX6_box_18 : decode cX6_box 18 = .ok (.getfield 31, 3) := by decide +kernel
theorem dX6_box_21 : decode cX6_box 21 = .ok (.getfield 95, 3) := by decide +kernel
theorem dX6_box_24 : decode cX6_box 24 = .ok (.iload_n 1, 1) := by decide +kernel
theorem dX6_box_25 : decode cX6_box 25 = .ok (.iaload, 1) := by decide +kernel
theorem dX6_box_26 : decode cX6_box 26 = .ok (.goto 5, 3) := by decide +kernel
theorem dX6_box_29 : decode cX6_box 29 = .ok (.bipush (-4), 2) := by decide +kernel
theorem dX6_box_31 : decode cX6_box 31 = .ok (.ireturn, 1) := by decide +kernel
set_option maxRecDepth 20000 in
theorem ggX6_run_X6_within : GoodIn wsX6_run wsX6_within := goodIn_r _ [10] (by decide +kernel) (by decide +kernel)
set_option maxRecDepth 20000 in
theorem gX6_run_X6_within : GoodIn wsX6_run (va_wsS RX6 48 yX6_within wsX6_within) := goodIn_app (goodIn_of _ (by decide +kernel)) ggX6_run_X6_within
set_option maxRecDepth 20000 in
theorem ggX6_run_X1_beginAnew : GoodIn wsX6_run wsX1_beginAnew := goodIn_r _ [15, 16, 17, 18, 19, 151, 152, 153, 154, 155, 156, 157] (by decide +kernel) (by decide +kernel)
set_option maxRecDepth 20000 in
theorem gX6_run_X1_beginAnew : GoodIn wsX6_run (wsV RX6 98 RX1 yX1_beginAnew wsX1_beginAnew) := goodIn_app (goodIn_of _ (by decide +kernel)) ggX6_run_X1_beginAnew
set_option maxRecDepth 20000 in
theorem ggX6_run_X6_doBatch : GoodIn wsX6_run wsX6_doBatch := goodIn_r _ [23, 24, 1, 25, 26, 27, 3, 28, 29, 30, 31, 32, 14, 33, 16, 17, 34, 35, 36, 37, 9, 38, 39, 40, 41, 42, 43, 44, 45, 19, 46, 47, 48, 49, 50, 51, 52, 6, 53, 54, 55, 56, 57, 58, 59, 5, 4, 60, 61, 62, 63, 64, 65, 66, 67, 68, 69, 70, 71, 72, 73, 74, 75, 76, 77, 78, 79, 80, 81, 82, 83, 84, 85, 86, 87, 88, 89, 90, 91, 92, 93, 94, 95, 96, 97, 98, 99, 100, 101, 102, 103, 104, 105, 106, 107, 108, 109, 110, 111, 112, 113, 114, 115, 116, 117, 118, 119, 120, 121, 122, 123, 124, 125, 126, 127, 128, 129, 130, 131, 132, 133, 134, 135, 136, 137, 138, 18, 139, 140, 141, 142, 143, 144, 145, 146, 147, 148, 149, 150, 158, 159, 160, 151, 152, 153, 154, 155, 156, 157, 161, 162, 163, 164, 165, 166, 167, 168, 169, 170, 171, 172, 173] (by decide +kernel) (by decide +kernel)
set_option maxRecDepth 20000 in
theorem gX6_run_X6_doBatch : GoodIn wsX6_run (wsV RX6 100 RX6 yX6_doBatch wsX6_doBatch) := goodIn_app (goodIn_of _ (by decide +kernel)) ggX6_run_X6_doBatch
set_option maxRecDepth 20000 in
theorem ggX6_run_X1_failInStead : GoodIn wsX6_run wsX1_failInStead := goodIn_r _ [143, 19, 45, 151, 152, 153, 154, 155, 156, 157] (by decide +kernel) (by decide +kernel)
set_option maxRecDepth 20000 in
theorem gX6_run_X1_failInStead : GoodIn wsX6_run (wsV RX6 110 RX1 yX1_failInStead wsX1_failInStead) := goodIn_app (goodIn_of _ (by decide +kernel)) ggX6_run_X1_failInStead
theorem dX6_run_0 : decode cX6_run 0 = .ok (.iload_n 1, 1) := by decide +kernel
theorem dX6_run_1 : decode cX6_run 1 = .ok (.iconst 0, 1) := by decide +kernel
theorem dX6_run_2 : decode cX6_run 2 = .ok (.iconst 3, 1) := by decide +kernel
theorem dX6_run_3 : decode cX6_run 3 = .ok (.invokestatic 48, 3) := by decide +kernel
theorem dX6_run_6 : decode cX6_run 6 = .ok (.ifCond .eq 12, 3) := by decide +kernel
theorem dX6_run_9 : decode cX6_run 9 = .ok (.iload_n 2, 1) := by decide +kernel
theorem dX6_run_10 : decode cX6_run 10 = .ok (.iload_n 1, 1) := by decide +kernel
theorem dX6_run_11 : decode cX6_run 11 = .ok (.iconst 3, 1) := by decide +kernel
theorem dX6_run_12 : decode cX6_run 12 = .ok (.invokestatic 48, 3) := by decide +kernel
theorem dX6_run_15 : decode cX6_run 15 = .ok (.ifCond .ne 5, 3) := by decide +kernel
theorem dX6_run_18 : decode cX6_run 18 = .ok (.iconst (-1), 1) := by decide +kernel
theorem dX6_run_19 : decode cX6_run 19 = .ok (.ireturn, 1) := by decide +kernel
theorem dX6_run_20 : decode cX6_run 20 = .ok (.aload_n 0, 1) := by decide +kernel
theorem dX6_run_21 : decode cX6_run 21 = .ok (.getfield 38, 3) := by decide +kernel
theorem dX6_run_24 : decode cX6_run 24 = .ok (.invokevirtual 98, 3) := by decide +kernel
theorem dX6_run_27 : decode cX6_run 27 = .ok (.iload_n 1, 1) := by decide +kernel
theorem dX6_run_28 : decode cX6_run 28 = .ok (.istore 4, 2) := by decide +kernel
theorem dX6_run_30 : decode cX6_run 30 = .ok (.iload 4, 2) := by decide +kernel
theorem dX6_run_32 : decode cX6_run 32 = .ok (.iload_n 2, 1) := by decide +kernel
theorem dX6_run_33 : decode cX6_run 33 = .ok (.if_icmp .gt 76, 3) := by decide +kernel
theorem dX6_run_36 : decode cX6_run 36 = .ok (.aload_n 0, 1) := by decide +kernel
theorem dX6_run_37 : decode cX6_run 37 = .ok (.aload_n 0, 1) := by decide +kernel
theorem dX6_run_38 : decode cX6_run 38 = .ok (.getfield 15, 3) := by decide +kernel
theorem dX6_run_41 : decode cX6_run 41 = .ok (.iload 4, 2) := by decide +kernel
theorem dX6_run_43 : decode cX6_run 43 = .ok (.aaload, 1) := by decide +kernel
theorem dX6_run_44 : decode cX6_run 44 = .ok (.invokevirtual 100, 3) := by decide +kernel
theorem dX6_run_47 : decode cX6_run 47 = .ok (.astore 5, 2) := by decide +kernel
theorem dX6_run_49 : decode cX6_run 49 = .ok (.aload 5, 2) := by decide +kernel
theorem dX6_run_51 : decode cX6_run 51 = .ok (.getstatic 104, 3) := by decide +kernel
theorem dX6_run_54 : decode cX6_run 54 = .ok (.if_acmp .ne 22, 3) := by decide +kernel
theorem dX6_run_57 : decode cX6_run 57 = .ok (.iload_n 3, 1) := by decide +kernel
theorem dX6_run_58 : decode cX6_run 58 = .ok (.ifCond .eq 15, 3) := by decide +kernel
theorem dX6_run_61 : decode cX6_run 61 = .ok (.aload_n 0, 1) := by decide +kernel
theorem dX6_run_62 : decode cX6_run 62 = .ok (.getfield 38, 3) := by decide +kernel
theorem dX6_run_65 : decode cX6_run 65 = .ok (.bipush 30, 2) := by decide +kernel
theorem dX6_run_67 : decode cX6_run 67 = .ok (.iload 4, 2) := by decide +kernel
theorem dX6_run_69 : decode cX6_run 69 = .ok (.iadd, 1) := by decide +kernel
theorem dX6_run_70 : decode cX6_run 70 = .ok (.invokevirtual 110, 3) := by decide +kernel
theorem dX6_run_73 : decode cX6_run 73 = .ok (.bipush (-10), 2) := by decide +kernel
theorem dX6_run_75 : decode cX6_run 75 = .ok (.ireturn, 1) := by decide +kernel
theorem dX6_run_76 : decode cX6_run 76 = .ok (.aload 5, 2) := by decide +kernel
theorem dX6_run_78 : decode cX6_run 78 = .ok (.getstatic 113, 3) := by decide +kernel
theorem dX6_run_81 : decode cX6_run 81 = .ok (.if_acmp .ne 11, 3) := by decide +kernel
theorem dX6_run_84 : decode cX6_run 84 = .ok (.bipush 100, 2) := by decide +kernel
theorem dX6_run_86 : decode cX6_run 86 = .ok (.aload_n 0, 1) := by decide +kernel
theorem dX6_run_87 : decode cX6_run 87 = .ok (.getfield 42, 3) := by decide +kernel
theorem dX6_run_90 : decode cX6_run 90 = .ok (.iadd, 1) := by decide +kernel
theorem dX6_run_91 : decode cX6_run 91 = .ok (.ireturn, 1) := by decide +kernel
theorem dX6_run_92 : decode cX6_run 92 = .ok (.aload 5, 2) := by decide +kernel
theorem dX6_run_94 : decode cX6_run 94 = .ok (.getstatic 116, 3) := by decide +kernel
theorem dX6_run_97 : decode cX6_run 97 = .ok (.if_acmp .ne 6, 3) := by decide +kernel
theorem dX6_run_100 : decode cX6_run 100 = .ok (.bipush (-11), 2) := by decide +kernel
theorem dX6_run_102 : decode cX6_run 102 = .ok (.ireturn, 1) := by decide +kernel
theorem dX6_run_103 : decode cX6_run 103 = .ok (.iinc 4 1, 3) := by decide +kernel
theorem dX6_run_106 : decode cX6_run 106 = .ok (.goto (-76), 3) := by decide +kernel
theorem dX6_run_109 : decode cX6_run 109 = .ok (.iload_n 2, 1) := by decide +kernel
theorem dX6_run_110 : decode cX6_run 110 = .ok (.iload_n 1, 1) := by decide +kernel
theorem dX6_run_111 : decode cX6_run 111 = .ok (.isub, 1) := by decide +kernel
theorem dX6_run_112 : decode cX6_run 112 = .ok (.iconst 1, 1) := by decide +kernel
theorem dX6_run_113 : decode cX6_run 113 = .ok (.iadd, 1) := by decide +kernel
theorem dX6_run_114 : decode cX6_run 114 = .ok (.ireturn, 1) := by decide +kernel
set_option maxRecDepth 20000 in
theorem ggX6_why_X6_within : GoodIn wsX6_why wsX6_within := goodIn_r _ [7] (by decide +kernel) (by decide +kernel)
set_option maxRecDepth 20000 in
theorem gX6_why_X6_within : GoodIn wsX6_why (va_wsS RX6 48 yX6_within wsX6_within) := goodIn_app (goodIn_of _ (by decide +kernel)) ggX6_why_X6_within
theorem dX6_why_0 : decode cX6_why 0 = .ok (.iload_n 1, 1) := by decide +kernel
theorem dX6_why_1 : decode cX6_why 1 = .ok (.iconst 0, 1) := by decide +kernel
theorem dX6_why_2 : decode cX6_why 2 = .ok (.aload_n 0, 1) := by decide +kernel
theorem dX6_why_3 : decode cX6_why 3 = .ok (.getfield 38, 3) := by decide +kernel
theorem dX6_why_6 : decode cX6_why 6 = .ok (.getfield 119, 3) := by decide +kernel
theorem dX6_why_9 : decode cX6_why 9 = .ok (.iconst 1, 1) := by decide +kernel
theorem dX6_why_10 : decode cX6_why 10 = .ok (.isub, 1) := by decide +kernel
theorem dX6_why_11 : decode cX6_why 11 = .ok (.invokestatic 48, 3) := by decide +kernel
theorem dX6_why_14 : decode cX6_why 14 = .ok (.ifCond .eq 25, 3) := by decide +kernel
theorem dX6_why_17 : decode cX6_why 17 = .ok (.aload_n 0, 1) := by decide +kernel
theorem dX6_why_18 : decode cX6_why 18 = .ok (.getfield 38, 3) := by decide +kernel
theorem dX6_why_21 : decode cX6_why 21 = .ok (.getfield 122, 3) := by decide +kernel
theorem dX6_why_24 : decode cX6_why 24 = .ok (.aload_n 0, 1) := by decide +kernel
theorem dX6_why_25 : decode cX6_why 25 = .ok (.getfield 38, 3) := by decide +kernel
theorem dX6_why_28 : decode cX6_why 28 = .ok (.getfield 119, 3) := by decide +kernel
theorem dX6_why_31 : decode cX6_why 31 = .ok (.iconst 1, 1) := by decide +kernel
theorem dX6_why_32 : decode cX6_why 32 = .ok (.isub, 1) := by decide +kernel
theorem dX6_why_33 : decode cX6_why 33 = .ok (.iload_n 1, 1) := by decide +kernel
theorem dX6_why_34 : decode cX6_why 34 = .ok (.isub, 1) := by decide +kernel
theorem dX6_why_35 : decode cX6_why 35 = .ok (.iaload, 1) := by decide +kernel
theorem dX6_why_36 : decode cX6_why 36 = .ok (.goto 5, 3) := by decide +kernel
theorem dX6_why_39 : decode cX6_why 39 = .ok (.bipush (-4), 2) := by decide +kernel
theorem dX6_why_41 : decode cX6_why 41 = .ok (.ireturn, 1) := by decide +kernel
set_option maxRecDepth 20000 in
theorem ggX6_told_X6_within : GoodIn wsX6_told wsX6_within := goodIn_r _ [8] (by decide +kernel) (by decide +kernel)
set_option maxRecDepth 20000 in
theorem gX6_told_X6_within : GoodIn wsX6_told (va_wsS RX6 48 yX6_within wsX6_within) := goodIn_app (goodIn_of _ (by decide +kernel)) ggX6_told_X6_within
theorem dX6_told_0 : decode cX6_told 0 = .ok (.iload_n 1, 1) := by decide +kernel
theorem dX6_told_1 : decode cX6_told 1 = .ok (.iconst 0, 1) := by decide +kernel
theorem dX6_told_2 : decode cX6_told 2 = .ok (.bipush 7, 2) := by decide +kernel
theorem dX6_told_4 : decode cX6_told 4 = .ok (.invokestatic 48, 3) := by decide +kernel
theorem dX6_told_7 : decode cX6_told 7 = .ok (.ifCond .ne 5, 3) := by decide +kernel
theorem dX6_told_10 : decode cX6_told 10 = .ok (.iconst (-1), 1) := by decide +kernel
theorem dX6_told_11 : decode cX6_told 11 = .ok (.ireturn, 1) := by decide +kernel
theorem dX6_told_12 : decode cX6_told 12 = .ok (.iload_n 1, 1) := by decide +kernel
theorem dX6_told_13 : decode cX6_told 13 = .ok (.bipush 7, 2) := by decide +kernel
theorem dX6_told_15 : decode cX6_told 15 = .ok (.if_icmp .ne 11, 3) := by decide +kernel
theorem dX6_told_18 : decode cX6_told 18 = .ok (.aload_n 0, 1) := by decide +kernel
theorem dX6_told_19 : decode cX6_told 19 = .ok (.getfield 38, 3) := by decide +kernel
theorem dX6_told_22 : decode cX6_told 22 = .ok (.getfield 125, 3) := by decide +kernel
theorem dX6_told_25 : decode cX6_told 25 = .ok (.ireturn, 1) := by decide +kernel
theorem dX6_told_26 : decode cX6_told 26 = .ok (.iload_n 1, 1) := by decide +kernel
theorem dX6_told_27 : decode cX6_told 27 = .ok (.bipush 6, 2) := by decide +kernel
theorem dX6_told_29 : decode cX6_told 29 = .ok (.if_icmp .ne 13, 3) := by decide +kernel
theorem dX6_told_32 : decode cX6_told 32 = .ok (.aload_n 0, 1) := by decide +kernel
theorem dX6_told_33 : decode cX6_told 33 = .ok (.getfield 38, 3) := by decide +kernel
theorem dX6_told_36 : decode cX6_told 36 = .ok (.getfield 128, 3) := by decide +kernel
theorem dX6_told_39 : decode cX6_told 39 = .ok (.goto 14, 3) := by decide +kernel
theorem dX6_told_42 : decode cX6_told 42 = .ok (.aload_n 0, 1) := by decide +kernel
theorem dX6_told_43 : decode cX6_told 43 = .ok (.getfield 38, 3) := by decide +kernel
theorem dX6_told_46 : decode cX6_told 46 = .ok (.getfield 131, 3) := by decide +kernel
theorem dX6_told_49 : decode cX6_told 49 = .ok (.iload_n 1, 1) := by decide +kernel
theorem dX6_told_50 : decode cX6_told 50 = .ok (.iconst 1, 1) := by decide +kernel
theorem dX6_told_51 : decode cX6_told 51 = .ok (.iadd, 1) := by decide +kernel
theorem dX6_told_52 : decode cX6_told 52 = .ok (.iaload, 1) := by decide +kernel
theorem dX6_told_53 : decode cX6_told 53 = .ok (.ireturn, 1) := by decide +kernel
set_option maxRecDepth 20000 in
theorem ggX6_trace_X6_within : GoodIn wsX6_trace wsX6_within := goodIn_r _ [11] (by decide +kernel) (by decide +kernel)
set_option maxRecDepth 20000 in
theorem gX6_trace_X6_within : GoodIn wsX6_trace (va_wsS RX6 48 yX6_within wsX6_within) := goodIn_app (goodIn_of _ (by decide +kernel)) ggX6_trace_X6_within
theorem dX6_trace_0 : decode cX6_trace 0 = .ok (.iload_n 1, 1) := by decide +kernel
theorem dX6_trace_1 : decode cX6_trace 1 = .ok (.iconst 0, 1) := by decide +kernel
theorem dX6_trace_2 : decode cX6_trace 2 = .ok (.aload_n 0, 1) := by decide +kernel
theorem dX6_trace_3 : decode cX6_trace 3 = .ok (.getfield 38, 3) := by decide +kernel
theorem dX6_trace_6 : decode cX6_trace 6 = .ok (.getfield 125, 3) := by decide +kernel
theorem dX6_trace_9 : decode cX6_trace 9 = .ok (.sipush 400, 3) := by decide +kernel
theorem dX6_trace_12 : decode cX6_trace 12 = .ok (.invokestatic 134, 3) := by decide +kernel
theorem dX6_trace_15 : decode cX6_trace 15 = .ok (.iconst 1, 1) := by decide +kernel
theorem dX6_trace_16 : decode cX6_trace 16 = .ok (.isub, 1) := by decide +kernel
theorem dX6_trace_17 : decode cX6_trace 17 = .ok (.invokestatic 48, 3) := by decide +kernel
theorem dX6_trace_20 : decode cX6_trace 20 = .ok (.ifCond .eq 15, 3) := by decide +kernel
theorem dX6_trace_23 : decode cX6_trace 23 = .ok (.aload_n 0, 1) := by decide +kernel
theorem dX6_trace_24 : decode cX6_trace 24 = .ok (.getfield 38, 3) := by decide +kernel
theorem dX6_trace_27 : decode cX6_trace 27 = .ok (.getfield 139, 3) := by decide +kernel
theorem dX6_trace_30 : decode cX6_trace 30 = .ok (.iload_n 1, 1) := by decide +kernel
theorem dX6_trace_31 : decode cX6_trace 31 = .ok (.iaload, 1) := by decide +kernel
theorem dX6_trace_32 : decode cX6_trace 32 = .ok (.goto 5, 3) := by decide +kernel
theorem dX6_trace_35 : decode cX6_trace 35 = .ok (.bipush (-4), 2) := by decide +kernel
theorem dX6_trace_37 : decode cX6_trace 37 = .ok (.ireturn, 1) := by decide +kernel
set_option maxRecDepth 20000 in
theorem ggX6_noted_X6_within : GoodIn wsX6_noted wsX6_within := goodIn_r _ [7] (by decide +kernel) (by decide +kernel)
set_option maxRecDepth 20000 in
theorem gX6_noted_X6_within : GoodIn wsX6_noted (va_wsS RX6 48 yX6_within wsX6_within) := goodIn_app (goodIn_of _ (by decide +kernel)) ggX6_noted_X6_within
theorem dX6_noted_0 : decode cX6_noted 0 = .ok (.iload_n 1, 1) := by decide +kernel
theorem dX6_noted_1 : decode cX6_noted 1 = .ok (.iconst 0, 1) := by decide +kernel
theorem dX6_noted_2 : decode cX6_noted 2 = .ok (.aload_n 0, 1) := by decide +kernel
theorem dX6_noted_3 : decode cX6_noted 3 = .ok (.getfield 38, 3) := by decide +kernel
theorem dX6_noted_6 : decode cX6_noted 6 = .ok (.getfield 128, 3) := by decide +kernel
theorem dX6_noted_9 : decode cX6_noted 9 = .ok (.iconst 1, 1) := by decide +kernel
theorem dX6_noted_10 : decode cX6_noted 10 = .ok (.isub, 1) := by decide +kernel
theorem dX6_noted_11 : decode cX6_noted 11 = .ok (.invokestatic 48, 3) := by decide +kernel
theorem dX6_noted_14 : decode cX6_noted 14 = .ok (.ifCond .eq 15, 3) := by decide +kernel
theorem dX6_noted_17 : decode cX6_noted 17 = .ok (.aload_n 0, 1) := by decide +kernel
theorem dX6_noted_18 : decode cX6_noted 18 = .ok (.getfield 38, 3) := by decide +kernel
theorem dX6_noted_21 : decode cX6_noted 21 = .ok (.getfield 142, 3) := by decide +kernel
theorem dX6_noted_24 : decode cX6_noted 24 = .ok (.iload_n 1, 1) := by decide +kernel
theorem dX6_noted_25 : decode cX6_noted 25 = .ok (.iaload, 1) := by decide +kernel
theorem dX6_noted_26 : decode cX6_noted 26 = .ok (.goto 5, 3) := by decide +kernel
theorem dX6_noted_29 : decode cX6_noted 29 = .ok (.bipush (-4), 2) := by decide +kernel
theorem dX6_noted_31 : decode cX6_noted 31 = .ok (.ireturn, 1) := by decide +kernel
set_option maxRecDepth 20000 in
theorem ggX6_drops_X6_within : GoodIn wsX6_drops wsX6_within := goodIn_r _ [5] (by decide +kernel) (by decide +kernel)
set_option maxRecDepth 20000 in
theorem gX6_drops_X6_within : GoodIn wsX6_drops (va_wsS RX6 48 yX6_within wsX6_within) := goodIn_app (goodIn_of _ (by decide +kernel)) ggX6_drops_X6_within
set_option maxRecDepth 20000 in
theorem ggX6_drops_X6_orNone : GoodIn wsX6_drops wsX6_orNone := goodIn_r _ [8] (by decide +kernel) (by decide +kernel)
set_option maxRecDepth 20000 in
theorem gX6_drops_X6_orNone : GoodIn wsX6_drops (va_wsS RX6 52 yX6_orNone wsX6_orNone) := goodIn_app (goodIn_of _ (by decide +kernel)) ggX6_drops_X6_orNone
theorem dX6_drops_0 : decode cX6_drops 0 = .ok (.iload_n 1, 1) := by decide +kernel
theorem dX6_drops_1 : decode cX6_drops 1 = .ok (.iconst 0, 1) := by decide +kernel
theorem dX6_drops_2 : decode cX6_drops 2 = .ok (.bipush 7, 2) := by decide +kernel
theorem dX6_drops_4 : decode cX6_drops 4 = .ok (.invokestatic 48, 3) := by decide +kernel
theorem dX6_drops_7 : decode cX6_drops 7 = .ok (.ifCond .eq 15, 3) := by decide +kernel
theorem dX6_drops_10 : decode cX6_drops 10 = .ok (.aload_n 0, 1) := by decide +kernel
theorem dX6_drops_11 : decode cX6_drops 11 = .ok (.getfield 9, 3) := by decide +kernel
theorem dX6_drops_14 : decode cX6_drops 14 = .ok (.iload_n 1, 1) := by decide +kernel
theorem dX6_drops_15 : decode cX6_drops 15 = .ok (.iaload, 1) := by decide +kernel
theorem dX6_drops_16 : decode cX6_drops 16 = .ok (.invokestatic 52, 3) := by decide +kernel
theorem dX6_drops_19 : decode cX6_drops 19 = .ok (.goto 4, 3) := by decide +kernel
theorem dX6_drops_22 : decode cX6_drops 22 = .ok (.iconst (-1), 1) := by decide +kernel
theorem dX6_drops_23 : decode cX6_drops 23 = .ok (.ireturn, 1) := by decide +kernel
theorem dX6_sum_0 : decode cX6_sum 0 = .ok (.iconst 0, 1) := by decide +kernel
theorem dX6_sum_1 : decode cX6_sum 1 = .ok (.istore_n 1, 1) := by decide +kernel
theorem dX6_sum_2 : decode cX6_sum 2 = .ok (.aload_n 0, 1) := by decide +kernel
theorem dX6_sum_3 : decode cX6_sum 3 = .ok (.getfield 9, 3) := by decide +kernel
theorem dX6_sum_6 : decode cX6_sum 6 = .ok (.astore_n 2, 1) := by decide +kernel
theorem dX6_sum_7 : decode cX6_sum 7 = .ok (.aload_n 2, 1) := by decide +kernel
theorem dX6_sum_8 : decode cX6_sum 8 = .ok (.arraylength, 1) := by decide +kernel
theorem dX6_sum_9 : decode cX6_sum 9 = .ok (.istore_n 3, 1) := by decide +kernel
theorem dX6_sum_10 : decode cX6_sum 10 = .ok (.iconst 0, 1) := by decide +kernel
theorem dX6_sum_11 : decode cX6_sum 11 = .ok (.istore 4, 2) := by decide +kernel
theorem dX6_sum_13 : decode cX6_sum 13 = .ok (.iload 4, 2) := by decide +kernel
theorem dX6_sum_15 : decode cX6_sum 15 = .ok (.iload_n 3, 1) := by decide +kernel
theorem dX6_sum_16 : decode cX6_sum 16 = .ok (.if_icmp .ge 26, 3) := by decide +kernel
theorem dX6_sum_19 : decode cX6_sum 19 = .ok (.aload_n 2, 1) := by decide +kernel
theorem dX6_sum_20 : decode cX6_sum 20 = .ok (.iload 4, 2) := by decide +kernel
theorem dX6_sum_22 : decode cX6_sum 22 = .ok (.iaload, 1) := by decide +kernel
theorem dX6_sum_23 : decode cX6_sum 23 = .ok (.istore 5, 2) := by decide +kernel
theorem dX6_sum_25 : decode cX6_sum 25 = .ok (.iload 5, 2) := by decide +kernel
theorem dX6_sum_27 : decode cX6_sum 27 = .ok (.iconst (-1), 1) := by decide +kernel
theorem dX6_sum_28 : decode cX6_sum 28 = .ok (.if_icmp .eq 8, 3) := by decide +kernel
theorem dX6_sum_31 : decode cX6_sum 31 = .ok (.iload_n 1, 1) := by decide +kernel
theorem dX6_sum_32 : decode cX6_sum 32 = .ok (.iload 5, 2) := by decide +kernel
theorem dX6_sum_34 : decode cX6_sum 34 = .ok (.iadd, 1) := by decide +kernel
theorem dX6_sum_35 : decode cX6_sum 35 = .ok (.istore_n 1, 1) := by decide +kernel
theorem dX6_sum_36 : decode cX6_sum 36 = .ok (.iinc 4 1, 3) := by decide +kernel
theorem dX6_sum_39 : decode cX6_sum 39 = .ok (.goto (-26), 3) := by decide +kernel
theorem dX6_sum_42 : decode cX6_sum 42 = .ok (.iload_n 1, 1) := by decide +kernel
theorem dX6_sum_43 : decode cX6_sum 43 = .ok (.ireturn, 1) := by decide +kernel
theorem dX6_within_0 : decode cX6_within 0 = .ok (.iload_n 0, 1) := by decide +kernel
theorem dX6_within_1 : decode cX6_within 1 = .ok (.iload_n 1, 1) := by decide +kernel
theorem dX6_within_2 : decode cX6_within 2 = .ok (.if_icmp .lt 12, 3) := by decide +kernel
theorem dX6_within_5 : decode cX6_within 5 = .ok (.iload_n 0, 1) := by decide +kernel
theorem dX6_within_6 : decode cX6_within 6 = .ok (.iload_n 2, 1) := by decide +kernel
theorem dX6_within_7 : decode cX6_within 7 = .ok (.if_icmp .gt 7, 3) := by decide +kernel
theorem dX6_within_10 : decode cX6_within 10 = .ok (.iconst 1, 1) := by decide +kernel
theorem dX6_within_11 : decode cX6_within 11 = .ok (.goto 4, 3) := by decide +kernel
theorem dX6_within_14 : decode cX6_within 14 = .ok (.iconst 0, 1) := by decide +kernel
theorem dX6_within_15 : decode cX6_within 15 = .ok (.ireturn, 1) := by decide +kernel
theorem dX6_orNone_0 : decode cX6_orNone 0 = .ok (.iload_n 0, 1) := by decide +kernel
theorem dX6_orNone_1 : decode cX6_orNone 1 = .ok (.iconst (-1), 1) := by decide +kernel
theorem dX6_orNone_2 : decode cX6_orNone 2 = .ok (.if_icmp .ne 8, 3) := by decide +kernel
theorem dX6_orNone_5 : decode cX6_orNone 5 = .ok (.bipush (-4), 2) := by decide +kernel
theorem dX6_orNone_7 : decode cX6_orNone 7 = .ok (.goto 4, 3) := by decide +kernel
theorem dX6_orNone_10 : decode cX6_orNone 10 = .ok (.iload_n 0, 1) := by decide +kernel
theorem dX6_orNone_11 : decode cX6_orNone 11 = .ok (.ireturn, 1) := by decide +kernel
set_option maxRecDepth 20000 in
theorem ggX6_doBatch_X1_mark : GoodIn wsX6_doBatch wsX1_mark := goodIn_r _ [13, 14, 15, 16, 142, 143, 144, 145, 146, 147, 148] (by decide +kernel) (by decide +kernel)
set_option maxRecDepth 20000 in
theorem gX6_doBatch_X1_mark : GoodIn wsX6_doBatch (wsV RX6 148 RX1 yX1_mark wsX1_mark) := goodIn_app (goodIn_of _ (by decide +kernel)) ggX6_doBatch_X1_mark
set_option maxRecDepth 20000 in
theorem ggX6_doBatch_X6_doRound : GoodIn wsX6_doBatch wsX6_doRound := goodIn_r _ [21, 22, 2, 23, 24, 25, 26, 12, 27, 28, 29, 30, 9, 10, 11, 13, 14, 15, 16, 31, 32, 33, 20, 34, 35, 36, 37, 38, 39, 40, 1, 41, 42, 43, 44, 5, 8, 45, 46, 47, 48, 49, 50, 51, 52, 53, 54, 55, 56, 57, 58, 59, 60, 61, 62, 63, 64, 65, 66, 67, 68, 69, 70, 71, 72, 73, 74, 75, 76, 77, 78, 79, 80, 81, 82, 83, 84, 85, 86, 87, 88, 89, 90, 91, 92, 93, 94, 95, 96, 97, 98, 99, 100, 101, 102, 103, 104, 105, 106, 107, 108, 109, 110, 111, 112, 113, 114, 115, 116, 117, 149, 150, 151, 152, 132, 133, 134, 135, 136, 137, 138, 142, 143, 144, 145, 146, 147, 148, 153, 154, 155, 156, 157, 158, 159, 160, 161] (by decide +kernel) (by decide +kernel)
set_option maxRecDepth 20000 in
theorem gX6_doBatch_X6_doRound : GoodIn wsX6_doBatch (wsV RX6 151 RX6 yX6_doRound wsX6_doRound) := goodIn_app (goodIn_of _ (by decide +kernel)) ggX6_doBatch_X6_doRound
set_option maxRecDepth 20000 in
theorem ggX6_doBatch_X6_takeFailure : GoodIn wsX6_doBatch wsX6_takeFailure := goodIn_r _ [121, 2, 1, 6, 122, 123, 124, 12, 125, 29, 126, 127, 28, 128, 129, 130, 131, 132, 133, 134, 135, 136, 137, 138, 142, 143, 144, 145, 146, 147, 148] (by decide +kernel) (by decide +kernel)
set_option maxRecDepth 20000 in
theorem gX6_doBatch_X6_takeFailure : GoodIn wsX6_doBatch (wsV RX6 161 RX6 yX6_takeFailure wsX6_takeFailure) := goodIn_app (goodIn_of _ (by decide +kernel)) ggX6_doBatch_X6_takeFailure
theorem dX6_doBatch_0 : decode cX6_doBatch 0 = .ok (.getstatic 145, 3) := by decide +kernel
theorem dX6_doBatch_3 : decode cX6_doBatch 3 = .ok (.astore_n 2, 1) := by decide +kernel
theorem dX6_doBatch_4 : decode cX6_doBatch 4 = .ok (.aload_n 0, 1) := by decide +kernel
theorem dX6_doBatch_5 : decode cX6_doBatch 5 = .ok (.getfield 38, 3) := by decide +kernel
theorem dX6_doBatch_8 : decode cX6_doBatch 8 = .ok (.iconst 1, 1) := by decide +kernel
theorem dX6_doBatch_9 : decode cX6_doBatch 9 = .ok (.invokevirtual 148, 3) := by decide +kernel
theorem dX6_doBatch_12 : decode cX6_doBatch 12 = .ok (.iconst 0, 1) := by decide +kernel
theorem dX6_doBatch_13 : decode cX6_doBatch 13 = .ok (.istore_n 3, 1) := by decide +kernel
theorem dX6_doBatch_14 : decode cX6_doBatch 14 = .ok (.iload_n 3, 1) := by decide +kernel
theorem dX6_doBatch_15 : decode cX6_doBatch 15 = .ok (.aload_n 1, 1) := by decide +kernel
theorem dX6_doBatch_16 : decode cX6_doBatch 16 = .ok (.getfield 56, 3) := by decide +kernel
theorem dX6_doBatch_19 : decode cX6_doBatch 19 = .ok (.if_icmp .ge 58, 3) := by decide +kernel
theorem dX6_doBatch_22 : decode cX6_doBatch 22 = .ok (.aload_n 2, 1) := by decide +kernel
theorem dX6_doBatch_23 : decode cX6_doBatch 23 = .ok (.getstatic 145, 3) := by decide +kernel
theorem dX6_doBatch_26 : decode cX6_doBatch 26 = .ok (.if_acmp .ne 51, 3) := by decide +kernel
theorem dX6_doBatch_29 : decode cX6_doBatch 29 = .ok (.aload_n 0, 1) := by decide +kernel
theorem dX6_doBatch_30 : decode cX6_doBatch 30 = .ok (.aload_n 1, 1) := by decide +kernel
theorem dX6_doBatch_31 : decode cX6_doBatch 31 = .ok (.getfield 69, 3) := by decide +kernel
theorem dX6_doBatch_34 : decode cX6_doBatch 34 = .ok (.iload_n 3, 1) := by decide +kernel
theorem dX6_doBatch_35 : decode cX6_doBatch 35 = .ok (.aaload, 1) := by decide +kernel
theorem dX6_doBatch_36 : decode cX6_doBatch 36 = .ok (.invokevirtual 151, 3) := by decide +kernel
theorem dX6_doBatch_39 : decode cX6_doBatch 39 = .ok (.astore_n 2, 1) := by decide +kernel
theorem dX6_doBatch_40 : decode cX6_doBatch 40 = .ok (.aload_n 2, 1) := by decide +kernel
theorem dX6_doBatch_41 : decode cX6_doBatch 41 = .ok (.getstatic 155, 3) := by decide +kernel
theorem dX6_doBatch_44 : decode cX6_doBatch 44 = .ok (.if_acmp .ne 10, 3) := by decide +kernel
theorem dX6_doBatch_47 : decode cX6_doBatch 47 = .ok (.getstatic 145, 3) := by decide +kernel
theorem dX6_doBatch_50 : decode cX6_doBatch 50 = .ok (.astore_n 2, 1) := by decide +kernel
theorem dX6_doBatch_51 : decode cX6_doBatch 51 = .ok (.goto 20, 3) := by decide +kernel
theorem dX6_doBatch_54 : decode cX6_doBatch 54 = .ok (.aload_n 2, 1) := by decide +kernel
theorem dX6_doBatch_55 : decode cX6_doBatch 55 = .ok (.getstatic 104, 3) := by decide +kernel
theorem dX6_doBatch_58 : decode cX6_doBatch 58 = .ok (.if_acmp .ne 13, 3) := by decide +kernel
theorem dX6_doBatch_61 : decode cX6_doBatch 61 = .ok (.aload_n 0, 1) := by decide +kernel
theorem dX6_doBatch_62 : decode cX6_doBatch 62 = .ok (.aload_n 1, 1) := by decide +kernel
theorem dX6_doBatch_63 : decode cX6_doBatch 63 = .ok (.getfield 158, 3) := by decide +kernel
theorem dX6_doBatch_66 : decode cX6_doBatch 66 = .ok (.iload_n 3, 1) := by decide +kernel
theorem dX6_doBatch_67 : decode cX6_doBatch 67 = .ok (.invokevirtual 161, 3) := by decide +kernel
theorem dX6_doBatch_70 : decode cX6_doBatch 70 = .ok (.astore_n 2, 1) := by decide +kernel
theorem dX6_doBatch_71 : decode cX6_doBatch 71 = .ok (.iinc 3 1, 3) := by decide +kernel
theorem dX6_doBatch_74 : decode cX6_doBatch 74 = .ok (.goto (-60), 3) := by decide +kernel
theorem dX6_doBatch_77 : decode cX6_doBatch 77 = .ok (.aload_n 0, 1) := by decide +kernel
theorem dX6_doBatch_78 : decode cX6_doBatch 78 = .ok (.getfield 38, 3) := by decide +kernel
theorem dX6_doBatch_81 : decode cX6_doBatch 81 = .ok (.iconst 2, 1) := by decide +kernel
theorem dX6_doBatch_82 : decode cX6_doBatch 82 = .ok (.invokevirtual 148, 3) := by decide +kernel
theorem dX6_doBatch_85 : decode cX6_doBatch 85 = .ok (.aload_n 2, 1) := by decide +kernel
theorem dX6_doBatch_86 : decode cX6_doBatch 86 = .ok (.getstatic 165, 3) := by decide +kernel
theorem dX6_doBatch_89 : decode cX6_doBatch 89 = .ok (.if_acmp .ne 9, 3) := by decide +kernel
theorem dX6_doBatch_92 : decode cX6_doBatch 92 = .ok (.getstatic 145, 3) := by decide +kernel
theorem dX6_doBatch_95 : decode cX6_doBatch 95 = .ok (.goto 4, 3) := by decide +kernel
theorem dX6_doBatch_98 : decode cX6_doBatch 98 = .ok (.aload_n 2, 1) := by decide +kernel
theorem dX6_doBatch_99 : decode cX6_doBatch 99 = .ok (.areturn, 1) := by decide +kernel
set_option maxRecDepth 20000 in
theorem ggX6_takeFailure_X1_noteFailure : GoodIn wsX6_takeFailure wsX1_noteFailure := goodIn_r _ [8, 9, 10, 11, 12, 24, 25, 26, 27, 28, 29, 30] (by decide +kernel) (by decide +kernel)
set_option maxRecDepth 20000 in
theorem gX6_takeFailure_X1_noteFailure : GoodIn wsX6_takeFailure (wsV RX6 168 RX1 yX1_noteFailure wsX1_noteFailure) := goodIn_app (goodIn_of _ (by decide +kernel)) ggX6_takeFailure_X1_noteFailure
set_option maxRecDepth 20000 in
theorem ggX6_takeFailure_X1_failInStead : GoodIn wsX6_takeFailure wsX1_failInStead := goodIn_r _ [16, 9, 12, 24, 25, 26, 27, 28, 29, 30] (by decide +kernel) (by decide +kernel)
set_option maxRecDepth 20000 in
theorem gX6_takeFailure_X1_failInStead : GoodIn wsX6_takeFailure (wsV RX6 110 RX1 yX1_failInStead wsX1_failInStead) := goodIn_app (goodIn_of _ (by decide +kernel)) ggX6_takeFailure_X1_failInStead
theorem dX6_takeFailure_0 : decode cX6_takeFailure 0 = .ok (.iload_n 1, 1) := by decide +kernel
theorem dX6_takeFailure_1 : decode cX6_takeFailure 1 = .ok (.iconst 1, 1) := by decide +kernel
theorem dX6_takeFailure_2 : decode cX6_takeFailure 2 = .ok (.if_icmp .ne 14, 3) := by decide +kernel
theorem dX6_takeFailure_5 : decode cX6_takeFailure 5 = .ok (.aload_n 0, 1) := by decide +kernel
theorem dX6_takeFailure_6 : decode cX6_takeFailure 6 = .ok (.getfield 38, 3) := by decide +kernel
theorem dX6_takeFailure_9 : decode cX6_takeFailure 9 = .ok (.invokevirtual 168, 3) := by decide +kernel
theorem dX6_takeFailure_12 : decode cX6_takeFailure 12 = .ok (.getstatic 145, 3) := by decide +kernel
theorem dX6_takeFailure_15 : decode cX6_takeFailure 15 = .ok (.areturn, 1) := by decide +kernel
theorem dX6_takeFailure_16 : decode cX6_takeFailure 16 = .ok (.iload_n 1, 1) := by decide +kernel
theorem dX6_takeFailure_17 : decode cX6_takeFailure 17 = .ok (.iconst 2, 1) := by decide +kernel
theorem dX6_takeFailure_18 : decode cX6_takeFailure 18 = .ok (.if_icmp .ne 14, 3) := by decide +kernel
theorem dX6_takeFailure_21 : decode cX6_takeFailure 21 = .ok (.aload_n 0, 1) := by decide +kernel
theorem dX6_takeFailure_22 : decode cX6_takeFailure 22 = .ok (.getfield 38, 3) := by decide +kernel
theorem dX6_takeFailure_25 : decode cX6_takeFailure 25 = .ok (.bipush 20, 2) := by decide +kernel
theorem dX6_takeFailure_27 : decode cX6_takeFailure 27 = .ok (.iload_n 2, 1) := by decide +kernel
theorem dX6_takeFailure_28 : decode cX6_takeFailure 28 = .ok (.iadd, 1) := by decide +kernel
theorem dX6_takeFailure_29 : decode cX6_takeFailure 29 = .ok (.invokevirtual 110, 3) := by decide +kernel
theorem dX6_takeFailure_32 : decode cX6_takeFailure 32 = .ok (.getstatic 104, 3) := by decide +kernel
theorem dX6_takeFailure_35 : decode cX6_takeFailure 35 = .ok (.areturn, 1) := by decide +kernel
set_option maxRecDepth 20000 in
theorem ggX6_doRound_X1_fail : GoodIn wsX6_doRound wsX1_fail := goodIn_r _ [8, 9, 10, 11, 121, 122, 123, 124, 125, 126, 127] (by decide +kernel) (by decide +kernel)
set_option maxRecDepth 20000 in
theorem gX6_doRound_X1_fail : GoodIn wsX6_doRound (wsV RX6 174 RX1 yX1_fail wsX1_fail) := goodIn_app (goodIn_of _ (by decide +kernel)) ggX6_doRound_X1_fail
set_option maxRecDepth 20000 in
theorem ggX6_doRound_X1_mark : GoodIn wsX6_doRound wsX1_mark := goodIn_r _ [15, 16, 17, 18, 121, 122, 123, 124, 125, 126, 127] (by decide +kernel) (by decide +kernel)
set_option maxRecDepth 20000 in
theorem gX6_doRound_X1_mark : GoodIn wsX6_doRound (wsV RX6 148 RX1 yX1_mark wsX1_mark) := goodIn_app (goodIn_of _ (by decide +kernel)) ggX6_doRound_X1_mark
set_option maxRecDepth 20000 in
theorem ggX6_doRound_X6_doSteps : GoodIn wsX6_doRound wsX6_doSteps := goodIn_r _ [23, 24, 2, 25, 26, 27, 28, 1, 29, 30, 12, 13, 14, 7, 15, 16, 17, 18, 31, 32, 33, 22, 34, 35, 36, 37, 38, 3, 39, 40, 41, 42, 4, 5, 6, 8, 9, 10, 11, 43, 44, 45, 46, 47, 48, 49, 50, 51, 52, 53, 54, 55, 56, 57, 58, 59, 60, 61, 62, 63, 64, 65, 66, 67, 68, 69, 70, 71, 72, 73, 74, 75, 76, 77, 78, 79, 80, 81, 82, 83, 84, 85, 86, 87, 88, 89, 90, 91, 92, 93, 94, 95, 96, 97, 98, 99, 100, 101, 102, 103, 104, 105, 106, 107, 108, 109, 110, 111, 112, 113, 114, 115, 116, 117, 118, 119, 120, 121, 122, 123, 124, 125, 126, 127, 128, 129, 130, 131, 132, 133, 134, 135, 136] (by decide +kernel) (by decide +kernel)
set_option maxRecDepth 20000 in
theorem gX6_doRound_X6_doSteps : GoodIn wsX6_doRound (wsV RX6 178 RX6 yX6_doSteps wsX6_doSteps) := goodIn_app (goodIn_of _ (by decide +kernel)) ggX6_doRound_X6_doSteps
theorem dX6_doRound_0 : decode cX6_doRound 0 = .ok (.aload_n 1, 1) := by decide +kernel
theorem dX6_doRound_1 : decode cX6_doRound 1 = .ok (.getfield 171, 3) := by decide +kernel
theorem dX6_doRound_4 : decode cX6_doRound 4 = .ok (.bipush 8, 2) := by decide +kernel
theorem dX6_doRound_6 : decode cX6_doRound 6 = .ok (.if_icmp .lt 12, 3) := by decide +kernel
theorem dX6_doRound_9 : decode cX6_doRound 9 = .ok (.aload_n 0, 1) := by decide +kernel
theorem dX6_doRound_10 : decode cX6_doRound 10 = .ok (.getfield 38, 3) := by decide +kernel
theorem dX6_doRound_13 : decode cX6_doRound 13 = .ok (.iconst 4, 1) := by decide +kernel
theorem dX6_doRound_14 : decode cX6_doRound 14 = .ok (.invokevirtual 174, 3) := by decide +kernel
theorem dX6_doRound_17 : decode cX6_doRound 17 = .ok (.areturn, 1) := by decide +kernel
theorem dX6_doRound_18 : decode cX6_doRound 18 = .ok (.aload_n 0, 1) := by decide +kernel
theorem dX6_doRound_19 : decode cX6_doRound 19 = .ok (.getfield 9, 3) := by decide +kernel
theorem dX6_doRound_22 : decode cX6_doRound 22 = .ok (.aload_n 1, 1) := by decide +kernel
theorem dX6_doRound_23 : decode cX6_doRound 23 = .ok (.getfield 171, 3) := by decide +kernel
theorem dX6_doRound_26 : decode cX6_doRound 26 = .ok (.iaload, 1) := by decide +kernel
theorem dX6_doRound_27 : decode cX6_doRound 27 = .ok (.iconst (-1), 1) := by decide +kernel
theorem dX6_doRound_28 : decode cX6_doRound 28 = .ok (.if_icmp .ne 12, 3) := by decide +kernel
theorem dX6_doRound_31 : decode cX6_doRound 31 = .ok (.aload_n 0, 1) := by decide +kernel
theorem dX6_doRound_32 : decode cX6_doRound 32 = .ok (.getfield 38, 3) := by decide +kernel
theorem dX6_doRound_35 : decode cX6_doRound 35 = .ok (.iconst 5, 1) := by decide +kernel
theorem dX6_doRound_36 : decode cX6_doRound 36 = .ok (.invokevirtual 174, 3) := by decide +kernel
theorem dX6_doRound_39 : decode cX6_doRound 39 = .ok (.areturn, 1) := by decide +kernel
theorem dX6_doRound_40 : decode cX6_doRound 40 = .ok (.aload_n 0, 1) := by decide +kernel
theorem dX6_doRound_41 : decode cX6_doRound 41 = .ok (.getfield 38, 3) := by decide +kernel
theorem dX6_doRound_44 : decode cX6_doRound 44 = .ok (.iconst 3, 1) := by decide +kernel
theorem dX6_doRound_45 : decode cX6_doRound 45 = .ok (.invokevirtual 148, 3) := by decide +kernel
theorem dX6_doRound_48 : decode cX6_doRound 48 = .ok (.aload_n 0, 1) := by decide +kernel
theorem dX6_doRound_49 : decode cX6_doRound 49 = .ok (.aload_n 1, 1) := by decide +kernel
theorem dX6_doRound_50 : decode cX6_doRound 50 = .ok (.invokevirtual 178, 3) := by decide +kernel
theorem dX6_doRound_53 : decode cX6_doRound 53 = .ok (.astore_n 2, 1) := by decide +kernel
theorem dX6_doRound_54 : decode cX6_doRound 54 = .ok (.aload_n 0, 1) := by decide +kernel
theorem dX6_doRound_55 : decode cX6_doRound 55 = .ok (.getfield 38, 3) := by decide +kernel
theorem dX6_doRound_58 : decode cX6_doRound 58 = .ok (.iconst 4, 1) := by decide +kernel
theorem dX6_doRound_59 : decode cX6_doRound 59 = .ok (.invokevirtual 148, 3) := by decide +kernel
theorem dX6_doRound_62 : decode cX6_doRound 62 = .ok (.aload_n 2, 1) := by decide +kernel
theorem dX6_doRound_63 : decode cX6_doRound 63 = .ok (.areturn, 1) := by decide +kernel
set_option maxRecDepth 20000 in
theorem ggX6_doSteps_X1_mark : GoodIn wsX6_doSteps wsX1_mark := goodIn_r _ [14, 15, 16, 17, 117, 118, 119, 120, 121, 122, 123] (by decide +kernel) (by decide +kernel)
set_option maxRecDepth 20000 in
theorem gX6_doSteps_X1_mark : GoodIn wsX6_doSteps (wsV RX6 148 RX1 yX1_mark wsX1_mark) := goodIn_app (goodIn_of _ (by decide +kernel)) ggX6_doSteps_X1_mark
set_option maxRecDepth 20000 in
theorem ggX6_doSteps_X6_doVialStep : GoodIn wsX6_doSteps wsX6_doVialStep := goodIn_r _ [22, 23, 24, 25, 26, 2, 27, 9, 8, 28, 29, 30, 21, 31, 32, 33, 34, 13, 35, 36, 37, 38, 39, 40, 41, 42, 43, 44, 45, 46, 47, 48, 49, 50, 110, 111, 112, 113, 114, 115, 116, 117, 118, 119, 120, 121, 122, 123] (by decide +kernel) (by decide +kernel)
set_option maxRecDepth 20000 in
theorem gX6_doSteps_X6_doVialStep : GoodIn wsX6_doSteps (wsV RX6 190 RX6 yX6_doVialStep wsX6_doVialStep) := goodIn_app (goodIn_of _ (by decide +kernel)) ggX6_doSteps_X6_doVialStep
set_option maxRecDepth 20000 in
theorem ggX6_doSteps_X6_doBenchStep : GoodIn wsX6_doSteps wsX6_doBenchStep := goodIn_r _ [54, 27, 55, 9, 2, 56, 57, 58, 59, 21, 60, 61, 62, 63, 32, 33, 34, 13, 35, 36, 37, 38, 64, 65, 66, 67, 68, 69, 70, 71, 72, 73, 74, 75, 76, 77, 78, 79, 80, 81, 82, 83, 84, 85, 86, 87, 88, 89, 90, 91, 92, 93, 94, 95, 96, 97, 98, 99, 100, 101, 28, 29, 30, 31, 102, 103, 104, 105, 110, 111, 112, 113, 114, 115, 116, 124, 125, 126, 117, 118, 119, 120, 121, 122, 123, 127, 128, 129, 130, 131, 132] (by decide +kernel) (by decide +kernel)
set_option maxRecDepth 20000 in
theorem gX6_doSteps_X6_doBenchStep : GoodIn wsX6_doSteps (wsV RX6 194 RX6 yX6_doBenchStep wsX6_doBenchStep) := goodIn_app (goodIn_of _ (by decide +kernel)) ggX6_doSteps_X6_doBenchStep
theorem dX6_doSteps_0 : decode cX6_doSteps 0 = .ok (.iconst 0, 1) := by decide +kernel
theorem dX6_doSteps_1 : decode cX6_doSteps 1 = .ok (.istore_n 2, 1) := by decide +kernel
theorem dX6_doSteps_2 : decode cX6_doSteps 2 = .ok (.iconst 0, 1) := by decide +kernel
theorem dX6_doSteps_3 : decode cX6_doSteps 3 = .ok (.istore_n 3, 1) := by decide +kernel
theorem dX6_doSteps_4 : decode cX6_doSteps 4 = .ok (.iconst 0, 1) := by decide +kernel
theorem dX6_doSteps_5 : decode cX6_doSteps 5 = .ok (.istore 4, 2) := by decide +kernel
theorem dX6_doSteps_7 : decode cX6_doSteps 7 = .ok (.iload 4, 2) := by decide +kernel
theorem dX6_doSteps_9 : decode cX6_doSteps 9 = .ok (.sipush 200, 3) := by decide +kernel
theorem dX6_doSteps_12 : decode cX6_doSteps 12 = .ok (.if_icmp .gt 139, 3) := by decide +kernel
theorem dX6_doSteps_15 : decode cX6_doSteps 15 = .ok (.iload_n 2, 1) := by decide +kernel
theorem dX6_doSteps_16 : decode cX6_doSteps 16 = .ok (.aload_n 1, 1) := by decide +kernel
theorem dX6_doSteps_17 : decode cX6_doSteps 17 = .ok (.getfield 181, 3) := by decide +kernel
theorem dX6_doSteps_20 : decode cX6_doSteps 20 = .ok (.if_icmp .ge 131, 3) := by decide +kernel
theorem dX6_doSteps_23 : decode cX6_doSteps 23 = .ok (.aload_n 0, 1) := by decide +kernel
theorem dX6_doSteps_24 : decode cX6_doSteps 24 = .ok (.getfield 38, 3) := by decide +kernel
theorem dX6_doSteps_27 : decode cX6_doSteps 27 = .ok (.getfield 131, 3) := by decide +kernel
theorem dX6_doSteps_30 : decode cX6_doSteps 30 = .ok (.iconst 5, 1) := by decide +kernel
theorem dX6_doSteps_31 : decode cX6_doSteps 31 = .ok (.iaload, 1) := by decide +kernel
theorem dX6_doSteps_32 : decode cX6_doSteps 32 = .ok (.sipush 200, 3) := by decide +kernel
theorem dX6_doSteps_35 : decode cX6_doSteps 35 = .ok (.if_icmp .lt 7, 3) := by decide +kernel
theorem dX6_doSteps_38 : decode cX6_doSteps 38 = .ok (.getstatic 116, 3) := by decide +kernel
theorem dX6_doSteps_41 : decode cX6_doSteps 41 = .ok (.areturn, 1) := by decide +kernel
theorem dX6_doSteps_42 : decode cX6_doSteps 42 = .ok (.aload_n 1, 1) := by decide +kernel
theorem dX6_doSteps_43 : decode cX6_doSteps 43 = .ok (.getfield 184, 3) := by decide +kernel
theorem dX6_doSteps_46 : decode cX6_doSteps 46 = .ok (.iload_n 2, 1) := by decide +kernel
theorem dX6_doSteps_47 : decode cX6_doSteps 47 = .ok (.iaload, 1) := by decide +kernel
theorem dX6_doSteps_48 : decode cX6_doSteps 48 = .ok (.istore 5, 2) := by decide +kernel
theorem dX6_doSteps_50 : decode cX6_doSteps 50 = .ok (.aload_n 1, 1) := by decide +kernel
theorem dX6_doSteps_51 : decode cX6_doSteps 51 = .ok (.getfield 187, 3) := by decide +kernel
theorem dX6_doSteps_54 : decode cX6_doSteps 54 = .ok (.iload_n 2, 1) := by decide +kernel
theorem dX6_doSteps_55 : decode cX6_doSteps 55 = .ok (.iaload, 1) := by decide +kernel
theorem dX6_doSteps_56 : decode cX6_doSteps 56 = .ok (.istore 6, 2) := by decide +kernel
theorem dX6_doSteps_58 : decode cX6_doSteps 58 = .ok (.aload_n 0, 1) := by decide +kernel
theorem dX6_doSteps_59 : decode cX6_doSteps 59 = .ok (.getfield 38, 3) := by decide +kernel
theorem dX6_doSteps_62 : decode cX6_doSteps 62 = .ok (.iconst 5, 1) := by decide +kernel
theorem dX6_doSteps_63 : decode cX6_doSteps 63 = .ok (.invokevirtual 148, 3) := by decide +kernel
theorem dX6_doSteps_66 : decode cX6_doSteps 66 = .ok (.iload 5, 2) := by decide +kernel
theorem dX6_doSteps_68 : decode cX6_doSteps 68 = .ok (.bipush 10, 2) := by decide +kernel
theorem dX6_doSteps_70 : decode cX6_doSteps 70 = .ok (.if_icmp .ge 19, 3) := by decide +kernel
theorem dX6_doSteps_73 : decode cX6_doSteps 73 = .ok (.aload_n 0, 1) := by decide +kernel
theorem dX6_doSteps_74 : decode cX6_doSteps 74 = .ok (.iload 5, 2) := by decide +kernel
theorem dX6_doSteps_76 : decode cX6_doSteps 76 = .ok (.iload 6, 2) := by decide +kernel
theorem dX6_doSteps_78 : decode cX6_doSteps 78 = .ok (.aload_n 1, 1) := by decide +kernel
theorem dX6_doSteps_79 : decode cX6_doSteps 79 = .ok (.getfield 171, 3) := by decide +kernel
theorem dX6_doSteps_82 : decode cX6_doSteps 82 = .ok (.iload_n 3, 1) := by decide +kernel
theorem dX6_doSteps_83 : decode cX6_doSteps 83 = .ok (.invokevirtual 190, 3) := by decide +kernel
theorem dX6_doSteps_86 : decode cX6_doSteps 86 = .ok (.goto 15, 3) := by decide +kernel
theorem dX6_doSteps_89 : decode cX6_doSteps 89 = .ok (.aload_n 0, 1) := by decide +kernel
theorem dX6_doSteps_90 : decode cX6_doSteps 90 = .ok (.iload 5, 2) := by decide +kernel
theorem dX6_doSteps_92 : decode cX6_doSteps 92 = .ok (.iload 6, 2) := by decide +kernel
theorem dX6_doSteps_94 : decode cX6_doSteps 94 = .ok (.aload_n 1, 1) := by decide +kernel
theorem dX6_doSteps_95 : decode cX6_doSteps 95 = .ok (.getfield 171, 3) := by decide +kernel
theorem dX6_doSteps_98 : decode cX6_doSteps 98 = .ok (.invokevirtual 194, 3) := by decide +kernel
theorem dX6_doSteps_101 : decode cX6_doSteps 101 = .ok (.astore 7, 2) := by decide +kernel
theorem dX6_doSteps_103 : decode cX6_doSteps 103 = .ok (.aload_n 0, 1) := by decide +kernel
theorem dX6_doSteps_104 : decode cX6_doSteps 104 = .ok (.getfield 38, 3) := by decide +kernel
theorem dX6_doSteps_107 : decode cX6_doSteps 107 = .ok (.bipush 6, 2) := by decide +kernel
theorem dX6_doSteps_109 : decode cX6_doSteps 109 = .ok (.invokevirtual 148, 3) := by decide +kernel
theorem dX6_doSteps_112 : decode cX6_doSteps 112 = .ok (.aload 7, 2) := by decide +kernel
theorem dX6_doSteps_114 : decode cX6_doSteps 114 = .ok (.getstatic 198, 3) := by decide +kernel
theorem dX6_doSteps_117 : decode cX6_doSteps 117 = .ok (.if_acmp .ne 11, 3) := by decide +kernel
theorem dX6_doSteps_120 : decode cX6_doSteps 120 = .ok (.iinc 3 1, 3) := by decide +kernel
theorem dX6_doSteps_123 : decode cX6_doSteps 123 = .ok (.iconst 0, 1) := by decide +kernel
theorem dX6_doSteps_124 : decode cX6_doSteps 124 = .ok (.istore_n 2, 1) := by decide +kernel
theorem dX6_doSteps_125 : decode cX6_doSteps 125 = .ok (.goto 20, 3) := by decide +kernel
theorem dX6_doSteps_128 : decode cX6_doSteps 128 = .ok (.aload 7, 2) := by decide +kernel
theorem dX6_doSteps_130 : decode cX6_doSteps 130 = .ok (.getstatic 145, 3) := by decide +kernel
theorem dX6_doSteps_133 : decode cX6_doSteps 133 = .ok (.if_acmp .ne 9, 3) := by decide +kernel
theorem dX6_doSteps_136 : decode cX6_doSteps 136 = .ok (.iinc 2 1, 3) := by decide +kernel
theorem dX6_doSteps_139 : decode cX6_doSteps 139 = .ok (.goto 6, 3) := by decide +kernel
theorem dX6_doSteps_142 : decode cX6_doSteps 142 = .ok (.aload 7, 2) := by decide +kernel
theorem dX6_doSteps_144 : decode cX6_doSteps 144 = .ok (.areturn, 1) := by decide +kernel
theorem dX6_doSteps_145 : decode cX6_doSteps 145 = .ok (.iinc 4 1, 3) := by decide +kernel
theorem dX6_doSteps_148 : decode cX6_doSteps 148 = .ok (.goto (-141), 3) := by decide +kernel
theorem dX6_doSteps_151 : decode cX6_doSteps 151 = .ok (.getstatic 145, 3) := by decide +kernel
theorem dX6_doSteps_154 : decode cX6_doSteps 154 = .ok (.areturn, 1) := by decide +kernel
set_option maxRecDepth 20000 in
theorem ggX6_doVialStep_X6_addDrops : GoodIn wsX6_doVialStep wsX6_addDrops := goodIn_r _ [13, 6, 5, 7, 14, 15, 16, 17, 18, 19, 20, 21, 34, 35, 36, 37, 38, 39, 40, 41, 42, 43, 44, 45, 46, 47] (by decide +kernel) (by decide +kernel)
set_option maxRecDepth 20000 in
theorem gX6_doVialStep_X6_addDrops : GoodIn wsX6_doVialStep (wsV RX6 201 RX6 yX6_addDrops wsX6_addDrops) := goodIn_app (goodIn_of _ (by decide +kernel)) ggX6_doVialStep_X6_addDrops
set_option maxRecDepth 20000 in
theorem ggX6_doVialStep_X6_drawDrops : GoodIn wsX6_doVialStep wsX6_drawDrops := goodIn_r _ [25, 6, 5, 7, 14, 15, 16, 17, 18, 19, 20, 21, 34, 35, 36, 37, 38, 39, 40, 41, 42, 43, 44, 45, 46, 47] (by decide +kernel) (by decide +kernel)
set_option maxRecDepth 20000 in
theorem gX6_doVialStep_X6_drawDrops : GoodIn wsX6_doVialStep (wsV RX6 204 RX6 yX6_drawDrops wsX6_drawDrops) := goodIn_app (goodIn_of _ (by decide +kernel)) ggX6_doVialStep_X6_drawDrops
set_option maxRecDepth 20000 in
theorem ggX6_doVialStep_X6_shareDrops : GoodIn wsX6_doVialStep wsX6_shareDrops := goodIn_r _ [29, 5, 6, 7, 14, 15, 16, 17, 18, 19, 20, 21, 34, 35, 36, 37, 38, 39, 40, 41, 42, 43, 44, 45, 46, 47] (by decide +kernel) (by decide +kernel)
set_option maxRecDepth 20000 in
theorem gX6_doVialStep_X6_shareDrops : GoodIn wsX6_doVialStep (wsV RX6 207 RX6 yX6_shareDrops wsX6_shareDrops) := goodIn_app (goodIn_of _ (by decide +kernel)) ggX6_doVialStep_X6_shareDrops
set_option maxRecDepth 20000 in
theorem ggX6_doVialStep_X6_pourDrops : GoodIn wsX6_doVialStep wsX6_pourDrops := goodIn_r _ [33, 5, 6, 7, 14, 15, 16, 17, 18, 19, 20, 21, 34, 35, 36, 37, 38, 39, 40, 41, 42, 43, 44, 45, 46, 47] (by decide +kernel) (by decide +kernel)
set_option maxRecDepth 20000 in
theorem gX6_doVialStep_X6_pourDrops : GoodIn wsX6_doVialStep (wsV RX6 210 RX6 yX6_pourDrops wsX6_pourDrops) := goodIn_app (goodIn_of _ (by decide +kernel)) ggX6_doVialStep_X6_pourDrops
set_option maxRecDepth 20000 in
theorem ggX6_doVialStep_X1_fail : GoodIn wsX6_doVialStep wsX1_fail := goodIn_r _ [18, 19, 20, 21, 41, 42, 43, 44, 45, 46, 47] (by decide +kernel) (by decide +kernel)
set_option maxRecDepth 20000 in
theorem gX6_doVialStep_X1_fail : GoodIn wsX6_doVialStep (wsV RX6 174 RX1 yX1_fail wsX1_fail) := goodIn_app (goodIn_of _ (by decide +kernel)) ggX6_doVialStep_X1_fail
theorem dX6_doVialStep_0 : decode cX6_doVialStep 0 = .ok (.iload_n 1, 1) := by decide +kernel
theorem dX6_doVialStep_1 : decode cX6_doVialStep 1 = .ok (.tableswitch 148 0 9 #[55, 62, 69, 76, 83, 87, 91, 100, 112, 132], 55) := by decide +kernel
theorem dX6_doVialStep_56 : decode cX6_doVialStep 56 = .ok (.aload_n 0, 1) := by decide +kernel
theorem dX6_doVialStep_57 : decode cX6_doVialStep 57 = .ok (.iload_n 3, 1) := by decide +kernel
theorem dX6_doVialStep_58 : decode cX6_doVialStep 58 = .ok (.iload_n 2, 1) := by decide +kernel
theorem dX6_doVialStep_59 : decode cX6_doVialStep 59 = .ok (.invokevirtual 201, 3) := by decide +kernel
theorem dX6_doVialStep_62 : decode cX6_doVialStep 62 = .ok (.areturn, 1) := by decide +kernel
theorem dX6_doVialStep_63 : decode cX6_doVialStep 63 = .ok (.aload_n 0, 1) := by decide +kernel
theorem dX6_doVialStep_64 : decode cX6_doVialStep 64 = .ok (.iload_n 3, 1) := by decide +kernel
theorem dX6_doVialStep_65 : decode cX6_doVialStep 65 = .ok (.iload_n 2, 1) := by decide +kernel
theorem dX6_doVialStep_66 : decode cX6_doVialStep 66 = .ok (.invokevirtual 204, 3) := by decide +kernel
theorem dX6_doVialStep_69 : decode cX6_doVialStep 69 = .ok (.areturn, 1) := by decide +kernel
theorem dX6_doVialStep_70 : decode cX6_doVialStep 70 = .ok (.aload_n 0, 1) := by decide +kernel
theorem dX6_doVialStep_71 : decode cX6_doVialStep 71 = .ok (.iload_n 3, 1) := by decide +kernel
theorem dX6_doVialStep_72 : decode cX6_doVialStep 72 = .ok (.iload_n 2, 1) := by decide +kernel
theorem dX6_doVialStep_73 : decode cX6_doVialStep 73 = .ok (.invokevirtual 207, 3) := by decide +kernel
theorem dX6_doVialStep_76 : decode cX6_doVialStep 76 = .ok (.areturn, 1) := by decide +kernel
theorem dX6_doVialStep_77 : decode cX6_doVialStep 77 = .ok (.aload_n 0, 1) := by decide +kernel
theorem dX6_doVialStep_78 : decode cX6_doVialStep 78 = .ok (.iload_n 3, 1) := by decide +kernel
theorem dX6_doVialStep_79 : decode cX6_doVialStep 79 = .ok (.iload_n 2, 1) := by decide +kernel
theorem dX6_doVialStep_80 : decode cX6_doVialStep 80 = .ok (.invokevirtual 210, 3) := by decide +kernel
theorem dX6_doVialStep_83 : decode cX6_doVialStep 83 = .ok (.areturn, 1) := by decide +kernel
theorem dX6_doVialStep_84 : decode cX6_doVialStep 84 = .ok (.getstatic 155, 3) := by decide +kernel
theorem dX6_doVialStep_87 : decode cX6_doVialStep 87 = .ok (.areturn, 1) := by decide +kernel
theorem dX6_doVialStep_88 : decode cX6_doVialStep 88 = .ok (.getstatic 165, 3) := by decide +kernel
theorem dX6_doVialStep_91 : decode cX6_doVialStep 91 = .ok (.areturn, 1) := by decide +kernel
theorem dX6_doVialStep_92 : decode cX6_doVialStep 92 = .ok (.aload_n 0, 1) := by decide +kernel
theorem dX6_doVialStep_93 : decode cX6_doVialStep 93 = .ok (.iload_n 2, 1) := by decide +kernel
theorem dX6_doVialStep_94 : decode cX6_doVialStep 94 = .ok (.putfield 42, 3) := by decide +kernel
theorem dX6_doVialStep_97 : decode cX6_doVialStep 97 = .ok (.getstatic 113, 3) := by decide +kernel
theorem dX6_doVialStep_100 : decode cX6_doVialStep 100 = .ok (.areturn, 1) := by decide +kernel
theorem dX6_doVialStep_101 : decode cX6_doVialStep 101 = .ok (.aload_n 0, 1) := by decide +kernel
theorem dX6_doVialStep_102 : decode cX6_doVialStep 102 = .ok (.getfield 38, 3) := by decide +kernel
theorem dX6_doVialStep_105 : decode cX6_doVialStep 105 = .ok (.bipush 10, 2) := by decide +kernel
theorem dX6_doVialStep_107 : decode cX6_doVialStep 107 = .ok (.iload_n 2, 1) := by decide +kernel
theorem dX6_doVialStep_108 : decode cX6_doVialStep 108 = .ok (.iadd, 1) := by decide +kernel
theorem dX6_doVialStep_109 : decode cX6_doVialStep 109 = .ok (.invokevirtual 174, 3) := by decide +kernel
theorem dX6_doVialStep_112 : decode cX6_doVialStep 112 = .ok (.areturn, 1) := by decide +kernel
theorem dX6_doVialStep_113 : decode cX6_doVialStep 113 = .ok (.aload_n 0, 1) := by decide +kernel
theorem dX6_doVialStep_114 : decode cX6_doVialStep 114 = .ok (.getfield 9, 3) := by decide +kernel
theorem dX6_doVialStep_117 : decode cX6_doVialStep 117 = .ok (.iload_n 3, 1) := by decide +kernel
theorem dX6_doVialStep_118 : decode cX6_doVialStep 118 = .ok (.iaload, 1) := by decide +kernel
theorem dX6_doVialStep_119 : decode cX6_doVialStep 119 = .ok (.iload_n 2, 1) := by decide +kernel
theorem dX6_doVialStep_120 : decode cX6_doVialStep 120 = .ok (.if_icmp .ge 9, 3) := by decide +kernel
theorem dX6_doVialStep_123 : decode cX6_doVialStep 123 = .ok (.getstatic 155, 3) := by decide +kernel
theorem dX6_doVialStep_126 : decode cX6_doVialStep 126 = .ok (.goto 6, 3) := by decide +kernel
theorem dX6_doVialStep_129 : decode cX6_doVialStep 129 = .ok (.getstatic 145, 3) := by decide +kernel
theorem dX6_doVialStep_132 : decode cX6_doVialStep 132 = .ok (.areturn, 1) := by decide +kernel
theorem dX6_doVialStep_133 : decode cX6_doVialStep 133 = .ok (.iload 4, 2) := by decide +kernel
theorem dX6_doVialStep_135 : decode cX6_doVialStep 135 = .ok (.iload_n 2, 1) := by decide +kernel
theorem dX6_doVialStep_136 : decode cX6_doVialStep 136 = .ok (.if_icmp .ge 9, 3) := by decide +kernel
theorem dX6_doVialStep_139 : decode cX6_doVialStep 139 = .ok (.getstatic 198, 3) := by decide +kernel
theorem dX6_doVialStep_142 : decode cX6_doVialStep 142 = .ok (.goto 6, 3) := by decide +kernel
theorem dX6_doVialStep_145 : decode cX6_doVialStep 145 = .ok (.getstatic 145, 3) := by decide +kernel
theorem dX6_doVialStep_148 : decode cX6_doVialStep 148 = .ok (.areturn, 1) := by decide +kernel
theorem dX6_doVialStep_149 : decode cX6_doVialStep 149 = .ok (.getstatic 145, 3) := by decide +kernel
theorem dX6_doVialStep_152 : decode cX6_doVialStep 152 = .ok (.areturn, 1) := by decide +kernel
set_option maxRecDepth 20000 in
theorem ggX6_doBenchStep_X6_useTool : GoodIn wsX6_doBenchStep wsX6_useTool := goodIn_r _ [10, 4, 11, 12, 13, 3, 14, 15, 16, 17, 18, 19, 20, 21, 68, 69, 70, 71, 72, 73, 74, 75, 76, 77, 78, 79, 80, 81, 82, 83, 84] (by decide +kernel) (by decide +kernel)
set_option maxRecDepth 20000 in
theorem gX6_doBenchStep_X6_useTool : GoodIn wsX6_doBenchStep (wsV RX6 213 RX6 yX6_useTool wsX6_useTool) := goodIn_app (goodIn_of _ (by decide +kernel)) ggX6_doBenchStep_X6_useTool
set_option maxRecDepth 20000 in
theorem ggX6_doBenchStep_X6_gripTool : GoodIn wsX6_doBenchStep wsX6_gripTool := goodIn_r _ [25, 4, 11, 12, 26, 3, 14, 15, 16, 17, 18, 19, 20, 21, 68, 69, 70, 71, 72, 73, 74, 75, 76, 77, 78, 79, 80, 81, 82, 83, 84] (by decide +kernel) (by decide +kernel)
set_option maxRecDepth 20000 in
theorem gX6_doBenchStep_X6_gripTool : GoodIn wsX6_doBenchStep (wsV RX6 216 RX6 yX6_gripTool wsX6_gripTool) := goodIn_app (goodIn_of _ (by decide +kernel)) ggX6_doBenchStep_X6_gripTool
set_option maxRecDepth 20000 in
theorem ggX6_doBenchStep_X3_newRack : GoodIn wsX6_doBenchStep wsX3_newRack := goodIn_r _ [31, 32, 85, 86, 87, 88, 89, 90] (by decide +kernel) (by decide +kernel)
set_option maxRecDepth 20000 in
theorem gX6_doBenchStep_X3_newRack : GoodIn wsX6_doBenchStep (wsV RX6 219 RX3 yX3_newRack wsX3_newRack) := goodIn_app (goodIn_of _ (by decide +kernel)) ggX6_doBenchStep_X3_newRack
set_option maxRecDepth 20000 in
theorem ggX6_doBenchStep_X1_fail : GoodIn wsX6_doBenchStep wsX1_fail := goodIn_r _ [18, 19, 20, 21, 78, 79, 80, 81, 82, 83, 84] (by decide +kernel) (by decide +kernel)
set_option maxRecDepth 20000 in
theorem gX6_doBenchStep_X1_fail : GoodIn wsX6_doBenchStep (wsV RX6 174 RX1 yX1_fail wsX1_fail) := goodIn_app (goodIn_of _ (by decide +kernel)) ggX6_doBenchStep_X1_fail
set_option maxRecDepth 20000 in
theorem ggX6_doBenchStep_X3_newBox : GoodIn wsX6_doBenchStep wsX3_newBox := goodIn_r _ [36, 37, 38, 39, 85, 86, 87, 88, 89, 90] (by decide +kernel) (by decide +kernel)
set_option maxRecDepth 20000 in
theorem gX6_doBenchStep_X3_newBox : GoodIn wsX6_doBenchStep (wsV RX6 223 RX3 yX3_newBox wsX3_newBox) := goodIn_app (goodIn_of _ (by decide +kernel)) ggX6_doBenchStep_X3_newBox
set_option maxRecDepth 20000 in
theorem ggX6_doBenchStep_X3_newGrid : GoodIn wsX6_doBenchStep wsX3_newGrid := goodIn_r _ [43, 44, 45, 85, 86, 87, 88, 89, 90] (by decide +kernel) (by decide +kernel)
set_option maxRecDepth 20000 in
theorem gX6_doBenchStep_X3_newGrid : GoodIn wsX6_doBenchStep (wsV RX6 227 RX3 yX3_newGrid wsX3_newGrid) := goodIn_app (goodIn_of _ (by decide +kernel)) ggX6_doBenchStep_X3_newGrid
set_option maxRecDepth 20000 in
theorem ggX6_doBenchStep_X6_putTool : GoodIn wsX6_doBenchStep wsX6_putTool := goodIn_r _ [49, 4, 2, 50, 11, 12, 51, 3, 14, 15, 16, 17, 18, 19, 20, 21, 52, 53, 54, 30, 55, 39, 68, 69, 70, 71, 72, 73, 74, 85, 86, 87, 88, 89, 90, 75, 76, 77, 78, 79, 80, 81, 82, 83, 84] (by decide +kernel) (by decide +kernel)
set_option maxRecDepth 20000 in
theorem gX6_doBenchStep_X6_putTool : GoodIn wsX6_doBenchStep (wsV RX6 230 RX6 yX6_putTool wsX6_putTool) := goodIn_app (goodIn_of _ (by decide +kernel)) ggX6_doBenchStep_X6_putTool
set_option maxRecDepth 20000 in
theorem ggX6_doBenchStep_X3_sizeOf : GoodIn wsX6_doBenchStep wsX3_sizeOf := goodIn_r _ [59, 32, 38, 44, 45, 85, 86, 87, 88, 89, 90] (by decide +kernel) (by decide +kernel)
set_option maxRecDepth 20000 in
theorem gX6_doBenchStep_X3_sizeOf : GoodIn wsX6_doBenchStep (wsV RX6 89 RX3 yX3_sizeOf wsX3_sizeOf) := goodIn_app (goodIn_of _ (by decide +kernel)) ggX6_doBenchStep_X3_sizeOf
set_option maxRecDepth 20000 in
theorem ggX6_doBenchStep_X6_addDrops : GoodIn wsX6_doBenchStep wsX6_addDrops := goodIn_r _ [63, 1, 4, 3, 14, 15, 16, 17, 18, 19, 20, 21, 68, 69, 70, 71, 72, 73, 74, 78, 79, 80, 81, 82, 83, 84] (by decide +kernel) (by decide +kernel)
set_option maxRecDepth 20000 in
theorem gX6_doBenchStep_X6_addDrops : GoodIn wsX6_doBenchStep (wsV RX6 201 RX6 yX6_addDrops wsX6_addDrops) := goodIn_app (goodIn_of _ (by decide +kernel)) ggX6_doBenchStep_X6_addDrops
set_option maxRecDepth 20000 in
theorem ggX6_doBenchStep_X1_failAsLaid : GoodIn wsX6_doBenchStep wsX1_failAsLaid := goodIn_r _ [67, 19, 20, 21, 78, 79, 80, 81, 82, 83, 84] (by decide +kernel) (by decide +kernel)
set_option maxRecDepth 20000 in
theorem gX6_doBenchStep_X1_failAsLaid : GoodIn wsX6_doBenchStep (wsV RX6 233 RX1 yX1_failAsLaid wsX1_failAsLaid) := goodIn_app (goodIn_of _ (by decide +kernel)) ggX6_doBenchStep_X1_failAsLaid
theorem dX6_doBenchStep_0 : decode cX6_doBenchStep 0 = .ok (.iload_n 1, 1) := by decide +kernel
theorem dX6_doBenchStep_1 : decode cX6_doBenchStep 1 = .ok (.tableswitch 252 10 17 #[47, 53, 65, 95, 129, 167, 180, 218], 47) := by decide +kernel
theorem dX6_doBenchStep_48 : decode cX6_doBenchStep 48 = .ok (.aload_n 0, 1) := by decide +kernel
theorem dX6_doBenchStep_49 : decode cX6_doBenchStep 49 = .ok (.iload_n 2, 1) := by decide +kernel
theorem dX6_doBenchStep_50 : decode cX6_doBenchStep 50 = .ok (.invokevirtual 213, 3) := by decide +kernel
theorem dX6_doBenchStep_53 : decode cX6_doBenchStep 53 = .ok (.areturn, 1) := by decide +kernel
theorem dX6_doBenchStep_54 : decode cX6_doBenchStep 54 = .ok (.aload_n 0, 1) := by decide +kernel
theorem dX6_doBenchStep_55 : decode cX6_doBenchStep 55 = .ok (.iload_n 2, 1) := by decide +kernel
theorem dX6_doBenchStep_56 : decode cX6_doBenchStep 56 = .ok (.aload_n 0, 1) := by decide +kernel
theorem dX6_doBenchStep_57 : decode cX6_doBenchStep 57 = .ok (.getfield 9, 3) := by decide +kernel
theorem dX6_doBenchStep_60 : decode cX6_doBenchStep 60 = .ok (.iload_n 3, 1) := by decide +kernel
theorem dX6_doBenchStep_61 : decode cX6_doBenchStep 61 = .ok (.iaload, 1) := by decide +kernel
theorem dX6_doBenchStep_62 : decode cX6_doBenchStep 62 = .ok (.invokevirtual 216, 3) := by decide +kernel
theorem dX6_doBenchStep_65 : decode cX6_doBenchStep 65 = .ok (.areturn, 1) := by decide +kernel
theorem dX6_doBenchStep_66 : decode cX6_doBenchStep 66 = .ok (.aload_n 0, 1) := by decide +kernel
theorem dX6_doBenchStep_67 : decode cX6_doBenchStep 67 = .ok (.getfield 31, 3) := by decide +kernel
theorem dX6_doBenchStep_70 : decode cX6_doBenchStep 70 = .ok (.iload_n 2, 1) := by decide +kernel
theorem dX6_doBenchStep_71 : decode cX6_doBenchStep 71 = .ok (.bipush 10, 2) := by decide +kernel
theorem dX6_doBenchStep_73 : decode cX6_doBenchStep 73 = .ok (.isub, 1) := by decide +kernel
theorem dX6_doBenchStep_74 : decode cX6_doBenchStep 74 = .ok (.invokevirtual 219, 3) := by decide +kernel
theorem dX6_doBenchStep_77 : decode cX6_doBenchStep 77 = .ok (.ifCond .eq 9, 3) := by decide +kernel
theorem dX6_doBenchStep_80 : decode cX6_doBenchStep 80 = .ok (.getstatic 145, 3) := by decide +kernel
theorem dX6_doBenchStep_83 : decode cX6_doBenchStep 83 = .ok (.goto 12, 3) := by decide +kernel
theorem dX6_doBenchStep_86 : decode cX6_doBenchStep 86 = .ok (.aload_n 0, 1) := by decide +kernel
theorem dX6_doBenchStep_87 : decode cX6_doBenchStep 87 = .ok (.getfield 38, 3) := by decide +kernel
theorem dX6_doBenchStep_90 : decode cX6_doBenchStep 90 = .ok (.bipush 6, 2) := by decide +kernel
theorem dX6_doBenchStep_92 : decode cX6_doBenchStep 92 = .ok (.invokevirtual 174, 3) := by decide +kernel
theorem dX6_doBenchStep_95 : decode cX6_doBenchStep 95 = .ok (.areturn, 1) := by decide +kernel
theorem dX6_doBenchStep_96 : decode cX6_doBenchStep 96 = .ok (.aload_n 0, 1) := by decide +kernel
theorem dX6_doBenchStep_97 : decode cX6_doBenchStep 97 = .ok (.getfield 31, 3) := by decide +kernel
theorem dX6_doBenchStep_100 : decode cX6_doBenchStep 100 = .ok (.iload_n 2, 1) := by decide +kernel
theorem dX6_doBenchStep_101 : decode cX6_doBenchStep 101 = .ok (.iconst 3, 1) := by decide +kernel
theorem dX6_doBenchStep_102 : decode cX6_doBenchStep 102 = .ok (.idiv, 1) := by decide +kernel
theorem dX6_doBenchStep_103 : decode cX6_doBenchStep 103 = .ok (.iconst 2, 1) := by decide +kernel
theorem dX6_doBenchStep_104 : decode cX6_doBenchStep 104 = .ok (.isub, 1) := by decide +kernel
theorem dX6_doBenchStep_105 : decode cX6_doBenchStep 105 = .ok (.iload_n 2, 1) := by decide +kernel
theorem dX6_doBenchStep_106 : decode cX6_doBenchStep 106 = .ok (.iconst 3, 1) := by decide +kernel
theorem dX6_doBenchStep_107 : decode cX6_doBenchStep 107 = .ok (.irem, 1) := by decide +kernel
theorem dX6_doBenchStep_108 : decode cX6_doBenchStep 108 = .ok (.invokevirtual 223, 3) := by decide +kernel
theorem dX6_doBenchStep_111 : decode cX6_doBenchStep 111 = .ok (.ifCond .eq 9, 3) := by decide +kernel
theorem dX6_doBenchStep_114 : decode cX6_doBenchStep 114 = .ok (.getstatic 145, 3) := by decide +kernel
theorem dX6_doBenchStep_117 : decode cX6_doBenchStep 117 = .ok (.goto 12, 3) := by decide +kernel
theorem dX6_doBenchStep_120 : decode cX6_doBenchStep 120 = .ok (.aload_n 0, 1) := by decide +kernel
theorem dX6_doBenchStep_121 : decode cX6_doBenchStep 121 = .ok (.getfield 38, 3) := by decide +kernel
theorem dX6_doBenchStep_124 : decode cX6_doBenchStep 124 = .ok (.bipush 6, 2) := by decide +kernel
theorem dX6_doBenchStep_126 : decode cX6_doBenchStep 126 = .ok (.invokevirtual 174, 3) := by decide +kernel
theorem dX6_doBenchStep_129 : decode cX6_doBenchStep 129 = .ok (.areturn, 1) := by decide +kernel
theorem dX6_doBenchStep_130 : decode cX6_doBenchStep 130 = .ok (.aload_n 0, 1) := by decide +kernel
theorem dX6_doBenchStep_131 : decode cX6_doBenchStep 131 = .ok (.getfield 31, 3) := by decide +kernel
theorem dX6_doBenchStep_134 : decode cX6_doBenchStep 134 = .ok (.iload_n 2, 1) := by decide +kernel
theorem dX6_doBenchStep_135 : decode cX6_doBenchStep 135 = .ok (.bipush 6, 2) := by decide +kernel
theorem dX6_doBenchStep_137 : decode cX6_doBenchStep 137 = .ok (.idiv, 1) := by decide +kernel
theorem dX6_doBenchStep_138 : decode cX6_doBenchStep 138 = .ok (.iconst 1, 1) := by decide +kernel
theorem dX6_doBenchStep_139 : decode cX6_doBenchStep 139 = .ok (.isub, 1) := by decide +kernel
theorem dX6_doBenchStep_140 : decode cX6_doBenchStep 140 = .ok (.iload_n 2, 1) := by decide +kernel
theorem dX6_doBenchStep_141 : decode cX6_doBenchStep 141 = .ok (.bipush 6, 2) := by decide +kernel
theorem dX6_doBenchStep_143 : decode cX6_doBenchStep 143 = .ok (.irem, 1) := by decide +kernel
theorem dX6_doBenchStep_144 : decode cX6_doBenchStep 144 = .ok (.iconst 1, 1) := by decide +kernel
theorem dX6_doBenchStep_145 : decode cX6_doBenchStep 145 = .ok (.isub, 1) := by decide +kernel
theorem dX6_doBenchStep_146 : decode cX6_doBenchStep 146 = .ok (.invokevirtual 227, 3) := by decide +kernel
theorem dX6_doBenchStep_149 : decode cX6_doBenchStep 149 = .ok (.ifCond .eq 9, 3) := by decide +kernel
theorem dX6_doBenchStep_152 : decode cX6_doBenchStep 152 = .ok (.getstatic 145, 3) := by decide +kernel
theorem dX6_doBenchStep_155 : decode cX6_doBenchStep 155 = .ok (.goto 12, 3) := by decide +kernel
theorem dX6_doBenchStep_158 : decode cX6_doBenchStep 158 = .ok (.aload_n 0, 1) := by decide +kernel
theorem dX6_doBenchStep_159 : decode cX6_doBenchStep 159 = .ok (.getfield 38, 3) := by decide +kernel
theorem dX6_doBenchStep_162 : decode cX6_doBenchStep 162 = .ok (.bipush 6, 2) := by decide +kernel
theorem dX6_doBenchStep_164 : decode cX6_doBenchStep 164 = .ok (.invokevirtual 174, 3) := by decide +kernel
theorem dX6_doBenchStep_167 : decode cX6_doBenchStep 167 = .ok (.areturn, 1) := by decide +kernel
theorem dX6_doBenchStep_168 : decode cX6_doBenchStep 168 = .ok (.aload_n 0, 1) := by decide +kernel
theorem dX6_doBenchStep_169 : decode cX6_doBenchStep 169 = .ok (.iload_n 2, 1) := by decide +kernel
theorem dX6_doBenchStep_170 : decode cX6_doBenchStep 170 = .ok (.bipush 10, 2) := by decide +kernel
theorem dX6_doBenchStep_172 : decode cX6_doBenchStep 172 = .ok (.irem, 1) := by decide +kernel
theorem dX6_doBenchStep_173 : decode cX6_doBenchStep 173 = .ok (.iload_n 2, 1) := by decide +kernel
theorem dX6_doBenchStep_174 : decode cX6_doBenchStep 174 = .ok (.bipush 10, 2) := by decide +kernel
theorem dX6_doBenchStep_176 : decode cX6_doBenchStep 176 = .ok (.idiv, 1) := by decide +kernel
theorem dX6_doBenchStep_177 : decode cX6_doBenchStep 177 = .ok (.invokevirtual 230, 3) := by decide +kernel
theorem dX6_doBenchStep_180 : decode cX6_doBenchStep 180 = .ok (.areturn, 1) := by decide +kernel
theorem dX6_doBenchStep_181 : decode cX6_doBenchStep 181 = .ok (.aload_n 0, 1) := by decide +kernel
theorem dX6_doBenchStep_182 : decode cX6_doBenchStep 182 = .ok (.getfield 31, 3) := by decide +kernel
theorem dX6_doBenchStep_185 : decode cX6_doBenchStep 185 = .ok (.iload_n 2, 1) := by decide +kernel
theorem dX6_doBenchStep_186 : decode cX6_doBenchStep 186 = .ok (.invokevirtual 89, 3) := by decide +kernel
theorem dX6_doBenchStep_189 : decode cX6_doBenchStep 189 = .ok (.bipush (-4), 2) := by decide +kernel
theorem dX6_doBenchStep_191 : decode cX6_doBenchStep 191 = .ok (.if_icmp .ne 14, 3) := by decide +kernel
theorem dX6_doBenchStep_194 : decode cX6_doBenchStep 194 = .ok (.aload_n 0, 1) := by decide +kernel
theorem dX6_doBenchStep_195 : decode cX6_doBenchStep 195 = .ok (.getfield 38, 3) := by decide +kernel
theorem dX6_doBenchStep_198 : decode cX6_doBenchStep 198 = .ok (.iconst 5, 1) := by decide +kernel
theorem dX6_doBenchStep_199 : decode cX6_doBenchStep 199 = .ok (.invokevirtual 174, 3) := by decide +kernel
theorem dX6_doBenchStep_202 : decode cX6_doBenchStep 202 = .ok (.goto 16, 3) := by decide +kernel
theorem dX6_doBenchStep_205 : decode cX6_doBenchStep 205 = .ok (.aload_n 0, 1) := by decide +kernel
theorem dX6_doBenchStep_206 : decode cX6_doBenchStep 206 = .ok (.iload_n 3, 1) := by decide +kernel
theorem dX6_doBenchStep_207 : decode cX6_doBenchStep 207 = .ok (.aload_n 0, 1) := by decide +kernel
theorem dX6_doBenchStep_208 : decode cX6_doBenchStep 208 = .ok (.getfield 31, 3) := by decide +kernel
theorem dX6_doBenchStep_211 : decode cX6_doBenchStep 211 = .ok (.iload_n 2, 1) := by decide +kernel
theorem dX6_doBenchStep_212 : decode cX6_doBenchStep 212 = .ok (.invokevirtual 89, 3) := by decide +kernel
theorem dX6_doBenchStep_215 : decode cX6_doBenchStep 215 = .ok (.invokevirtual 201, 3) := by decide +kernel
theorem dX6_doBenchStep_218 : decode cX6_doBenchStep 218 = .ok (.areturn, 1) := by decide +kernel
theorem dX6_doBenchStep_219 : decode cX6_doBenchStep 219 = .ok (.aload_n 0, 1) := by decide +kernel
theorem dX6_doBenchStep_220 : decode cX6_doBenchStep 220 = .ok (.getfield 25, 3) := by decide +kernel
theorem dX6_doBenchStep_223 : decode cX6_doBenchStep 223 = .ok (.iload_n 2, 1) := by decide +kernel
theorem dX6_doBenchStep_224 : decode cX6_doBenchStep 224 = .ok (.iaload, 1) := by decide +kernel
theorem dX6_doBenchStep_225 : decode cX6_doBenchStep 225 = .ok (.ifCond .ne 14, 3) := by decide +kernel
theorem dX6_doBenchStep_228 : decode cX6_doBenchStep 228 = .ok (.aload_n 0, 1) := by decide +kernel
theorem dX6_doBenchStep_229 : decode cX6_doBenchStep 229 = .ok (.getfield 38, 3) := by decide +kernel
theorem dX6_doBenchStep_232 : decode cX6_doBenchStep 232 = .ok (.iconst 5, 1) := by decide +kernel
theorem dX6_doBenchStep_233 : decode cX6_doBenchStep 233 = .ok (.invokevirtual 174, 3) := by decide +kernel
theorem dX6_doBenchStep_236 : decode cX6_doBenchStep 236 = .ok (.goto 16, 3) := by decide +kernel
theorem dX6_doBenchStep_239 : decode cX6_doBenchStep 239 = .ok (.aload_n 0, 1) := by decide +kernel
theorem dX6_doBenchStep_240 : decode cX6_doBenchStep 240 = .ok (.getfield 38, 3) := by decide +kernel
theorem dX6_doBenchStep_243 : decode cX6_doBenchStep 243 = .ok (.aload_n 0, 1) := by decide +kernel
theorem dX6_doBenchStep_244 : decode cX6_doBenchStep 244 = .ok (.getfield 25, 3) := by decide +kernel
theorem dX6_doBenchStep_247 : decode cX6_doBenchStep 247 = .ok (.iload_n 2, 1) := by decide +kernel
theorem dX6_doBenchStep_248 : decode cX6_doBenchStep 248 = .ok (.iaload, 1) := by decide +kernel
theorem dX6_doBenchStep_249 : decode cX6_doBenchStep 249 = .ok (.invokevirtual 233, 3) := by decide +kernel
theorem dX6_doBenchStep_252 : decode cX6_doBenchStep 252 = .ok (.areturn, 1) := by decide +kernel
theorem dX6_doBenchStep_253 : decode cX6_doBenchStep 253 = .ok (.getstatic 145, 3) := by decide +kernel
theorem dX6_doBenchStep_256 : decode cX6_doBenchStep 256 = .ok (.areturn, 1) := by decide +kernel
set_option maxRecDepth 20000 in
theorem ggX6_addDrops_X1_fail : GoodIn wsX6_addDrops wsX1_fail := goodIn_r _ [8, 9, 10, 11, 19, 20, 21, 22, 23, 24, 25] (by decide +kernel) (by decide +kernel)
set_option maxRecDepth 20000 in
theorem gX6_addDrops_X1_fail : GoodIn wsX6_addDrops (wsV RX6 174 RX1 yX1_fail wsX1_fail) := goodIn_app (goodIn_of _ (by decide +kernel)) ggX6_addDrops_X1_fail
theorem dX6_addDrops_0 : decode cX6_addDrops 0 = .ok (.aload_n 0, 1) := by decide +kernel
theorem dX6_addDrops_1 : decode cX6_addDrops 1 = .ok (.getfield 9, 3) := by decide +kernel
theorem dX6_addDrops_4 : decode cX6_addDrops 4 = .ok (.iload_n 1, 1) := by decide +kernel
theorem dX6_addDrops_5 : decode cX6_addDrops 5 = .ok (.iaload, 1) := by decide +kernel
theorem dX6_addDrops_6 : decode cX6_addDrops 6 = .ok (.iload_n 2, 1) := by decide +kernel
theorem dX6_addDrops_7 : decode cX6_addDrops 7 = .ok (.iadd, 1) := by decide +kernel
theorem dX6_addDrops_8 : decode cX6_addDrops 8 = .ok (.sipush 1000, 3) := by decide +kernel
theorem dX6_addDrops_11 : decode cX6_addDrops 11 = .ok (.if_icmp .le 12, 3) := by decide +kernel
theorem dX6_addDrops_14 : decode cX6_addDrops 14 = .ok (.aload_n 0, 1) := by decide +kernel
theorem dX6_addDrops_15 : decode cX6_addDrops 15 = .ok (.getfield 38, 3) := by decide +kernel
theorem dX6_addDrops_18 : decode cX6_addDrops 18 = .ok (.iconst 1, 1) := by decide +kernel
theorem dX6_addDrops_19 : decode cX6_addDrops 19 = .ok (.invokevirtual 174, 3) := by decide +kernel
theorem dX6_addDrops_22 : decode cX6_addDrops 22 = .ok (.areturn, 1) := by decide +kernel
theorem dX6_addDrops_23 : decode cX6_addDrops 23 = .ok (.aload_n 0, 1) := by decide +kernel
theorem dX6_addDrops_24 : decode cX6_addDrops 24 = .ok (.getfield 9, 3) := by decide +kernel
theorem dX6_addDrops_27 : decode cX6_addDrops 27 = .ok (.iload_n 1, 1) := by decide +kernel
theorem dX6_addDrops_28 : decode cX6_addDrops 28 = .ok (.dup2, 1) := by decide +kernel
theorem dX6_addDrops_29 : decode cX6_addDrops 29 = .ok (.iaload, 1) := by decide +kernel
theorem dX6_addDrops_30 : decode cX6_addDrops 30 = .ok (.iload_n 2, 1) := by decide +kernel
theorem dX6_addDrops_31 : decode cX6_addDrops 31 = .ok (.iadd, 1) := by decide +kernel
theorem dX6_addDrops_32 : decode cX6_addDrops 32 = .ok (.iastore, 1) := by decide +kernel
theorem dX6_addDrops_33 : decode cX6_addDrops 33 = .ok (.getstatic 145, 3) := by decide +kernel
theorem dX6_addDrops_36 : decode cX6_addDrops 36 = .ok (.areturn, 1) := by decide +kernel
set_option maxRecDepth 20000 in
theorem ggX6_drawDrops_X1_fail : GoodIn wsX6_drawDrops wsX1_fail := goodIn_r _ [8, 9, 10, 11, 19, 20, 21, 22, 23, 24, 25] (by decide +kernel) (by decide +kernel)
set_option maxRecDepth 20000 in
theorem gX6_drawDrops_X1_fail : GoodIn wsX6_drawDrops (wsV RX6 174 RX1 yX1_fail wsX1_fail) := goodIn_app (goodIn_of _ (by decide +kernel)) ggX6_drawDrops_X1_fail
theorem dX6_drawDrops_0 : decode cX6_drawDrops 0 = .ok (.aload_n 0, 1) := by decide +kernel
theorem dX6_drawDrops_1 : decode cX6_drawDrops 1 = .ok (.getfield 9, 3) := by decide +kernel
theorem dX6_drawDrops_4 : decode cX6_drawDrops 4 = .ok (.iload_n 1, 1) := by decide +kernel
theorem dX6_drawDrops_5 : decode cX6_drawDrops 5 = .ok (.iaload, 1) := by decide +kernel
theorem dX6_drawDrops_6 : decode cX6_drawDrops 6 = .ok (.iload_n 2, 1) := by decide +kernel
theorem dX6_drawDrops_7 : decode cX6_drawDrops 7 = .ok (.if_icmp .ge 12, 3) := by decide +kernel
theorem dX6_drawDrops_10 : decode cX6_drawDrops 10 = .ok (.aload_n 0, 1) := by decide +kernel
theorem dX6_drawDrops_11 : decode cX6_drawDrops 11 = .ok (.getfield 38, 3) := by decide +kernel
theorem dX6_drawDrops_14 : decode cX6_drawDrops 14 = .ok (.iconst 2, 1) := by decide +kernel
theorem dX6_drawDrops_15 : decode cX6_drawDrops 15 = .ok (.invokevirtual 174, 3) := by decide +kernel
theorem dX6_drawDrops_18 : decode cX6_drawDrops 18 = .ok (.areturn, 1) := by decide +kernel
theorem dX6_drawDrops_19 : decode cX6_drawDrops 19 = .ok (.aload_n 0, 1) := by decide +kernel
theorem dX6_drawDrops_20 : decode cX6_drawDrops 20 = .ok (.getfield 9, 3) := by decide +kernel
theorem dX6_drawDrops_23 : decode cX6_drawDrops 23 = .ok (.iload_n 1, 1) := by decide +kernel
theorem dX6_drawDrops_24 : decode cX6_drawDrops 24 = .ok (.dup2, 1) := by decide +kernel
theorem dX6_drawDrops_25 : decode cX6_drawDrops 25 = .ok (.iaload, 1) := by decide +kernel
theorem dX6_drawDrops_26 : decode cX6_drawDrops 26 = .ok (.iload_n 2, 1) := by decide +kernel
theorem dX6_drawDrops_27 : decode cX6_drawDrops 27 = .ok (.isub, 1) := by decide +kernel
theorem dX6_drawDrops_28 : decode cX6_drawDrops 28 = .ok (.iastore, 1) := by decide +kernel
theorem dX6_drawDrops_29 : decode cX6_drawDrops 29 = .ok (.getstatic 145, 3) := by decide +kernel
theorem dX6_drawDrops_32 : decode cX6_drawDrops 32 = .ok (.areturn, 1) := by decide +kernel
set_option maxRecDepth 20000 in
theorem ggX6_shareDrops_X1_fail : GoodIn wsX6_shareDrops wsX1_fail := goodIn_r _ [8, 9, 10, 11, 19, 20, 21, 22, 23, 24, 25] (by decide +kernel) (by decide +kernel)
set_option maxRecDepth 20000 in
theorem gX6_shareDrops_X1_fail : GoodIn wsX6_shareDrops (wsV RX6 174 RX1 yX1_fail wsX1_fail) := goodIn_app (goodIn_of _ (by decide +kernel)) ggX6_shareDrops_X1_fail
theorem dX6_shareDrops_0 : decode cX6_shareDrops 0 = .ok (.iload_n 2, 1) := by decide +kernel
theorem dX6_shareDrops_1 : decode cX6_shareDrops 1 = .ok (.ifCond .ne 12, 3) := by decide +kernel
theorem dX6_shareDrops_4 : decode cX6_shareDrops 4 = .ok (.aload_n 0, 1) := by decide +kernel
theorem dX6_shareDrops_5 : decode cX6_shareDrops 5 = .ok (.getfield 38, 3) := by decide +kernel
theorem dX6_shareDrops_8 : decode cX6_shareDrops 8 = .ok (.iconst 3, 1) := by decide +kernel
theorem dX6_shareDrops_9 : decode cX6_shareDrops 9 = .ok (.invokevirtual 174, 3) := by decide +kernel
theorem dX6_shareDrops_12 : decode cX6_shareDrops 12 = .ok (.areturn, 1) := by decide +kernel
theorem dX6_shareDrops_13 : decode cX6_shareDrops 13 = .ok (.aload_n 0, 1) := by decide +kernel
theorem dX6_shareDrops_14 : decode cX6_shareDrops 14 = .ok (.getfield 9, 3) := by decide +kernel
theorem dX6_shareDrops_17 : decode cX6_shareDrops 17 = .ok (.iload_n 1, 1) := by decide +kernel
theorem dX6_shareDrops_18 : decode cX6_shareDrops 18 = .ok (.dup2, 1) := by decide +kernel
theorem dX6_shareDrops_19 : decode cX6_shareDrops 19 = .ok (.iaload, 1) := by decide +kernel
theorem dX6_shareDrops_20 : decode cX6_shareDrops 20 = .ok (.iload_n 2, 1) := by decide +kernel
theorem dX6_shareDrops_21 : decode cX6_shareDrops 21 = .ok (.idiv, 1) := by decide +kernel
theorem dX6_shareDrops_22 : decode cX6_shareDrops 22 = .ok (.iastore, 1) := by decide +kernel
theorem dX6_shareDrops_23 : decode cX6_shareDrops 23 = .ok (.getstatic 145, 3) := by decide +kernel
theorem dX6_shareDrops_26 : decode cX6_shareDrops 26 = .ok (.areturn, 1) := by decide +kernel
set_option maxRecDepth 20000 in
theorem ggX6_pourDrops_X1_fail : GoodIn wsX6_pourDrops wsX1_fail := goodIn_r _ [8, 9, 10, 11, 19, 20, 21, 22, 23, 24, 25] (by decide +kernel) (by decide +kernel)
set_option maxRecDepth 20000 in
theorem gX6_pourDrops_X1_fail : GoodIn wsX6_pourDrops (wsV RX6 174 RX1 yX1_fail wsX1_fail) := goodIn_app (goodIn_of _ (by decide +kernel)) ggX6_pourDrops_X1_fail
theorem dX6_pourDrops_0 : decode cX6_pourDrops 0 = .ok (.iload_n 2, 1) := by decide +kernel
theorem dX6_pourDrops_1 : decode cX6_pourDrops 1 = .ok (.bipush 8, 2) := by decide +kernel
theorem dX6_pourDrops_3 : decode cX6_pourDrops 3 = .ok (.if_icmp .lt 12, 3) := by decide +kernel
theorem dX6_pourDrops_6 : decode cX6_pourDrops 6 = .ok (.aload_n 0, 1) := by decide +kernel
theorem dX6_pourDrops_7 : decode cX6_pourDrops 7 = .ok (.getfield 38, 3) := by decide +kernel
theorem dX6_pourDrops_10 : decode cX6_pourDrops 10 = .ok (.iconst 4, 1) := by decide +kernel
theorem dX6_pourDrops_11 : decode cX6_pourDrops 11 = .ok (.invokevirtual 174, 3) := by decide +kernel
theorem dX6_pourDrops_14 : decode cX6_pourDrops 14 = .ok (.areturn, 1) := by decide +kernel
theorem dX6_pourDrops_15 : decode cX6_pourDrops 15 = .ok (.aload_n 0, 1) := by decide +kernel
theorem dX6_pourDrops_16 : decode cX6_pourDrops 16 = .ok (.getfield 9, 3) := by decide +kernel
theorem dX6_pourDrops_19 : decode cX6_pourDrops 19 = .ok (.iload_n 2, 1) := by decide +kernel
theorem dX6_pourDrops_20 : decode cX6_pourDrops 20 = .ok (.iaload, 1) := by decide +kernel
theorem dX6_pourDrops_21 : decode cX6_pourDrops 21 = .ok (.iconst (-1), 1) := by decide +kernel
theorem dX6_pourDrops_22 : decode cX6_pourDrops 22 = .ok (.if_icmp .ne 12, 3) := by decide +kernel
theorem dX6_pourDrops_25 : decode cX6_pourDrops 25 = .ok (.aload_n 0, 1) := by decide +kernel
theorem dX6_pourDrops_26 : decode cX6_pourDrops 26 = .ok (.getfield 38, 3) := by decide +kernel
theorem dX6_pourDrops_29 : decode cX6_pourDrops 29 = .ok (.iconst 5, 1) := by decide +kernel
theorem dX6_pourDrops_30 : decode cX6_pourDrops 30 = .ok (.invokevirtual 174, 3) := by decide +kernel
theorem dX6_pourDrops_33 : decode cX6_pourDrops 33 = .ok (.areturn, 1) := by decide +kernel
theorem dX6_pourDrops_34 : decode cX6_pourDrops 34 = .ok (.iload_n 2, 1) := by decide +kernel
theorem dX6_pourDrops_35 : decode cX6_pourDrops 35 = .ok (.iload_n 1, 1) := by decide +kernel
theorem dX6_pourDrops_36 : decode cX6_pourDrops 36 = .ok (.if_icmp .ne 7, 3) := by decide +kernel
theorem dX6_pourDrops_39 : decode cX6_pourDrops 39 = .ok (.getstatic 145, 3) := by decide +kernel
theorem dX6_pourDrops_42 : decode cX6_pourDrops 42 = .ok (.areturn, 1) := by decide +kernel
theorem dX6_pourDrops_43 : decode cX6_pourDrops 43 = .ok (.aload_n 0, 1) := by decide +kernel
theorem dX6_pourDrops_44 : decode cX6_pourDrops 44 = .ok (.getfield 9, 3) := by decide +kernel
theorem dX6_pourDrops_47 : decode cX6_pourDrops 47 = .ok (.iload_n 2, 1) := by decide +kernel
theorem dX6_pourDrops_48 : decode cX6_pourDrops 48 = .ok (.iaload, 1) := by decide +kernel
theorem dX6_pourDrops_49 : decode cX6_pourDrops 49 = .ok (.aload_n 0, 1) := by decide +kernel
theorem dX6_pourDrops_50 : decode cX6_pourDrops 50 = .ok (.getfield 9, 3) := by decide +kernel
theorem dX6_pourDrops_53 : decode cX6_pourDrops 53 = .ok (.iload_n 1, 1) := by decide +kernel
theorem dX6_pourDrops_54 : decode cX6_pourDrops 54 = .ok (.iaload, 1) := by decide +kernel
theorem dX6_pourDrops_55 : decode cX6_pourDrops 55 = .ok (.iadd, 1) := by decide +kernel
theorem dX6_pourDrops_56 : decode cX6_pourDrops 56 = .ok (.sipush 1000, 3) := by decide +kernel
theorem dX6_pourDrops_59 : decode cX6_pourDrops 59 = .ok (.if_icmp .le 12, 3) := by decide +kernel
theorem dX6_pourDrops_62 : decode cX6_pourDrops 62 = .ok (.aload_n 0, 1) := by decide +kernel
theorem dX6_pourDrops_63 : decode cX6_pourDrops 63 = .ok (.getfield 38, 3) := by decide +kernel
theorem dX6_pourDrops_66 : decode cX6_pourDrops 66 = .ok (.iconst 1, 1) := by decide +kernel
theorem dX6_pourDrops_67 : decode cX6_pourDrops 67 = .ok (.invokevirtual 174, 3) := by decide +kernel
theorem dX6_pourDrops_70 : decode cX6_pourDrops 70 = .ok (.areturn, 1) := by decide +kernel
theorem dX6_pourDrops_71 : decode cX6_pourDrops 71 = .ok (.aload_n 0, 1) := by decide +kernel
theorem dX6_pourDrops_72 : decode cX6_pourDrops 72 = .ok (.getfield 9, 3) := by decide +kernel
theorem dX6_pourDrops_75 : decode cX6_pourDrops 75 = .ok (.iload_n 2, 1) := by decide +kernel
theorem dX6_pourDrops_76 : decode cX6_pourDrops 76 = .ok (.dup2, 1) := by decide +kernel
theorem dX6_pourDrops_77 : decode cX6_pourDrops 77 = .ok (.iaload, 1) := by decide +kernel
theorem dX6_pourDrops_78 : decode cX6_pourDrops 78 = .ok (.aload_n 0, 1) := by decide +kernel
theorem dX6_pourDrops_79 : decode cX6_pourDrops 79 = .ok (.getfield 9, 3) := by decide +kernel
theorem dX6_pourDrops_82 : decode cX6_pourDrops 82 = .ok (.iload_n 1, 1) := by decide +kernel
theorem dX6_pourDrops_83 : decode cX6_pourDrops 83 = .ok (.iaload, 1) := by decide +kernel
theorem dX6_pourDrops_84 : decode cX6_pourDrops 84 = .ok (.iadd, 1) := by decide +kernel
theorem dX6_pourDrops_85 : decode cX6_pourDrops 85 = .ok (.iastore, 1) := by decide +kernel
theorem dX6_pourDrops_86 : decode cX6_pourDrops 86 = .ok (.aload_n 0, 1) := by decide +kernel
theorem dX6_pourDrops_87 : decode cX6_pourDrops 87 = .ok (.getfield 9, 3) := by decide +kernel
theorem dX6_pourDrops_90 : decode cX6_pourDrops 90 = .ok (.iload_n 1, 1) := by decide +kernel
theorem dX6_pourDrops_91 : decode cX6_pourDrops 91 = .ok (.iconst 0, 1) := by decide +kernel
theorem dX6_pourDrops_92 : decode cX6_pourDrops 92 = .ok (.iastore, 1) := by decide +kernel
theorem dX6_pourDrops_93 : decode cX6_pourDrops 93 = .ok (.getstatic 145, 3) := by decide +kernel
theorem dX6_pourDrops_96 : decode cX6_pourDrops 96 = .ok (.areturn, 1) := by decide +kernel
set_option maxRecDepth 20000 in
theorem ggX6_useTool_X1_fail : GoodIn wsX6_useTool wsX1_fail := goodIn_r _ [10, 11, 12, 13, 24, 25, 26, 27, 28, 29, 30] (by decide +kernel) (by decide +kernel)
set_option maxRecDepth 20000 in
theorem gX6_useTool_X1_fail : GoodIn wsX6_useTool (wsV RX6 174 RX1 yX1_fail wsX1_fail) := goodIn_app (goodIn_of _ (by decide +kernel)) ggX6_useTool_X1_fail
theorem dX6_useTool_0 : decode cX6_useTool 0 = .ok (.iload_n 1, 1) := by decide +kernel
theorem dX6_useTool_1 : decode cX6_useTool 1 = .ok (.bipush 6, 2) := by decide +kernel
theorem dX6_useTool_3 : decode cX6_useTool 3 = .ok (.if_icmp .lt 12, 3) := by decide +kernel
theorem dX6_useTool_6 : decode cX6_useTool 6 = .ok (.aload_n 0, 1) := by decide +kernel
theorem dX6_useTool_7 : decode cX6_useTool 7 = .ok (.getfield 38, 3) := by decide +kernel
theorem dX6_useTool_10 : decode cX6_useTool 10 = .ok (.iconst 4, 1) := by decide +kernel
theorem dX6_useTool_11 : decode cX6_useTool 11 = .ok (.invokevirtual 174, 3) := by decide +kernel
theorem dX6_useTool_14 : decode cX6_useTool 14 = .ok (.areturn, 1) := by decide +kernel
theorem dX6_useTool_15 : decode cX6_useTool 15 = .ok (.aload_n 0, 1) := by decide +kernel
theorem dX6_useTool_16 : decode cX6_useTool 16 = .ok (.getfield 21, 3) := by decide +kernel
theorem dX6_useTool_19 : decode cX6_useTool 19 = .ok (.iload_n 1, 1) := by decide +kernel
theorem dX6_useTool_20 : decode cX6_useTool 20 = .ok (.aaload, 1) := by decide +kernel
theorem dX6_useTool_21 : decode cX6_useTool 21 = .ok (.getfield 79, 3) := by decide +kernel
theorem dX6_useTool_24 : decode cX6_useTool 24 = .ok (.iconst (-1), 1) := by decide +kernel
theorem dX6_useTool_25 : decode cX6_useTool 25 = .ok (.if_icmp .ne 12, 3) := by decide +kernel
theorem dX6_useTool_28 : decode cX6_useTool 28 = .ok (.aload_n 0, 1) := by decide +kernel
theorem dX6_useTool_29 : decode cX6_useTool 29 = .ok (.getfield 38, 3) := by decide +kernel
theorem dX6_useTool_32 : decode cX6_useTool 32 = .ok (.iconst 5, 1) := by decide +kernel
theorem dX6_useTool_33 : decode cX6_useTool 33 = .ok (.invokevirtual 174, 3) := by decide +kernel
theorem dX6_useTool_36 : decode cX6_useTool 36 = .ok (.areturn, 1) := by decide +kernel
theorem dX6_useTool_37 : decode cX6_useTool 37 = .ok (.aload_n 0, 1) := by decide +kernel
theorem dX6_useTool_38 : decode cX6_useTool 38 = .ok (.getfield 21, 3) := by decide +kernel
theorem dX6_useTool_41 : decode cX6_useTool 41 = .ok (.iload_n 1, 1) := by decide +kernel
theorem dX6_useTool_42 : decode cX6_useTool 42 = .ok (.aaload, 1) := by decide +kernel
theorem dX6_useTool_43 : decode cX6_useTool 43 = .ok (.dup, 1) := by decide +kernel
theorem dX6_useTool_44 : decode cX6_useTool 44 = .ok (.getfield 86, 3) := by decide +kernel
theorem dX6_useTool_47 : decode cX6_useTool 47 = .ok (.iconst 1, 1) := by decide +kernel
theorem dX6_useTool_48 : decode cX6_useTool 48 = .ok (.iadd, 1) := by decide +kernel
theorem dX6_useTool_49 : decode cX6_useTool 49 = .ok (.putfield 86, 3) := by decide +kernel
theorem dX6_useTool_52 : decode cX6_useTool 52 = .ok (.getstatic 145, 3) := by decide +kernel
theorem dX6_useTool_55 : decode cX6_useTool 55 = .ok (.areturn, 1) := by decide +kernel
set_option maxRecDepth 20000 in
theorem ggX6_gripTool_X1_fail : GoodIn wsX6_gripTool wsX1_fail := goodIn_r _ [10, 11, 12, 13, 24, 25, 26, 27, 28, 29, 30] (by decide +kernel) (by decide +kernel)
set_option maxRecDepth 20000 in
theorem gX6_gripTool_X1_fail : GoodIn wsX6_gripTool (wsV RX6 174 RX1 yX1_fail wsX1_fail) := goodIn_app (goodIn_of _ (by decide +kernel)) ggX6_gripTool_X1_fail
theorem dX6_gripTool_0 : decode cX6_gripTool 0 = .ok (.iload_n 1, 1) := by decide +kernel
theorem dX6_gripTool_1 : decode cX6_gripTool 1 = .ok (.bipush 6, 2) := by decide +kernel
theorem dX6_gripTool_3 : decode cX6_gripTool 3 = .ok (.if_icmp .lt 12, 3) := by decide +kernel
theorem dX6_gripTool_6 : decode cX6_gripTool 6 = .ok (.aload_n 0, 1) := by decide +kernel
theorem dX6_gripTool_7 : decode cX6_gripTool 7 = .ok (.getfield 38, 3) := by decide +kernel
theorem dX6_gripTool_10 : decode cX6_gripTool 10 = .ok (.iconst 4, 1) := by decide +kernel
theorem dX6_gripTool_11 : decode cX6_gripTool 11 = .ok (.invokevirtual 174, 3) := by decide +kernel
theorem dX6_gripTool_14 : decode cX6_gripTool 14 = .ok (.areturn, 1) := by decide +kernel
theorem dX6_gripTool_15 : decode cX6_gripTool 15 = .ok (.aload_n 0, 1) := by decide +kernel
theorem dX6_gripTool_16 : decode cX6_gripTool 16 = .ok (.getfield 21, 3) := by decide +kernel
theorem dX6_gripTool_19 : decode cX6_gripTool 19 = .ok (.iload_n 1, 1) := by decide +kernel
theorem dX6_gripTool_20 : decode cX6_gripTool 20 = .ok (.aaload, 1) := by decide +kernel
theorem dX6_gripTool_21 : decode cX6_gripTool 21 = .ok (.getfield 79, 3) := by decide +kernel
theorem dX6_gripTool_24 : decode cX6_gripTool 24 = .ok (.iconst 1, 1) := by decide +kernel
theorem dX6_gripTool_25 : decode cX6_gripTool 25 = .ok (.if_icmp .ne 13, 3) := by decide +kernel
theorem dX6_gripTool_28 : decode cX6_gripTool 28 = .ok (.aload_n 0, 1) := by decide +kernel
theorem dX6_gripTool_29 : decode cX6_gripTool 29 = .ok (.getfield 38, 3) := by decide +kernel
theorem dX6_gripTool_32 : decode cX6_gripTool 32 = .ok (.bipush 7, 2) := by decide +kernel
theorem dX6_gripTool_34 : decode cX6_gripTool 34 = .ok (.invokevirtual 174, 3) := by decide +kernel
theorem dX6_gripTool_37 : decode cX6_gripTool 37 = .ok (.areturn, 1) := by decide +kernel
theorem dX6_gripTool_38 : decode cX6_gripTool 38 = .ok (.aload_n 0, 1) := by decide +kernel
theorem dX6_gripTool_39 : decode cX6_gripTool 39 = .ok (.getfield 21, 3) := by decide +kernel
theorem dX6_gripTool_42 : decode cX6_gripTool 42 = .ok (.iload_n 1, 1) := by decide +kernel
theorem dX6_gripTool_43 : decode cX6_gripTool 43 = .ok (.aaload, 1) := by decide +kernel
theorem dX6_gripTool_44 : decode cX6_gripTool 44 = .ok (.getfield 79, 3) := by decide +kernel
theorem dX6_gripTool_47 : decode cX6_gripTool 47 = .ok (.iconst (-1), 1) := by decide +kernel
theorem dX6_gripTool_48 : decode cX6_gripTool 48 = .ok (.if_icmp .ne 12, 3) := by decide +kernel
theorem dX6_gripTool_51 : decode cX6_gripTool 51 = .ok (.aload_n 0, 1) := by decide +kernel
theorem dX6_gripTool_52 : decode cX6_gripTool 52 = .ok (.getfield 38, 3) := by decide +kernel
theorem dX6_gripTool_55 : decode cX6_gripTool 55 = .ok (.iconst 5, 1) := by decide +kernel
theorem dX6_gripTool_56 : decode cX6_gripTool 56 = .ok (.invokevirtual 174, 3) := by decide +kernel
theorem dX6_gripTool_59 : decode cX6_gripTool 59 = .ok (.areturn, 1) := by decide +kernel
theorem dX6_gripTool_60 : decode cX6_gripTool 60 = .ok (.aload_n 0, 1) := by decide +kernel
theorem dX6_gripTool_61 : decode cX6_gripTool 61 = .ok (.getfield 21, 3) := by decide +kernel
theorem dX6_gripTool_64 : decode cX6_gripTool 64 = .ok (.iload_n 1, 1) := by decide +kernel
theorem dX6_gripTool_65 : decode cX6_gripTool 65 = .ok (.aaload, 1) := by decide +kernel
theorem dX6_gripTool_66 : decode cX6_gripTool 66 = .ok (.dup, 1) := by decide +kernel
theorem dX6_gripTool_67 : decode cX6_gripTool 67 = .ok (.getfield 83, 3) := by decide +kernel
theorem dX6_gripTool_70 : decode cX6_gripTool 70 = .ok (.iload_n 2, 1) := by decide +kernel
theorem dX6_gripTool_71 : decode cX6_gripTool 71 = .ok (.iadd, 1) := by decide +kernel
theorem dX6_gripTool_72 : decode cX6_gripTool 72 = .ok (.putfield 83, 3) := by decide +kernel
theorem dX6_gripTool_75 : decode cX6_gripTool 75 = .ok (.getstatic 145, 3) := by decide +kernel
theorem dX6_gripTool_78 : decode cX6_gripTool 78 = .ok (.areturn, 1) := by decide +kernel
set_option maxRecDepth 20000 in
theorem ggX6_putTool_X1_fail : GoodIn wsX6_putTool wsX1_fail := goodIn_r _ [12, 13, 14, 15, 38, 39, 40, 41, 42, 43, 44] (by decide +kernel) (by decide +kernel)
set_option maxRecDepth 20000 in
theorem gX6_putTool_X1_fail : GoodIn wsX6_putTool (wsV RX6 174 RX1 yX1_fail wsX1_fail) := goodIn_app (goodIn_of _ (by decide +kernel)) ggX6_putTool_X1_fail
set_option maxRecDepth 20000 in
theorem ggX6_putTool_X3_boxTakes : GoodIn wsX6_putTool wsX3_boxTakes := goodIn_r _ [20, 21, 29, 30, 31, 32, 33, 34] (by decide +kernel) (by decide +kernel)
set_option maxRecDepth 20000 in
theorem gX6_putTool_X3_boxTakes : GoodIn wsX6_putTool (wsV RX6 236 RX3 yX3_boxTakes wsX3_boxTakes) := goodIn_app (goodIn_of _ (by decide +kernel)) ggX6_putTool_X3_boxTakes
theorem dX6_putTool_0 : decode cX6_putTool 0 = .ok (.iload_n 1, 1) := by decide +kernel
theorem dX6_putTool_1 : decode cX6_putTool 1 = .ok (.bipush 6, 2) := by decide +kernel
theorem dX6_putTool_3 : decode cX6_putTool 3 = .ok (.if_icmp .lt 12, 3) := by decide +kernel
theorem dX6_putTool_6 : decode cX6_putTool 6 = .ok (.aload_n 0, 1) := by decide +kernel
theorem dX6_putTool_7 : decode cX6_putTool 7 = .ok (.getfield 38, 3) := by decide +kernel
theorem dX6_putTool_10 : decode cX6_putTool 10 = .ok (.iconst 4, 1) := by decide +kernel
theorem dX6_putTool_11 : decode cX6_putTool 11 = .ok (.invokevirtual 174, 3) := by decide +kernel
theorem dX6_putTool_14 : decode cX6_putTool 14 = .ok (.areturn, 1) := by decide +kernel
theorem dX6_putTool_15 : decode cX6_putTool 15 = .ok (.aload_n 0, 1) := by decide +kernel
theorem dX6_putTool_16 : decode cX6_putTool 16 = .ok (.getfield 31, 3) := by decide +kernel
theorem dX6_putTool_19 : decode cX6_putTool 19 = .ok (.getfield 92, 3) := by decide +kernel
theorem dX6_putTool_22 : decode cX6_putTool 22 = .ok (.bipush (-4), 2) := by decide +kernel
theorem dX6_putTool_24 : decode cX6_putTool 24 = .ok (.if_icmp .ne 12, 3) := by decide +kernel
theorem dX6_putTool_27 : decode cX6_putTool 27 = .ok (.aload_n 0, 1) := by decide +kernel
theorem dX6_putTool_28 : decode cX6_putTool 28 = .ok (.getfield 38, 3) := by decide +kernel
theorem dX6_putTool_31 : decode cX6_putTool 31 = .ok (.iconst 5, 1) := by decide +kernel
theorem dX6_putTool_32 : decode cX6_putTool 32 = .ok (.invokevirtual 174, 3) := by decide +kernel
theorem dX6_putTool_35 : decode cX6_putTool 35 = .ok (.areturn, 1) := by decide +kernel
theorem dX6_putTool_36 : decode cX6_putTool 36 = .ok (.iload_n 2, 1) := by decide +kernel
theorem dX6_putTool_37 : decode cX6_putTool 37 = .ok (.aload_n 0, 1) := by decide +kernel
theorem dX6_putTool_38 : decode cX6_putTool 38 = .ok (.getfield 31, 3) := by decide +kernel
theorem dX6_putTool_41 : decode cX6_putTool 41 = .ok (.getfield 92, 3) := by decide +kernel
theorem dX6_putTool_44 : decode cX6_putTool 44 = .ok (.if_icmp .lt 12, 3) := by decide +kernel
theorem dX6_putTool_47 : decode cX6_putTool 47 = .ok (.aload_n 0, 1) := by decide +kernel
theorem dX6_putTool_48 : decode cX6_putTool 48 = .ok (.getfield 38, 3) := by decide +kernel
theorem dX6_putTool_51 : decode cX6_putTool 51 = .ok (.iconst 4, 1) := by decide +kernel
theorem dX6_putTool_52 : decode cX6_putTool 52 = .ok (.invokevirtual 174, 3) := by decide +kernel
theorem dX6_putTool_55 : decode cX6_putTool 55 = .ok (.areturn, 1) := by decide +kernel
theorem dX6_putTool_56 : decode cX6_putTool 56 = .ok (.aload_n 0, 1) := by decide +kernel
theorem dX6_putTool_57 : decode cX6_putTool 57 = .ok (.getfield 21, 3) := by decide +kernel
theorem dX6_putTool_60 : decode cX6_putTool 60 = .ok (.iload_n 1, 1) := by decide +kernel
theorem dX6_putTool_61 : decode cX6_putTool 61 = .ok (.aaload, 1) := by decide +kernel
theorem dX6_putTool_62 : decode cX6_putTool 62 = .ok (.getfield 79, 3) := by decide +kernel
theorem dX6_putTool_65 : decode cX6_putTool 65 = .ok (.istore_n 3, 1) := by decide +kernel
theorem dX6_putTool_66 : decode cX6_putTool 66 = .ok (.aload_n 0, 1) := by decide +kernel
theorem dX6_putTool_67 : decode cX6_putTool 67 = .ok (.getfield 31, 3) := by decide +kernel
theorem dX6_putTool_70 : decode cX6_putTool 70 = .ok (.iload_n 3, 1) := by decide +kernel
theorem dX6_putTool_71 : decode cX6_putTool 71 = .ok (.invokevirtual 236, 3) := by decide +kernel
theorem dX6_putTool_74 : decode cX6_putTool 74 = .ok (.ifCond .ne 13, 3) := by decide +kernel
theorem dX6_putTool_77 : decode cX6_putTool 77 = .ok (.aload_n 0, 1) := by decide +kernel
theorem dX6_putTool_78 : decode cX6_putTool 78 = .ok (.getfield 38, 3) := by decide +kernel
theorem dX6_putTool_81 : decode cX6_putTool 81 = .ok (.bipush 8, 2) := by decide +kernel
theorem dX6_putTool_83 : decode cX6_putTool 83 = .ok (.invokevirtual 174, 3) := by decide +kernel
theorem dX6_putTool_86 : decode cX6_putTool 86 = .ok (.areturn, 1) := by decide +kernel
theorem dX6_putTool_87 : decode cX6_putTool 87 = .ok (.aload_n 0, 1) := by decide +kernel
theorem dX6_putTool_88 : decode cX6_putTool 88 = .ok (.getfield 31, 3) := by decide +kernel
theorem dX6_putTool_91 : decode cX6_putTool 91 = .ok (.getfield 95, 3) := by decide +kernel
theorem dX6_putTool_94 : decode cX6_putTool 94 = .ok (.iload_n 2, 1) := by decide +kernel
theorem dX6_putTool_95 : decode cX6_putTool 95 = .ok (.iload_n 3, 1) := by decide +kernel
theorem dX6_putTool_96 : decode cX6_putTool 96 = .ok (.iconst (-1), 1) := by decide +kernel
theorem dX6_putTool_97 : decode cX6_putTool 97 = .ok (.if_icmp .ne 8, 3) := by decide +kernel
theorem dX6_putTool_100 : decode cX6_putTool 100 = .ok (.bipush (-4), 2) := by decide +kernel
theorem dX6_putTool_102 : decode cX6_putTool 102 = .ok (.goto 4, 3) := by decide +kernel
theorem dX6_putTool_105 : decode cX6_putTool 105 = .ok (.iload_n 1, 1) := by decide +kernel
theorem dX6_putTool_106 : decode cX6_putTool 106 = .ok (.iastore, 1) := by decide +kernel
theorem dX6_putTool_107 : decode cX6_putTool 107 = .ok (.getstatic 145, 3) := by decide +kernel
theorem dX6_putTool_110 : decode cX6_putTool 110 = .ok (.areturn, 1) := by decide +kernel
end
section
theorem dX7_init_0 : decode cX7_init 0 = .ok (.aload_n 0, 1) := by decide +kernel
theorem dX7_init_1 : decode cX7_init 1 = .ok (.invokespecial 1, 3) := by decide +kernel
theorem dX7_init_4 : decode cX7_init 4 = .ok (.aload_n 0, 1) := by decide +kernel
theorem dX7_init_5 : decode cX7_init 5 = .ok (.bipush 8, 2) := by decide +kernel
theorem dX7_init_7 : decode cX7_init 7 = .ok (.newarray .boolean, 2) := by decide +kernel
theorem dX7_init_9 : decode cX7_init 9 = .ok (.putfield 7, 3) := by decide +kernel
theorem dX7_init_12 : decode cX7_init 12 = .ok (.aload_n 0, 1) := by decide +kernel
theorem dX7_init_13 : decode cX7_init 13 = .ok (.bipush 8, 2) := by decide +kernel
theorem dX7_init_15 : decode cX7_init 15 = .ok (.newarray .int, 2) := by decide +kernel
theorem dX7_init_17 : decode cX7_init 17 = .ok (.putfield 13, 3) := by decide +kernel
theorem dX7_init_20 : decode cX7_init 20 = .ok (.aload_n 0, 1) := by decide +kernel
theorem dX7_init_21 : decode cX7_init 21 = .ok (.iconst 4, 1) := by decide +kernel
theorem dX7_init_22 : decode cX7_init 22 = .ok (.newarray .int, 2) := by decide +kernel
theorem dX7_init_24 : decode cX7_init 24 = .ok (.putfield 17, 3) := by decide +kernel
theorem dX7_init_27 : decode cX7_init 27 = .ok (.aload_n 0, 1) := by decide +kernel
theorem dX7_init_28 : decode cX7_init 28 = .ok (.iconst 4, 1) := by decide +kernel
theorem dX7_init_29 : decode cX7_init 29 = .ok (.newarray .int, 2) := by decide +kernel
theorem dX7_init_31 : decode cX7_init 31 = .ok (.putfield 20, 3) := by decide +kernel
theorem dX7_init_34 : decode cX7_init 34 = .ok (.aload_n 0, 1) := by decide +kernel
theorem dX7_init_35 : decode cX7_init 35 = .ok (.bipush 24, 2) := by decide +kernel
theorem dX7_init_37 : decode cX7_init 37 = .ok (.newarray .int, 2) := by decide +kernel
theorem dX7_init_39 : decode cX7_init 39 = .ok (.putfield 23, 3) := by decide +kernel
theorem dX7_init_42 : decode cX7_init 42 = .ok (.aload_n 0, 1) := by decide +kernel
theorem dX7_init_43 : decode cX7_init 43 = .ok (.bipush 24, 2) := by decide +kernel
theorem dX7_init_45 : decode cX7_init 45 = .ok (.newarray .int, 2) := by decide +kernel
theorem dX7_init_47 : decode cX7_init 47 = .ok (.putfield 26, 3) := by decide +kernel
theorem dX7_init_50 : decode cX7_init 50 = .ok (.aload_n 0, 1) := by decide +kernel
theorem dX7_init_51 : decode cX7_init 51 = .ok (.sipush 192, 3) := by decide +kernel
theorem dX7_init_54 : decode cX7_init 54 = .ok (.newarray .int, 2) := by decide +kernel
theorem dX7_init_56 : decode cX7_init 56 = .ok (.putfield 29, 3) := by decide +kernel
theorem dX7_init_59 : decode cX7_init 59 = .ok (.aload_n 0, 1) := by decide +kernel
theorem dX7_init_60 : decode cX7_init 60 = .ok (.sipush 192, 3) := by decide +kernel
theorem dX7_init_63 : decode cX7_init 63 = .ok (.newarray .int, 2) := by decide +kernel
theorem dX7_init_65 : decode cX7_init 65 = .ok (.putfield 32, 3) := by decide +kernel
theorem dX7_init_68 : decode cX7_init 68 = .ok (.aload_n 0, 1) := by decide +kernel
theorem dX7_init_69 : decode cX7_init 69 = .ok (.bipush 6, 2) := by decide +kernel
theorem dX7_init_71 : decode cX7_init 71 = .ok (.newarray .int, 2) := by decide +kernel
theorem dX7_init_73 : decode cX7_init 73 = .ok (.dup, 1) := by decide +kernel
theorem dX7_init_74 : decode cX7_init 74 = .ok (.iconst 0, 1) := by decide +kernel
theorem dX7_init_75 : decode cX7_init 75 = .ok (.iconst (-1), 1) := by decide +kernel
theorem dX7_init_76 : decode cX7_init 76 = .ok (.iastore, 1) := by decide +kernel
theorem dX7_init_77 : decode cX7_init 77 = .ok (.dup, 1) := by decide +kernel
theorem dX7_init_78 : decode cX7_init 78 = .ok (.iconst 1, 1) := by decide +kernel
theorem dX7_init_79 : decode cX7_init 79 = .ok (.iconst (-1), 1) := by decide +kernel
theorem dX7_init_80 : decode cX7_init 80 = .ok (.iastore, 1) := by decide +kernel
theorem dX7_init_81 : decode cX7_init 81 = .ok (.dup, 1) := by decide +kernel
theorem dX7_init_82 : decode cX7_init 82 = .ok (.iconst 2, 1) := by decide +kernel
theorem dX7_init_83 : decode cX7_init 83 = .ok (.iconst (-1), 1) := by decide +kernel
theorem dX7_init_84 : decode cX7_init 84 = .ok (.iastore, 1) := by decide +kernel
theorem dX7_init_85 : decode cX7_init 85 = .ok (.dup, 1) := by decide +kernel
theorem dX7_init_86 : decode cX7_init 86 = .ok (.iconst 3, 1) := by decide +kernel
theorem dX7_init_87 : decode cX7_init 87 = .ok (.iconst (-1), 1) := by decide +kernel
theorem dX7_init_88 : decode cX7_init 88 = .ok (.iastore, 1) := by decide +kernel
theorem dX7_init_89 : decode cX7_init 89 = .ok (.dup, 1) := by decide +kernel
theorem dX7_init_90 : decode cX7_init 90 = .ok (.iconst 4, 1) := by decide +kernel
theorem dX7_init_91 : decode cX7_init 91 = .ok (.iconst (-1), 1) := by decide +kernel
theorem dX7_init_92 : decode cX7_init 92 = .ok (.iastore, 1) := by decide +kernel
theorem dX7_init_93 : decode cX7_init 93 = .ok (.dup, 1) := by decide +kernel
theorem dX7_init_94 : decode cX7_init 94 = .ok (.iconst 5, 1) := by decide +kernel
theorem dX7_init_95 : decode cX7_init 95 = .ok (.iconst (-1), 1) := by decide +kernel
theorem dX7_init_96 : decode cX7_init 96 = .ok (.iastore, 1) := by decide +kernel
theorem dX7_init_97 : decode cX7_init 97 = .ok (.putfield 35, 3) := by decide +kernel
theorem dX7_init_100 : decode cX7_init 100 = .ok (.aload_n 0, 1) := by decide +kernel
theorem dX7_init_101 : decode cX7_init 101 = .ok (.bipush 6, 2) := by decide +kernel
theorem dX7_init_103 : decode cX7_init 103 = .ok (.newarray .int, 2) := by decide +kernel
theorem dX7_init_105 : decode cX7_init 105 = .ok (.putfield 38, 3) := by decide +kernel
theorem dX7_init_108 : decode cX7_init 108 = .ok (.aload_n 0, 1) := by decide +kernel
theorem dX7_init_109 : decode cX7_init 109 = .ok (.bipush 6, 2) := by decide +kernel
theorem dX7_init_111 : decode cX7_init 111 = .ok (.newarray .int, 2) := by decide +kernel
theorem dX7_init_113 : decode cX7_init 113 = .ok (.putfield 41, 3) := by decide +kernel
theorem dX7_init_116 : decode cX7_init 116 = .ok (.aload_n 0, 1) := by decide +kernel
theorem dX7_init_117 : decode cX7_init 117 = .ok (.iconst (-1), 1) := by decide +kernel
theorem dX7_init_118 : decode cX7_init 118 = .ok (.putfield 44, 3) := by decide +kernel
theorem dX7_init_121 : decode cX7_init 121 = .ok (.aload_n 0, 1) := by decide +kernel
theorem dX7_init_122 : decode cX7_init 122 = .ok (.iconst (-1), 1) := by decide +kernel
theorem dX7_init_123 : decode cX7_init 123 = .ok (.putfield 48, 3) := by decide +kernel
theorem dX7_init_126 : decode cX7_init 126 = .ok (.aload_n 0, 1) := by decide +kernel
theorem dX7_init_127 : decode cX7_init 127 = .ok (.bipush 20, 2) := by decide +kernel
theorem dX7_init_129 : decode cX7_init 129 = .ok (.newarray .int, 2) := by decide +kernel
theorem dX7_init_131 : decode cX7_init 131 = .ok (.putfield 51, 3) := by decide +kernel
theorem dX7_init_134 : decode cX7_init 134 = .ok (.aload_n 0, 1) := by decide +kernel
theorem dX7_init_135 : decode cX7_init 135 = .ok (.iconst (-1), 1) := by decide +kernel
theorem dX7_init_136 : decode cX7_init 136 = .ok (.putfield 54, 3) := by decide +kernel
theorem dX7_init_139 : decode cX7_init 139 = .ok (.aload_n 0, 1) := by decide +kernel
theorem dX7_init_140 : decode cX7_init 140 = .ok (.iconst 4, 1) := by decide +kernel
theorem dX7_init_141 : decode cX7_init 141 = .ok (.newarray .int, 2) := by decide +kernel
theorem dX7_init_143 : decode cX7_init 143 = .ok (.putfield 57, 3) := by decide +kernel
theorem dX7_init_146 : decode cX7_init 146 = .ok (.aload_n 0, 1) := by decide +kernel
theorem dX7_init_147 : decode cX7_init 147 = .ok (.bipush 8, 2) := by decide +kernel
theorem dX7_init_149 : decode cX7_init 149 = .ok (.newarray .int, 2) := by decide +kernel
theorem dX7_init_151 : decode cX7_init 151 = .ok (.putfield 60, 3) := by decide +kernel
theorem dX7_init_154 : decode cX7_init 154 = .ok (.aload_n 0, 1) := by decide +kernel
theorem dX7_init_155 : decode cX7_init 155 = .ok (.sipush 400, 3) := by decide +kernel
theorem dX7_init_158 : decode cX7_init 158 = .ok (.newarray .int, 2) := by decide +kernel
theorem dX7_init_160 : decode cX7_init 160 = .ok (.putfield 63, 3) := by decide +kernel
theorem dX7_init_163 : decode cX7_init 163 = .ok (.aload_n 0, 1) := by decide +kernel
theorem dX7_init_164 : decode cX7_init 164 = .ok (.bipush 24, 2) := by decide +kernel
theorem dX7_init_166 : decode cX7_init 166 = .ok (.newarray .int, 2) := by decide +kernel
theorem dX7_init_168 : decode cX7_init 168 = .ok (.putfield 66, 3) := by decide +kernel
theorem dX7_init_171 : decode cX7_init 171 = .ok (.aload_n 0, 1) := by decide +kernel
theorem dX7_init_172 : decode cX7_init 172 = .ok (.iconst 5, 1) := by decide +kernel
theorem dX7_init_173 : decode cX7_init 173 = .ok (.newarray .int, 2) := by decide +kernel
theorem dX7_init_175 : decode cX7_init 175 = .ok (.putfield 69, 3) := by decide +kernel
theorem dX7_init_178 : decode cX7_init 178 = .ok (.iconst 0, 1) := by decide +kernel
theorem dX7_init_179 : decode cX7_init 179 = .ok (.istore_n 1, 1) := by decide +kernel
theorem dX7_init_180 : decode cX7_init 180 = .ok (.iload_n 1, 1) := by decide +kernel
theorem dX7_init_181 : decode cX7_init 181 = .ok (.iconst 4, 1) := by decide +kernel
theorem dX7_init_182 : decode cX7_init 182 = .ok (.if_icmp .ge 16, 3) := by decide +kernel
theorem dX7_init_185 : decode cX7_init 185 = .ok (.aload_n 0, 1) := by decide +kernel
theorem dX7_init_186 : decode cX7_init 186 = .ok (.getfield 7, 3) := by decide +kernel
theorem dX7_init_189 : decode cX7_init 189 = .ok (.iload_n 1, 1) := by decide +kernel
theorem dX7_init_190 : decode cX7_init 190 = .ok (.iconst 1, 1) := by decide +kernel
theorem dX7_init_191 : decode cX7_init 191 = .ok (.bastore, 1) := by decide +kernel
theorem dX7_init_192 : decode cX7_init 192 = .ok (.iinc 1 1, 3) := by decide +kernel
theorem dX7_init_195 : decode cX7_init 195 = .ok (.goto (-15), 3) := by decide +kernel
theorem dX7_init_198 : decode cX7_init 198 = .ok (.return_, 1) := by decide +kernel
theorem dX7_in_0 : decode cX7_in 0 = .ok (.iload_n 0, 1) := by decide +kernel
theorem dX7_in_1 : decode cX7_in 1 = .ok (.iload_n 1, 1) := by decide +kernel
theorem dX7_in_2 : decode cX7_in 2 = .ok (.if_icmp .lt 12, 3) := by decide +kernel
theorem dX7_in_5 : decode cX7_in 5 = .ok (.iload_n 0, 1) := by decide +kernel
theorem dX7_in_6 : decode cX7_in 6 = .ok (.iload_n 2, 1) := by decide +kernel
theorem dX7_in_7 : decode cX7_in 7 = .ok (.if_icmp .gt 7, 3) := by decide +kernel
theorem dX7_in_10 : decode cX7_in 10 = .ok (.iconst 1, 1) := by decide +kernel
theorem dX7_in_11 : decode cX7_in 11 = .ok (.goto 4, 3) := by decide +kernel
theorem dX7_in_14 : decode cX7_in 14 = .ok (.iconst 0, 1) := by decide +kernel
theorem dX7_in_15 : decode cX7_in 15 = .ok (.ireturn, 1) := by decide +kernel
set_option maxRecDepth 20000 in
theorem ggX7_isBatch_X7_in : GoodIn wsX7_isBatch wsX7_in := goodIn_r _ [4] (by decide +kernel) (by decide +kernel)
set_option maxRecDepth 20000 in
theorem gX7_isBatch_X7_in : GoodIn wsX7_isBatch (va_wsS RX7 75 yX7_in wsX7_in) := goodIn_app (goodIn_of _ (by decide +kernel)) ggX7_isBatch_X7_in
theorem dX7_isBatch_0 : decode cX7_isBatch 0 = .ok (.iload_n 0, 1) := by decide +kernel
theorem dX7_isBatch_1 : decode cX7_isBatch 1 = .ok (.iconst 0, 1) := by decide +kernel
theorem dX7_isBatch_2 : decode cX7_isBatch 2 = .ok (.iconst 3, 1) := by decide +kernel
theorem dX7_isBatch_3 : decode cX7_isBatch 3 = .ok (.invokestatic 75, 3) := by decide +kernel
theorem dX7_isBatch_6 : decode cX7_isBatch 6 = .ok (.ireturn, 1) := by decide +kernel
set_option maxRecDepth 20000 in
theorem ggX7_vial_X7_in : GoodIn wsX7_vial wsX7_in := goodIn_r _ [7] (by decide +kernel) (by decide +kernel)
set_option maxRecDepth 20000 in
theorem gX7_vial_X7_in : GoodIn wsX7_vial (va_wsS RX7 75 yX7_in wsX7_in) := goodIn_app (goodIn_of _ (by decide +kernel)) ggX7_vial_X7_in
theorem dX7_vial_0 : decode cX7_vial 0 = .ok (.aload_n 0, 1) := by decide +kernel
theorem dX7_vial_1 : decode cX7_vial 1 = .ok (.iconst 0, 1) := by decide +kernel
theorem dX7_vial_2 : decode cX7_vial 2 = .ok (.putfield 72, 3) := by decide +kernel
theorem dX7_vial_5 : decode cX7_vial 5 = .ok (.iload_n 1, 1) := by decide +kernel
theorem dX7_vial_6 : decode cX7_vial 6 = .ok (.iconst 0, 1) := by decide +kernel
theorem dX7_vial_7 : decode cX7_vial 7 = .ok (.bipush 7, 2) := by decide +kernel
theorem dX7_vial_9 : decode cX7_vial 9 = .ok (.invokestatic 75, 3) := by decide +kernel
theorem dX7_vial_12 : decode cX7_vial 12 = .ok (.ifCond .eq 14, 3) := by decide +kernel
theorem dX7_vial_15 : decode cX7_vial 15 = .ok (.iload_n 2, 1) := by decide +kernel
theorem dX7_vial_16 : decode cX7_vial 16 = .ok (.iconst (-1), 1) := by decide +kernel
theorem dX7_vial_17 : decode cX7_vial 17 = .ok (.sipush 1000, 3) := by decide +kernel
theorem dX7_vial_20 : decode cX7_vial 20 = .ok (.invokestatic 75, 3) := by decide +kernel
theorem dX7_vial_23 : decode cX7_vial 23 = .ok (.ifCond .ne 5, 3) := by decide +kernel
theorem dX7_vial_26 : decode cX7_vial 26 = .ok (.iconst (-1), 1) := by decide +kernel
theorem dX7_vial_27 : decode cX7_vial 27 = .ok (.ireturn, 1) := by decide +kernel
theorem dX7_vial_28 : decode cX7_vial 28 = .ok (.aload_n 0, 1) := by decide +kernel
theorem dX7_vial_29 : decode cX7_vial 29 = .ok (.getfield 7, 3) := by decide +kernel
theorem dX7_vial_32 : decode cX7_vial 32 = .ok (.iload_n 1, 1) := by decide +kernel
theorem dX7_vial_33 : decode cX7_vial 33 = .ok (.baload, 1) := by decide +kernel
theorem dX7_vial_34 : decode cX7_vial 34 = .ok (.ifCond .eq 12, 3) := by decide +kernel
theorem dX7_vial_37 : decode cX7_vial 37 = .ok (.aload_n 0, 1) := by decide +kernel
theorem dX7_vial_38 : decode cX7_vial 38 = .ok (.getfield 13, 3) := by decide +kernel
theorem dX7_vial_41 : decode cX7_vial 41 = .ok (.iload_n 1, 1) := by decide +kernel
theorem dX7_vial_42 : decode cX7_vial 42 = .ok (.iaload, 1) := by decide +kernel
theorem dX7_vial_43 : decode cX7_vial 43 = .ok (.goto 5, 3) := by decide +kernel
theorem dX7_vial_46 : decode cX7_vial 46 = .ok (.bipush (-4), 2) := by decide +kernel
theorem dX7_vial_48 : decode cX7_vial 48 = .ok (.istore_n 3, 1) := by decide +kernel
theorem dX7_vial_49 : decode cX7_vial 49 = .ok (.aload_n 0, 1) := by decide +kernel
theorem dX7_vial_50 : decode cX7_vial 50 = .ok (.getfield 7, 3) := by decide +kernel
theorem dX7_vial_53 : decode cX7_vial 53 = .ok (.iload_n 1, 1) := by decide +kernel
theorem dX7_vial_54 : decode cX7_vial 54 = .ok (.iload_n 2, 1) := by decide +kernel
theorem dX7_vial_55 : decode cX7_vial 55 = .ok (.ifCond .lt 7, 3) := by decide +kernel
theorem dX7_vial_58 : decode cX7_vial 58 = .ok (.iconst 1, 1) := by decide +kernel
theorem dX7_vial_59 : decode cX7_vial 59 = .ok (.goto 4, 3) := by decide +kernel
theorem dX7_vial_62 : decode cX7_vial 62 = .ok (.iconst 0, 1) := by decide +kernel
theorem dX7_vial_63 : decode cX7_vial 63 = .ok (.bastore, 1) := by decide +kernel
theorem dX7_vial_64 : decode cX7_vial 64 = .ok (.aload_n 0, 1) := by decide +kernel
theorem dX7_vial_65 : decode cX7_vial 65 = .ok (.getfield 13, 3) := by decide +kernel
theorem dX7_vial_68 : decode cX7_vial 68 = .ok (.iload_n 1, 1) := by decide +kernel
theorem dX7_vial_69 : decode cX7_vial 69 = .ok (.iload_n 2, 1) := by decide +kernel
theorem dX7_vial_70 : decode cX7_vial 70 = .ok (.ifCond .ge 7, 3) := by decide +kernel
theorem dX7_vial_73 : decode cX7_vial 73 = .ok (.iconst 0, 1) := by decide +kernel
theorem dX7_vial_74 : decode cX7_vial 74 = .ok (.goto 4, 3) := by decide +kernel
theorem dX7_vial_77 : decode cX7_vial 77 = .ok (.iload_n 2, 1) := by decide +kernel
theorem dX7_vial_78 : decode cX7_vial 78 = .ok (.iastore, 1) := by decide +kernel
theorem dX7_vial_79 : decode cX7_vial 79 = .ok (.iload_n 3, 1) := by decide +kernel
theorem dX7_vial_80 : decode cX7_vial 80 = .ok (.ireturn, 1) := by decide +kernel
set_option maxRecDepth 20000 in
theorem ggX7_batch_X7_isBatch : GoodIn wsX7_batch wsX7_isBatch := goodIn_r _ [7, 8, 9, 6, 10] (by decide +kernel) (by decide +kernel)
set_option maxRecDepth 20000 in
theorem gX7_batch_X7_isBatch : GoodIn wsX7_batch (va_wsS RX7 79 yX7_isBatch wsX7_isBatch) := goodIn_app (goodIn_of _ (by decide +kernel)) ggX7_batch_X7_isBatch
set_option maxRecDepth 20000 in
theorem ggX7_batch_X7_in : GoodIn wsX7_batch wsX7_in := goodIn_r _ [10] (by decide +kernel) (by decide +kernel)
set_option maxRecDepth 20000 in
theorem gX7_batch_X7_in : GoodIn wsX7_batch (va_wsS RX7 75 yX7_in wsX7_in) := goodIn_app (goodIn_of _ (by decide +kernel)) ggX7_batch_X7_in
theorem dX7_batch_0 : decode cX7_batch 0 = .ok (.aload_n 0, 1) := by decide +kernel
theorem dX7_batch_1 : decode cX7_batch 1 = .ok (.iconst 0, 1) := by decide +kernel
theorem dX7_batch_2 : decode cX7_batch 2 = .ok (.putfield 72, 3) := by decide +kernel
theorem dX7_batch_5 : decode cX7_batch 5 = .ok (.iload_n 1, 1) := by decide +kernel
theorem dX7_batch_6 : decode cX7_batch 6 = .ok (.invokestatic 79, 3) := by decide +kernel
theorem dX7_batch_9 : decode cX7_batch 9 = .ok (.ifCond .eq 12, 3) := by decide +kernel
theorem dX7_batch_12 : decode cX7_batch 12 = .ok (.iload_n 2, 1) := by decide +kernel
theorem dX7_batch_13 : decode cX7_batch 13 = .ok (.iconst 0, 1) := by decide +kernel
theorem dX7_batch_14 : decode cX7_batch 14 = .ok (.iconst 2, 1) := by decide +kernel
theorem dX7_batch_15 : decode cX7_batch 15 = .ok (.invokestatic 75, 3) := by decide +kernel
theorem dX7_batch_18 : decode cX7_batch 18 = .ok (.ifCond .ne 5, 3) := by decide +kernel
theorem dX7_batch_21 : decode cX7_batch 21 = .ok (.iconst (-1), 1) := by decide +kernel
theorem dX7_batch_22 : decode cX7_batch 22 = .ok (.ireturn, 1) := by decide +kernel
theorem dX7_batch_23 : decode cX7_batch 23 = .ok (.aload_n 0, 1) := by decide +kernel
theorem dX7_batch_24 : decode cX7_batch 24 = .ok (.getfield 20, 3) := by decide +kernel
theorem dX7_batch_27 : decode cX7_batch 27 = .ok (.iload_n 1, 1) := by decide +kernel
theorem dX7_batch_28 : decode cX7_batch 28 = .ok (.iaload, 1) := by decide +kernel
theorem dX7_batch_29 : decode cX7_batch 29 = .ok (.istore_n 3, 1) := by decide +kernel
theorem dX7_batch_30 : decode cX7_batch 30 = .ok (.aload_n 0, 1) := by decide +kernel
theorem dX7_batch_31 : decode cX7_batch 31 = .ok (.getfield 20, 3) := by decide +kernel
theorem dX7_batch_34 : decode cX7_batch 34 = .ok (.iload_n 1, 1) := by decide +kernel
theorem dX7_batch_35 : decode cX7_batch 35 = .ok (.iconst 0, 1) := by decide +kernel
theorem dX7_batch_36 : decode cX7_batch 36 = .ok (.iastore, 1) := by decide +kernel
theorem dX7_batch_37 : decode cX7_batch 37 = .ok (.aload_n 0, 1) := by decide +kernel
theorem dX7_batch_38 : decode cX7_batch 38 = .ok (.getfield 17, 3) := by decide +kernel
theorem dX7_batch_41 : decode cX7_batch 41 = .ok (.iload_n 1, 1) := by decide +kernel
theorem dX7_batch_42 : decode cX7_batch 42 = .ok (.iload_n 2, 1) := by decide +kernel
theorem dX7_batch_43 : decode cX7_batch 43 = .ok (.iastore, 1) := by decide +kernel
theorem dX7_batch_44 : decode cX7_batch 44 = .ok (.iload_n 3, 1) := by decide +kernel
theorem dX7_batch_45 : decode cX7_batch 45 = .ok (.ireturn, 1) := by decide +kernel
set_option maxRecDepth 20000 in
theorem ggX7_round_X7_isBatch : GoodIn wsX7_round wsX7_isBatch := goodIn_r _ [8, 9, 10, 7, 11] (by decide +kernel) (by decide +kernel)
set_option maxRecDepth 20000 in
theorem gX7_round_X7_isBatch : GoodIn wsX7_round (va_wsS RX7 79 yX7_isBatch wsX7_isBatch) := goodIn_app (goodIn_of _ (by decide +kernel)) ggX7_round_X7_isBatch
set_option maxRecDepth 20000 in
theorem ggX7_round_X7_in : GoodIn wsX7_round wsX7_in := goodIn_r _ [11] (by decide +kernel) (by decide +kernel)
set_option maxRecDepth 20000 in
theorem gX7_round_X7_in : GoodIn wsX7_round (va_wsS RX7 75 yX7_in wsX7_in) := goodIn_app (goodIn_of _ (by decide +kernel)) ggX7_round_X7_in
theorem dX7_round_0 : decode cX7_round 0 = .ok (.aload_n 0, 1) := by decide +kernel
theorem dX7_round_1 : decode cX7_round 1 = .ok (.iconst 0, 1) := by decide +kernel
theorem dX7_round_2 : decode cX7_round 2 = .ok (.putfield 72, 3) := by decide +kernel
theorem dX7_round_5 : decode cX7_round 5 = .ok (.iload_n 1, 1) := by decide +kernel
theorem dX7_round_6 : decode cX7_round 6 = .ok (.invokestatic 79, 3) := by decide +kernel
theorem dX7_round_9 : decode cX7_round 9 = .ok (.ifCond .eq 13, 3) := by decide +kernel
theorem dX7_round_12 : decode cX7_round 12 = .ok (.iload_n 2, 1) := by decide +kernel
theorem dX7_round_13 : decode cX7_round 13 = .ok (.iconst 0, 1) := by decide +kernel
theorem dX7_round_14 : decode cX7_round 14 = .ok (.bipush 9, 2) := by decide +kernel
theorem dX7_round_16 : decode cX7_round 16 = .ok (.invokestatic 75, 3) := by decide +kernel
theorem dX7_round_19 : decode cX7_round 19 = .ok (.ifCond .ne 5, 3) := by decide +kernel
theorem dX7_round_22 : decode cX7_round 22 = .ok (.iconst (-1), 1) := by decide +kernel
theorem dX7_round_23 : decode cX7_round 23 = .ok (.ireturn, 1) := by decide +kernel
theorem dX7_round_24 : decode cX7_round 24 = .ok (.aload_n 0, 1) := by decide +kernel
theorem dX7_round_25 : decode cX7_round 25 = .ok (.getfield 20, 3) := by decide +kernel
theorem dX7_round_28 : decode cX7_round 28 = .ok (.iload_n 1, 1) := by decide +kernel
theorem dX7_round_29 : decode cX7_round 29 = .ok (.iaload, 1) := by decide +kernel
theorem dX7_round_30 : decode cX7_round 30 = .ok (.bipush 6, 2) := by decide +kernel
theorem dX7_round_32 : decode cX7_round 32 = .ok (.if_icmp .ne 6, 3) := by decide +kernel
theorem dX7_round_35 : decode cX7_round 35 = .ok (.bipush (-2), 2) := by decide +kernel
theorem dX7_round_37 : decode cX7_round 37 = .ok (.ireturn, 1) := by decide +kernel
theorem dX7_round_38 : decode cX7_round 38 = .ok (.bipush 6, 2) := by decide +kernel
theorem dX7_round_40 : decode cX7_round 40 = .ok (.iload_n 1, 1) := by decide +kernel
theorem dX7_round_41 : decode cX7_round 41 = .ok (.imul, 1) := by decide +kernel
theorem dX7_round_42 : decode cX7_round 42 = .ok (.aload_n 0, 1) := by decide +kernel
theorem dX7_round_43 : decode cX7_round 43 = .ok (.getfield 20, 3) := by decide +kernel
theorem dX7_round_46 : decode cX7_round 46 = .ok (.iload_n 1, 1) := by decide +kernel
theorem dX7_round_47 : decode cX7_round 47 = .ok (.iaload, 1) := by decide +kernel
theorem dX7_round_48 : decode cX7_round 48 = .ok (.iadd, 1) := by decide +kernel
theorem dX7_round_49 : decode cX7_round 49 = .ok (.istore_n 3, 1) := by decide +kernel
theorem dX7_round_50 : decode cX7_round 50 = .ok (.aload_n 0, 1) := by decide +kernel
theorem dX7_round_51 : decode cX7_round 51 = .ok (.getfield 23, 3) := by decide +kernel
theorem dX7_round_54 : decode cX7_round 54 = .ok (.iload_n 3, 1) := by decide +kernel
theorem dX7_round_55 : decode cX7_round 55 = .ok (.iload_n 2, 1) := by decide +kernel
theorem dX7_round_56 : decode cX7_round 56 = .ok (.iastore, 1) := by decide +kernel
theorem dX7_round_57 : decode cX7_round 57 = .ok (.aload_n 0, 1) := by decide +kernel
theorem dX7_round_58 : decode cX7_round 58 = .ok (.getfield 26, 3) := by decide +kernel
theorem dX7_round_61 : decode cX7_round 61 = .ok (.iload_n 3, 1) := by decide +kernel
theorem dX7_round_62 : decode cX7_round 62 = .ok (.iconst 0, 1) := by decide +kernel
theorem dX7_round_63 : decode cX7_round 63 = .ok (.iastore, 1) := by decide +kernel
theorem dX7_round_64 : decode cX7_round 64 = .ok (.aload_n 0, 1) := by decide +kernel
theorem dX7_round_65 : decode cX7_round 65 = .ok (.getfield 20, 3) := by decide +kernel
theorem dX7_round_68 : decode cX7_round 68 = .ok (.iload_n 1, 1) := by decide +kernel
theorem dX7_round_69 : decode cX7_round 69 = .ok (.dup2, 1) := by decide +kernel
theorem dX7_round_70 : decode cX7_round 70 = .ok (.iaload, 1) := by decide +kernel
theorem dX7_round_71 : decode cX7_round 71 = .ok (.iconst 1, 1) := by decide +kernel
theorem dX7_round_72 : decode cX7_round 72 = .ok (.iadd, 1) := by decide +kernel
theorem dX7_round_73 : decode cX7_round 73 = .ok (.iastore, 1) := by decide +kernel
theorem dX7_round_74 : decode cX7_round 74 = .ok (.aload_n 0, 1) := by decide +kernel
theorem dX7_round_75 : decode cX7_round 75 = .ok (.getfield 20, 3) := by decide +kernel
theorem dX7_round_78 : decode cX7_round 78 = .ok (.iload_n 1, 1) := by decide +kernel
theorem dX7_round_79 : decode cX7_round 79 = .ok (.iaload, 1) := by decide +kernel
theorem dX7_round_80 : decode cX7_round 80 = .ok (.iconst 1, 1) := by decide +kernel
theorem dX7_round_81 : decode cX7_round 81 = .ok (.isub, 1) := by decide +kernel
theorem dX7_round_82 : decode cX7_round 82 = .ok (.ireturn, 1) := by decide +kernel
theorem dX7_most_0 : decode cX7_most 0 = .ok (.iload_n 0, 1) := by decide +kernel
theorem dX7_most_1 : decode cX7_most 1 = .ok (.tableswitch 94 3 17 #[75, 94, 94, 94, 75, 94, 94, 75, 75, 78, 81, 84, 87, 90, 92], 75) := by decide +kernel
theorem dX7_most_76 : decode cX7_most 76 = .ok (.bipush 9, 2) := by decide +kernel
theorem dX7_most_78 : decode cX7_most 78 = .ok (.ireturn, 1) := by decide +kernel
theorem dX7_most_79 : decode cX7_most 79 = .ok (.bipush 40, 2) := by decide +kernel
theorem dX7_most_81 : decode cX7_most 81 = .ok (.ireturn, 1) := by decide +kernel
theorem dX7_most_82 : decode cX7_most 82 = .ok (.bipush 60, 2) := by decide +kernel
theorem dX7_most_84 : decode cX7_most 84 = .ok (.ireturn, 1) := by decide +kernel
theorem dX7_most_85 : decode cX7_most 85 = .ok (.bipush 35, 2) := by decide +kernel
theorem dX7_most_87 : decode cX7_most 87 = .ok (.ireturn, 1) := by decide +kernel
theorem dX7_most_88 : decode cX7_most 88 = .ok (.bipush 99, 2) := by decide +kernel
theorem dX7_most_90 : decode cX7_most 90 = .ok (.ireturn, 1) := by decide +kernel
theorem dX7_most_91 : decode cX7_most 91 = .ok (.iconst 2, 1) := by decide +kernel
theorem dX7_most_92 : decode cX7_most 92 = .ok (.ireturn, 1) := by decide +kernel
theorem dX7_most_93 : decode cX7_most 93 = .ok (.iconst 3, 1) := by decide +kernel
theorem dX7_most_94 : decode cX7_most 94 = .ok (.ireturn, 1) := by decide +kernel
theorem dX7_most_95 : decode cX7_most 95 = .ok (.sipush 200, 3) := by decide +kernel
theorem dX7_most_98 : decode cX7_most 98 = .ok (.ireturn, 1) := by decide +kernel
set_option maxRecDepth 20000 in
theorem ggX7_step_X7_isBatch : GoodIn wsX7_step wsX7_isBatch := goodIn_r _ [9, 10, 11, 8, 12] (by decide +kernel) (by decide +kernel)
set_option maxRecDepth 20000 in
theorem gX7_step_X7_isBatch : GoodIn wsX7_step (va_wsS RX7 79 yX7_isBatch wsX7_isBatch) := goodIn_app (goodIn_of _ (by decide +kernel)) ggX7_step_X7_isBatch
set_option maxRecDepth 20000 in
theorem ggX7_step_X7_in : GoodIn wsX7_step wsX7_in := goodIn_r _ [12] (by decide +kernel) (by decide +kernel)
set_option maxRecDepth 20000 in
theorem gX7_step_X7_in : GoodIn wsX7_step (va_wsS RX7 75 yX7_in wsX7_in) := goodIn_app (goodIn_of _ (by decide +kernel)) ggX7_step_X7_in
set_option maxRecDepth 20000 in
theorem ggX7_step_X7_most : GoodIn wsX7_step wsX7_most := goodIn_r _ [15] (by decide +kernel) (by decide +kernel)
set_option maxRecDepth 20000 in
theorem gX7_step_X7_most : GoodIn wsX7_step (va_wsS RX7 83 yX7_most wsX7_most) := goodIn_app (goodIn_of _ (by decide +kernel)) ggX7_step_X7_most
theorem dX7_step_0 : decode cX7_step 0 = .ok (.aload_n 0, 1) := by decide +kernel
theorem dX7_step_1 : decode cX7_step 1 = .ok (.iconst 0, 1) := by decide +kernel
theorem dX7_step_2 : decode cX7_step 2 = .ok (.putfield 72, 3) := by decide +kernel
theorem dX7_step_5 : decode cX7_step 5 = .ok (.iload_n 1, 1) := by decide +kernel
theorem dX7_step_6 : decode cX7_step 6 = .ok (.invokestatic 79, 3) := by decide +kernel
theorem dX7_step_9 : decode cX7_step 9 = .ok (.ifCond .eq 25, 3) := by decide +kernel
theorem dX7_step_12 : decode cX7_step 12 = .ok (.iload_n 2, 1) := by decide +kernel
theorem dX7_step_13 : decode cX7_step 13 = .ok (.iconst 0, 1) := by decide +kernel
theorem dX7_step_14 : decode cX7_step 14 = .ok (.bipush 17, 2) := by decide +kernel
theorem dX7_step_16 : decode cX7_step 16 = .ok (.invokestatic 75, 3) := by decide +kernel
theorem dX7_step_19 : decode cX7_step 19 = .ok (.ifCond .eq 15, 3) := by decide +kernel
theorem dX7_step_22 : decode cX7_step 22 = .ok (.iload_n 3, 1) := by decide +kernel
theorem dX7_step_23 : decode cX7_step 23 = .ok (.iconst 0, 1) := by decide +kernel
theorem dX7_step_24 : decode cX7_step 24 = .ok (.iload_n 2, 1) := by decide +kernel
theorem dX7_step_25 : decode cX7_step 25 = .ok (.invokestatic 83, 3) := by decide +kernel
theorem dX7_step_28 : decode cX7_step 28 = .ok (.invokestatic 75, 3) := by decide +kernel
theorem dX7_step_31 : decode cX7_step 31 = .ok (.ifCond .ne 5, 3) := by decide +kernel
theorem dX7_step_34 : decode cX7_step 34 = .ok (.iconst (-1), 1) := by decide +kernel
theorem dX7_step_35 : decode cX7_step 35 = .ok (.ireturn, 1) := by decide +kernel
theorem dX7_step_36 : decode cX7_step 36 = .ok (.aload_n 0, 1) := by decide +kernel
theorem dX7_step_37 : decode cX7_step 37 = .ok (.getfield 20, 3) := by decide +kernel
theorem dX7_step_40 : decode cX7_step 40 = .ok (.iload_n 1, 1) := by decide +kernel
theorem dX7_step_41 : decode cX7_step 41 = .ok (.iaload, 1) := by decide +kernel
theorem dX7_step_42 : decode cX7_step 42 = .ok (.ifCond .ne 6, 3) := by decide +kernel
theorem dX7_step_45 : decode cX7_step 45 = .ok (.bipush (-3), 2) := by decide +kernel
theorem dX7_step_47 : decode cX7_step 47 = .ok (.ireturn, 1) := by decide +kernel
theorem dX7_step_48 : decode cX7_step 48 = .ok (.bipush 6, 2) := by decide +kernel
theorem dX7_step_50 : decode cX7_step 50 = .ok (.iload_n 1, 1) := by decide +kernel
theorem dX7_step_51 : decode cX7_step 51 = .ok (.imul, 1) := by decide +kernel
theorem dX7_step_52 : decode cX7_step 52 = .ok (.aload_n 0, 1) := by decide +kernel
theorem dX7_step_53 : decode cX7_step 53 = .ok (.getfield 20, 3) := by decide +kernel
theorem dX7_step_56 : decode cX7_step 56 = .ok (.iload_n 1, 1) := by decide +kernel
theorem dX7_step_57 : decode cX7_step 57 = .ok (.iaload, 1) := by decide +kernel
theorem dX7_step_58 : decode cX7_step 58 = .ok (.iadd, 1) := by decide +kernel
theorem dX7_step_59 : decode cX7_step 59 = .ok (.iconst 1, 1) := by decide +kernel
theorem dX7_step_60 : decode cX7_step 60 = .ok (.isub, 1) := by decide +kernel
theorem dX7_step_61 : decode cX7_step 61 = .ok (.istore 4, 2) := by decide +kernel
theorem dX7_step_63 : decode cX7_step 63 = .ok (.aload_n 0, 1) := by decide +kernel
theorem dX7_step_64 : decode cX7_step 64 = .ok (.getfield 26, 3) := by decide +kernel
theorem dX7_step_67 : decode cX7_step 67 = .ok (.iload 4, 2) := by decide +kernel
theorem dX7_step_69 : decode cX7_step 69 = .ok (.iaload, 1) := by decide +kernel
theorem dX7_step_70 : decode cX7_step 70 = .ok (.bipush 8, 2) := by decide +kernel
theorem dX7_step_72 : decode cX7_step 72 = .ok (.if_icmp .ne 6, 3) := by decide +kernel
theorem dX7_step_75 : decode cX7_step 75 = .ok (.bipush (-2), 2) := by decide +kernel
theorem dX7_step_77 : decode cX7_step 77 = .ok (.ireturn, 1) := by decide +kernel
theorem dX7_step_78 : decode cX7_step 78 = .ok (.aload_n 0, 1) := by decide +kernel
theorem dX7_step_79 : decode cX7_step 79 = .ok (.getfield 29, 3) := by decide +kernel
theorem dX7_step_82 : decode cX7_step 82 = .ok (.bipush 8, 2) := by decide +kernel
theorem dX7_step_84 : decode cX7_step 84 = .ok (.iload 4, 2) := by decide +kernel
theorem dX7_step_86 : decode cX7_step 86 = .ok (.imul, 1) := by decide +kernel
theorem dX7_step_87 : decode cX7_step 87 = .ok (.aload_n 0, 1) := by decide +kernel
theorem dX7_step_88 : decode cX7_step 88 = .ok (.getfield 26, 3) := by decide +kernel
theorem dX7_step_91 : decode cX7_step 91 = .ok (.iload 4, 2) := by decide +kernel
theorem dX7_step_93 : decode cX7_step 93 = .ok (.iaload, 1) := by decide +kernel
theorem dX7_step_94 : decode cX7_step 94 = .ok (.iadd, 1) := by decide +kernel
theorem dX7_step_95 : decode cX7_step 95 = .ok (.iload_n 2, 1) := by decide +kernel
theorem dX7_step_96 : decode cX7_step 96 = .ok (.iastore, 1) := by decide +kernel
theorem dX7_step_97 : decode cX7_step 97 = .ok (.aload_n 0, 1) := by decide +kernel
theorem dX7_step_98 : decode cX7_step 98 = .ok (.getfield 32, 3) := by decide +kernel
theorem dX7_step_101 : decode cX7_step 101 = .ok (.bipush 8, 2) := by decide +kernel
theorem dX7_step_103 : decode cX7_step 103 = .ok (.iload 4, 2) := by decide +kernel
theorem dX7_step_105 : decode cX7_step 105 = .ok (.imul, 1) := by decide +kernel
theorem dX7_step_106 : decode cX7_step 106 = .ok (.aload_n 0, 1) := by decide +kernel
theorem dX7_step_107 : decode cX7_step 107 = .ok (.getfield 26, 3) := by decide +kernel
theorem dX7_step_110 : decode cX7_step 110 = .ok (.iload 4, 2) := by decide +kernel
theorem dX7_step_112 : decode cX7_step 112 = .ok (.iaload, 1) := by decide +kernel
theorem dX7_step_113 : decode cX7_step 113 = .ok (.iadd, 1) := by decide +kernel
theorem dX7_step_114 : decode cX7_step 114 = .ok (.iload_n 3, 1) := by decide +kernel
theorem dX7_step_115 : decode cX7_step 115 = .ok (.iastore, 1) := by decide +kernel
theorem dX7_step_116 : decode cX7_step 116 = .ok (.aload_n 0, 1) := by decide +kernel
theorem dX7_step_117 : decode cX7_step 117 = .ok (.getfield 26, 3) := by decide +kernel
theorem dX7_step_120 : decode cX7_step 120 = .ok (.iload 4, 2) := by decide +kernel
theorem dX7_step_122 : decode cX7_step 122 = .ok (.dup2, 1) := by decide +kernel
theorem dX7_step_123 : decode cX7_step 123 = .ok (.iaload, 1) := by decide +kernel
theorem dX7_step_124 : decode cX7_step 124 = .ok (.iconst 1, 1) := by decide +kernel
theorem dX7_step_125 : decode cX7_step 125 = .ok (.iadd, 1) := by decide +kernel
theorem dX7_step_126 : decode cX7_step 126 = .ok (.iastore, 1) := by decide +kernel
theorem dX7_step_127 : decode cX7_step 127 = .ok (.aload_n 0, 1) := by decide +kernel
theorem dX7_step_128 : decode cX7_step 128 = .ok (.getfield 26, 3) := by decide +kernel
theorem dX7_step_131 : decode cX7_step 131 = .ok (.iload 4, 2) := by decide +kernel
theorem dX7_step_133 : decode cX7_step 133 = .ok (.iaload, 1) := by decide +kernel
theorem dX7_step_134 : decode cX7_step 134 = .ok (.iconst 1, 1) := by decide +kernel
theorem dX7_step_135 : decode cX7_step 135 = .ok (.isub, 1) := by decide +kernel
theorem dX7_step_136 : decode cX7_step 136 = .ok (.ireturn, 1) := by decide +kernel
set_option maxRecDepth 20000 in
theorem ggX7_tool_X7_in : GoodIn wsX7_tool wsX7_in := goodIn_r _ [8] (by decide +kernel) (by decide +kernel)
set_option maxRecDepth 20000 in
theorem gX7_tool_X7_in : GoodIn wsX7_tool (va_wsS RX7 75 yX7_in wsX7_in) := goodIn_app (goodIn_of _ (by decide +kernel)) ggX7_tool_X7_in
theorem dX7_tool_0 : decode cX7_tool 0 = .ok (.aload_n 0, 1) := by decide +kernel
theorem dX7_tool_1 : decode cX7_tool 1 = .ok (.iconst 0, 1) := by decide +kernel
theorem dX7_tool_2 : decode cX7_tool 2 = .ok (.putfield 72, 3) := by decide +kernel
theorem dX7_tool_5 : decode cX7_tool 5 = .ok (.iload_n 1, 1) := by decide +kernel
theorem dX7_tool_6 : decode cX7_tool 6 = .ok (.iconst 0, 1) := by decide +kernel
theorem dX7_tool_7 : decode cX7_tool 7 = .ok (.iconst 5, 1) := by decide +kernel
theorem dX7_tool_8 : decode cX7_tool 8 = .ok (.invokestatic 75, 3) := by decide +kernel
theorem dX7_tool_11 : decode cX7_tool 11 = .ok (.ifCond .eq 12, 3) := by decide +kernel
theorem dX7_tool_14 : decode cX7_tool 14 = .ok (.iload_n 2, 1) := by decide +kernel
theorem dX7_tool_15 : decode cX7_tool 15 = .ok (.iconst (-1), 1) := by decide +kernel
theorem dX7_tool_16 : decode cX7_tool 16 = .ok (.iconst 1, 1) := by decide +kernel
theorem dX7_tool_17 : decode cX7_tool 17 = .ok (.invokestatic 75, 3) := by decide +kernel
theorem dX7_tool_20 : decode cX7_tool 20 = .ok (.ifCond .ne 5, 3) := by decide +kernel
theorem dX7_tool_23 : decode cX7_tool 23 = .ok (.iconst (-1), 1) := by decide +kernel
theorem dX7_tool_24 : decode cX7_tool 24 = .ok (.ireturn, 1) := by decide +kernel
theorem dX7_tool_25 : decode cX7_tool 25 = .ok (.aload_n 0, 1) := by decide +kernel
theorem dX7_tool_26 : decode cX7_tool 26 = .ok (.getfield 35, 3) := by decide +kernel
theorem dX7_tool_29 : decode cX7_tool 29 = .ok (.iload_n 1, 1) := by decide +kernel
theorem dX7_tool_30 : decode cX7_tool 30 = .ok (.iaload, 1) := by decide +kernel
theorem dX7_tool_31 : decode cX7_tool 31 = .ok (.ifCond .ge 8, 3) := by decide +kernel
theorem dX7_tool_34 : decode cX7_tool 34 = .ok (.bipush (-4), 2) := by decide +kernel
theorem dX7_tool_36 : decode cX7_tool 36 = .ok (.goto 9, 3) := by decide +kernel
theorem dX7_tool_39 : decode cX7_tool 39 = .ok (.aload_n 0, 1) := by decide +kernel
theorem dX7_tool_40 : decode cX7_tool 40 = .ok (.getfield 35, 3) := by decide +kernel
theorem dX7_tool_43 : decode cX7_tool 43 = .ok (.iload_n 1, 1) := by decide +kernel
theorem dX7_tool_44 : decode cX7_tool 44 = .ok (.iaload, 1) := by decide +kernel
theorem dX7_tool_45 : decode cX7_tool 45 = .ok (.istore_n 3, 1) := by decide +kernel
theorem dX7_tool_46 : decode cX7_tool 46 = .ok (.aload_n 0, 1) := by decide +kernel
theorem dX7_tool_47 : decode cX7_tool 47 = .ok (.getfield 35, 3) := by decide +kernel
theorem dX7_tool_50 : decode cX7_tool 50 = .ok (.iload_n 1, 1) := by decide +kernel
theorem dX7_tool_51 : decode cX7_tool 51 = .ok (.iload_n 2, 1) := by decide +kernel
theorem dX7_tool_52 : decode cX7_tool 52 = .ok (.iastore, 1) := by decide +kernel
theorem dX7_tool_53 : decode cX7_tool 53 = .ok (.aload_n 0, 1) := by decide +kernel
theorem dX7_tool_54 : decode cX7_tool 54 = .ok (.getfield 38, 3) := by decide +kernel
theorem dX7_tool_57 : decode cX7_tool 57 = .ok (.iload_n 1, 1) := by decide +kernel
theorem dX7_tool_58 : decode cX7_tool 58 = .ok (.iconst 0, 1) := by decide +kernel
theorem dX7_tool_59 : decode cX7_tool 59 = .ok (.iastore, 1) := by decide +kernel
theorem dX7_tool_60 : decode cX7_tool 60 = .ok (.aload_n 0, 1) := by decide +kernel
theorem dX7_tool_61 : decode cX7_tool 61 = .ok (.getfield 41, 3) := by decide +kernel
theorem dX7_tool_64 : decode cX7_tool 64 = .ok (.iload_n 1, 1) := by decide +kernel
theorem dX7_tool_65 : decode cX7_tool 65 = .ok (.iconst 0, 1) := by decide +kernel
theorem dX7_tool_66 : decode cX7_tool 66 = .ok (.iastore, 1) := by decide +kernel
theorem dX7_tool_67 : decode cX7_tool 67 = .ok (.iload_n 3, 1) := by decide +kernel
theorem dX7_tool_68 : decode cX7_tool 68 = .ok (.ireturn, 1) := by decide +kernel
set_option maxRecDepth 20000 in
theorem ggX7_lay_X7_in : GoodIn wsX7_lay wsX7_in := goodIn_r _ [6] (by decide +kernel) (by decide +kernel)
set_option maxRecDepth 20000 in
theorem gX7_lay_X7_in : GoodIn wsX7_lay (va_wsS RX7 75 yX7_in wsX7_in) := goodIn_app (goodIn_of _ (by decide +kernel)) ggX7_lay_X7_in
theorem dX7_lay_0 : decode cX7_lay 0 = .ok (.aload_n 0, 1) := by decide +kernel
theorem dX7_lay_1 : decode cX7_lay 1 = .ok (.iconst 0, 1) := by decide +kernel
theorem dX7_lay_2 : decode cX7_lay 2 = .ok (.putfield 72, 3) := by decide +kernel
theorem dX7_lay_5 : decode cX7_lay 5 = .ok (.iload_n 1, 1) := by decide +kernel
theorem dX7_lay_6 : decode cX7_lay 6 = .ok (.iconst 0, 1) := by decide +kernel
theorem dX7_lay_7 : decode cX7_lay 7 = .ok (.iconst 3, 1) := by decide +kernel
theorem dX7_lay_8 : decode cX7_lay 8 = .ok (.invokestatic 75, 3) := by decide +kernel
theorem dX7_lay_11 : decode cX7_lay 11 = .ok (.ifCond .eq 13, 3) := by decide +kernel
theorem dX7_lay_14 : decode cX7_lay 14 = .ok (.iload_n 2, 1) := by decide +kernel
theorem dX7_lay_15 : decode cX7_lay 15 = .ok (.iconst 0, 1) := by decide +kernel
theorem dX7_lay_16 : decode cX7_lay 16 = .ok (.bipush 99, 2) := by decide +kernel
theorem dX7_lay_18 : decode cX7_lay 18 = .ok (.invokestatic 75, 3) := by decide +kernel
theorem dX7_lay_21 : decode cX7_lay 21 = .ok (.ifCond .ne 5, 3) := by decide +kernel
theorem dX7_lay_24 : decode cX7_lay 24 = .ok (.iconst (-1), 1) := by decide +kernel
theorem dX7_lay_25 : decode cX7_lay 25 = .ok (.ireturn, 1) := by decide +kernel
theorem dX7_lay_26 : decode cX7_lay 26 = .ok (.aload_n 0, 1) := by decide +kernel
theorem dX7_lay_27 : decode cX7_lay 27 = .ok (.getfield 57, 3) := by decide +kernel
theorem dX7_lay_30 : decode cX7_lay 30 = .ok (.iload_n 1, 1) := by decide +kernel
theorem dX7_lay_31 : decode cX7_lay 31 = .ok (.iaload, 1) := by decide +kernel
theorem dX7_lay_32 : decode cX7_lay 32 = .ok (.istore_n 3, 1) := by decide +kernel
theorem dX7_lay_33 : decode cX7_lay 33 = .ok (.aload_n 0, 1) := by decide +kernel
theorem dX7_lay_34 : decode cX7_lay 34 = .ok (.getfield 57, 3) := by decide +kernel
theorem dX7_lay_37 : decode cX7_lay 37 = .ok (.iload_n 1, 1) := by decide +kernel
theorem dX7_lay_38 : decode cX7_lay 38 = .ok (.iload_n 2, 1) := by decide +kernel
theorem dX7_lay_39 : decode cX7_lay 39 = .ok (.iastore, 1) := by decide +kernel
theorem dX7_lay_40 : decode cX7_lay 40 = .ok (.iload_n 3, 1) := by decide +kernel
theorem dX7_lay_41 : decode cX7_lay 41 = .ok (.ireturn, 1) := by decide +kernel
set_option maxRecDepth 20000 in
theorem ggX7_about_X7_in : GoodIn wsX7_about wsX7_in := goodIn_r _ [8] (by decide +kernel) (by decide +kernel)
set_option maxRecDepth 20000 in
theorem gX7_about_X7_in : GoodIn wsX7_about (va_wsS RX7 75 yX7_in wsX7_in) := goodIn_app (goodIn_of _ (by decide +kernel)) ggX7_about_X7_in
theorem dX7_about_0 : decode cX7_about 0 = .ok (.aload_n 0, 1) := by decide +kernel
theorem dX7_about_1 : decode cX7_about 1 = .ok (.iconst 0, 1) := by decide +kernel
theorem dX7_about_2 : decode cX7_about 2 = .ok (.putfield 72, 3) := by decide +kernel
theorem dX7_about_5 : decode cX7_about 5 = .ok (.iload_n 1, 1) := by decide +kernel
theorem dX7_about_6 : decode cX7_about 6 = .ok (.iconst 0, 1) := by decide +kernel
theorem dX7_about_7 : decode cX7_about 7 = .ok (.iconst 5, 1) := by decide +kernel
theorem dX7_about_8 : decode cX7_about 8 = .ok (.invokestatic 75, 3) := by decide +kernel
theorem dX7_about_11 : decode cX7_about 11 = .ok (.ifCond .eq 12, 3) := by decide +kernel
theorem dX7_about_14 : decode cX7_about 14 = .ok (.iload_n 2, 1) := by decide +kernel
theorem dX7_about_15 : decode cX7_about 15 = .ok (.iconst 0, 1) := by decide +kernel
theorem dX7_about_16 : decode cX7_about 16 = .ok (.iconst 2, 1) := by decide +kernel
theorem dX7_about_17 : decode cX7_about 17 = .ok (.invokestatic 75, 3) := by decide +kernel
theorem dX7_about_20 : decode cX7_about 20 = .ok (.ifCond .ne 5, 3) := by decide +kernel
theorem dX7_about_23 : decode cX7_about 23 = .ok (.iconst (-1), 1) := by decide +kernel
theorem dX7_about_24 : decode cX7_about 24 = .ok (.ireturn, 1) := by decide +kernel
theorem dX7_about_25 : decode cX7_about 25 = .ok (.aload_n 0, 1) := by decide +kernel
theorem dX7_about_26 : decode cX7_about 26 = .ok (.getfield 35, 3) := by decide +kernel
theorem dX7_about_29 : decode cX7_about 29 = .ok (.iload_n 1, 1) := by decide +kernel
theorem dX7_about_30 : decode cX7_about 30 = .ok (.iaload, 1) := by decide +kernel
theorem dX7_about_31 : decode cX7_about 31 = .ok (.ifCond .ge 8, 3) := by decide +kernel
theorem dX7_about_34 : decode cX7_about 34 = .ok (.bipush (-3), 2) := by decide +kernel
theorem dX7_about_36 : decode cX7_about 36 = .ok (.goto 36, 3) := by decide +kernel
theorem dX7_about_39 : decode cX7_about 39 = .ok (.iload_n 2, 1) := by decide +kernel
theorem dX7_about_40 : decode cX7_about 40 = .ok (.ifCond .ne 12, 3) := by decide +kernel
theorem dX7_about_43 : decode cX7_about 43 = .ok (.aload_n 0, 1) := by decide +kernel
theorem dX7_about_44 : decode cX7_about 44 = .ok (.getfield 38, 3) := by decide +kernel
theorem dX7_about_47 : decode cX7_about 47 = .ok (.iload_n 1, 1) := by decide +kernel
theorem dX7_about_48 : decode cX7_about 48 = .ok (.iaload, 1) := by decide +kernel
theorem dX7_about_49 : decode cX7_about 49 = .ok (.goto 23, 3) := by decide +kernel
theorem dX7_about_52 : decode cX7_about 52 = .ok (.iload_n 2, 1) := by decide +kernel
theorem dX7_about_53 : decode cX7_about 53 = .ok (.iconst 1, 1) := by decide +kernel
theorem dX7_about_54 : decode cX7_about 54 = .ok (.if_icmp .ne 12, 3) := by decide +kernel
theorem dX7_about_57 : decode cX7_about 57 = .ok (.aload_n 0, 1) := by decide +kernel
theorem dX7_about_58 : decode cX7_about 58 = .ok (.getfield 41, 3) := by decide +kernel
theorem dX7_about_61 : decode cX7_about 61 = .ok (.iload_n 1, 1) := by decide +kernel
theorem dX7_about_62 : decode cX7_about 62 = .ok (.iaload, 1) := by decide +kernel
theorem dX7_about_63 : decode cX7_about 63 = .ok (.goto 9, 3) := by decide +kernel
theorem dX7_about_66 : decode cX7_about 66 = .ok (.aload_n 0, 1) := by decide +kernel
theorem dX7_about_67 : decode cX7_about 67 = .ok (.getfield 35, 3) := by decide +kernel
theorem dX7_about_70 : decode cX7_about 70 = .ok (.iload_n 1, 1) := by decide +kernel
theorem dX7_about_71 : decode cX7_about 71 = .ok (.iaload, 1) := by decide +kernel
theorem dX7_about_72 : decode cX7_about 72 = .ok (.ireturn, 1) := by decide +kernel
set_option maxRecDepth 20000 in
theorem ggX7_places_X7_in : GoodIn wsX7_places wsX7_in := goodIn_r _ [9] (by decide +kernel) (by decide +kernel)
set_option maxRecDepth 20000 in
theorem gX7_places_X7_in : GoodIn wsX7_places (va_wsS RX7 75 yX7_in wsX7_in) := goodIn_app (goodIn_of _ (by decide +kernel)) ggX7_places_X7_in
theorem dX7_places_0 : decode cX7_places 0 = .ok (.aload_n 0, 1) := by decide +kernel
theorem dX7_places_1 : decode cX7_places 1 = .ok (.iconst 0, 1) := by decide +kernel
theorem dX7_places_2 : decode cX7_places 2 = .ok (.putfield 72, 3) := by decide +kernel
theorem dX7_places_5 : decode cX7_places 5 = .ok (.iload_n 1, 1) := by decide +kernel
theorem dX7_places_6 : decode cX7_places 6 = .ok (.iconst 0, 1) := by decide +kernel
theorem dX7_places_7 : decode cX7_places 7 = .ok (.iconst 3, 1) := by decide +kernel
theorem dX7_places_8 : decode cX7_places 8 = .ok (.invokestatic 75, 3) := by decide +kernel
theorem dX7_places_11 : decode cX7_places 11 = .ok (.ifCond .ne 5, 3) := by decide +kernel
theorem dX7_places_14 : decode cX7_places 14 = .ok (.iconst (-1), 1) := by decide +kernel
theorem dX7_places_15 : decode cX7_places 15 = .ok (.ireturn, 1) := by decide +kernel
theorem dX7_places_16 : decode cX7_places 16 = .ok (.iload_n 1, 1) := by decide +kernel
theorem dX7_places_17 : decode cX7_places 17 = .ok (.ifCond .ne 10, 3) := by decide +kernel
theorem dX7_places_20 : decode cX7_places 20 = .ok (.aload_n 0, 1) := by decide +kernel
theorem dX7_places_21 : decode cX7_places 21 = .ok (.getfield 44, 3) := by decide +kernel
theorem dX7_places_24 : decode cX7_places 24 = .ok (.goto 42, 3) := by decide +kernel
theorem dX7_places_27 : decode cX7_places 27 = .ok (.iload_n 1, 1) := by decide +kernel
theorem dX7_places_28 : decode cX7_places 28 = .ok (.iconst 1, 1) := by decide +kernel
theorem dX7_places_29 : decode cX7_places 29 = .ok (.if_icmp .ne 10, 3) := by decide +kernel
theorem dX7_places_32 : decode cX7_places 32 = .ok (.aload_n 0, 1) := by decide +kernel
theorem dX7_places_33 : decode cX7_places 33 = .ok (.getfield 48, 3) := by decide +kernel
theorem dX7_places_36 : decode cX7_places 36 = .ok (.goto 30, 3) := by decide +kernel
theorem dX7_places_39 : decode cX7_places 39 = .ok (.iload_n 1, 1) := by decide +kernel
theorem dX7_places_40 : decode cX7_places 40 = .ok (.iconst 2, 1) := by decide +kernel
theorem dX7_places_41 : decode cX7_places 41 = .ok (.if_icmp .ne 10, 3) := by decide +kernel
theorem dX7_places_44 : decode cX7_places 44 = .ok (.aload_n 0, 1) := by decide +kernel
theorem dX7_places_45 : decode cX7_places 45 = .ok (.getfield 54, 3) := by decide +kernel
theorem dX7_places_48 : decode cX7_places 48 = .ok (.goto 18, 3) := by decide +kernel
theorem dX7_places_51 : decode cX7_places 51 = .ok (.aload_n 0, 1) := by decide +kernel
theorem dX7_places_52 : decode cX7_places 52 = .ok (.getfield 54, 3) := by decide +kernel
theorem dX7_places_55 : decode cX7_places 55 = .ok (.ifCond .le 10, 3) := by decide +kernel
theorem dX7_places_58 : decode cX7_places 58 = .ok (.aload_n 0, 1) := by decide +kernel
theorem dX7_places_59 : decode cX7_places 59 = .ok (.getfield 87, 3) := by decide +kernel
theorem dX7_places_62 : decode cX7_places 62 = .ok (.goto 4, 3) := by decide +kernel
theorem dX7_places_65 : decode cX7_places 65 = .ok (.iconst (-1), 1) := by decide +kernel
theorem dX7_places_66 : decode cX7_places 66 = .ok (.istore_n 2, 1) := by decide +kernel
theorem dX7_places_67 : decode cX7_places 67 = .ok (.iload_n 2, 1) := by decide +kernel
theorem dX7_places_68 : decode cX7_places 68 = .ok (.ifCond .ge 8, 3) := by decide +kernel
theorem dX7_places_71 : decode cX7_places 71 = .ok (.bipush (-4), 2) := by decide +kernel
theorem dX7_places_73 : decode cX7_places 73 = .ok (.goto 4, 3) := by decide +kernel
theorem dX7_places_76 : decode cX7_places 76 = .ok (.iload_n 2, 1) := by decide +kernel
theorem dX7_places_77 : decode cX7_places 77 = .ok (.ireturn, 1) := by decide +kernel
set_option maxRecDepth 20000 in
theorem ggX7_box_X7_in : GoodIn wsX7_box wsX7_in := goodIn_r _ [7] (by decide +kernel) (by decide +kernel)
set_option maxRecDepth 20000 in
theorem gX7_box_X7_in : GoodIn wsX7_box (va_wsS RX7 75 yX7_in wsX7_in) := goodIn_app (goodIn_of _ (by decide +kernel)) ggX7_box_X7_in
theorem dX7_box_0 : decode cX7_box 0 = .ok (.aload_n 0, 1) := by decide +kernel
theorem dX7_box_1 : decode cX7_box 1 = .ok (.iconst 0, 1) := by decide +kernel
theorem dX7_box_2 : decode cX7_box 2 = .ok (.putfield 72, 3) := by decide +kernel
theorem dX7_box_5 : decode cX7_box 5 = .ok (.iload_n 1, 1) := by decide +kernel
theorem dX7_box_6 : decode cX7_box 6 = .ok (.iconst 0, 1) := by decide +kernel
theorem dX7_box_7 : decode cX7_box 7 = .ok (.aload_n 0, 1) := by decide +kernel
theorem dX7_box_8 : decode cX7_box 8 = .ok (.getfield 48, 3) := by decide +kernel
theorem dX7_box_11 : decode cX7_box 11 = .ok (.iconst 1, 1) := by decide +kernel
theorem dX7_box_12 : decode cX7_box 12 = .ok (.isub, 1) := by decide +kernel
theorem dX7_box_13 : decode cX7_box 13 = .ok (.invokestatic 75, 3) := by decide +kernel
theorem dX7_box_16 : decode cX7_box 16 = .ok (.ifCond .eq 21, 3) := by decide +kernel
theorem dX7_box_19 : decode cX7_box 19 = .ok (.aload_n 0, 1) := by decide +kernel
theorem dX7_box_20 : decode cX7_box 20 = .ok (.getfield 51, 3) := by decide +kernel
theorem dX7_box_23 : decode cX7_box 23 = .ok (.iload_n 1, 1) := by decide +kernel
theorem dX7_box_24 : decode cX7_box 24 = .ok (.iaload, 1) := by decide +kernel
theorem dX7_box_25 : decode cX7_box 25 = .ok (.ifCond .lt 12, 3) := by decide +kernel
theorem dX7_box_28 : decode cX7_box 28 = .ok (.aload_n 0, 1) := by decide +kernel
theorem dX7_box_29 : decode cX7_box 29 = .ok (.getfield 51, 3) := by decide +kernel
theorem dX7_box_32 : decode cX7_box 32 = .ok (.iload_n 1, 1) := by decide +kernel
theorem dX7_box_33 : decode cX7_box 33 = .ok (.iaload, 1) := by decide +kernel
theorem dX7_box_34 : decode cX7_box 34 = .ok (.goto 5, 3) := by decide +kernel
theorem dX7_box_37 : decode cX7_box 37 = .ok (.bipush (-4), 2) := by decide +kernel
theorem dX7_box_39 : decode cX7_box 39 = .ok (.ireturn, 1) := by decide +kernel
theorem dX7_mark_0 : decode cX7_mark 0 = .ok (.aload_n 0, 1) := by decide +kernel
theorem dX7_mark_1 : decode cX7_mark 1 = .ok (.getfield 60, 3) := by decide +kernel
theorem dX7_mark_4 : decode cX7_mark 4 = .ok (.bipush 7, 2) := by decide +kernel
theorem dX7_mark_6 : decode cX7_mark 6 = .ok (.iaload, 1) := by decide +kernel
theorem dX7_mark_7 : decode cX7_mark 7 = .ok (.sipush 400, 3) := by decide +kernel
theorem dX7_mark_10 : decode cX7_mark 10 = .ok (.if_icmp .ge 16, 3) := by decide +kernel
theorem dX7_mark_13 : decode cX7_mark 13 = .ok (.aload_n 0, 1) := by decide +kernel
theorem dX7_mark_14 : decode cX7_mark 14 = .ok (.getfield 63, 3) := by decide +kernel
theorem dX7_mark_17 : decode cX7_mark 17 = .ok (.aload_n 0, 1) := by decide +kernel
theorem dX7_mark_18 : decode cX7_mark 18 = .ok (.getfield 60, 3) := by decide +kernel
theorem dX7_mark_21 : decode cX7_mark 21 = .ok (.bipush 7, 2) := by decide +kernel
theorem dX7_mark_23 : decode cX7_mark 23 = .ok (.iaload, 1) := by decide +kernel
theorem dX7_mark_24 : decode cX7_mark 24 = .ok (.iload_n 1, 1) := by decide +kernel
theorem dX7_mark_25 : decode cX7_mark 25 = .ok (.iastore, 1) := by decide +kernel
theorem dX7_mark_26 : decode cX7_mark 26 = .ok (.aload_n 0, 1) := by decide +kernel
theorem dX7_mark_27 : decode cX7_mark 27 = .ok (.getfield 60, 3) := by decide +kernel
theorem dX7_mark_30 : decode cX7_mark 30 = .ok (.bipush 7, 2) := by decide +kernel
theorem dX7_mark_32 : decode cX7_mark 32 = .ok (.dup2, 1) := by decide +kernel
theorem dX7_mark_33 : decode cX7_mark 33 = .ok (.iaload, 1) := by decide +kernel
theorem dX7_mark_34 : decode cX7_mark 34 = .ok (.iconst 1, 1) := by decide +kernel
theorem dX7_mark_35 : decode cX7_mark 35 = .ok (.iadd, 1) := by decide +kernel
theorem dX7_mark_36 : decode cX7_mark 36 = .ok (.iastore, 1) := by decide +kernel
theorem dX7_mark_37 : decode cX7_mark 37 = .ok (.aload_n 0, 1) := by decide +kernel
theorem dX7_mark_38 : decode cX7_mark 38 = .ok (.getfield 60, 3) := by decide +kernel
theorem dX7_mark_41 : decode cX7_mark 41 = .ok (.iload_n 1, 1) := by decide +kernel
theorem dX7_mark_42 : decode cX7_mark 42 = .ok (.iconst 1, 1) := by decide +kernel
theorem dX7_mark_43 : decode cX7_mark 43 = .ok (.isub, 1) := by decide +kernel
theorem dX7_mark_44 : decode cX7_mark 44 = .ok (.dup2, 1) := by decide +kernel
theorem dX7_mark_45 : decode cX7_mark 45 = .ok (.iaload, 1) := by decide +kernel
theorem dX7_mark_46 : decode cX7_mark 46 = .ok (.iconst 1, 1) := by decide +kernel
theorem dX7_mark_47 : decode cX7_mark 47 = .ok (.iadd, 1) := by decide +kernel
theorem dX7_mark_48 : decode cX7_mark 48 = .ok (.iastore, 1) := by decide +kernel
theorem dX7_mark_49 : decode cX7_mark 49 = .ok (.return_, 1) := by decide +kernel
set_option maxRecDepth 20000 in
theorem ggX7_fails_X7_in : GoodIn wsX7_fails wsX7_in := goodIn_r _ [6] (by decide +kernel) (by decide +kernel)
set_option maxRecDepth 20000 in
theorem gX7_fails_X7_in : GoodIn wsX7_fails (va_wsS RX7 75 yX7_in wsX7_in) := goodIn_app (goodIn_of _ (by decide +kernel)) ggX7_fails_X7_in
theorem dX7_fails_0 : decode cX7_fails 0 = .ok (.aload_n 0, 1) := by decide +kernel
theorem dX7_fails_1 : decode cX7_fails 1 = .ok (.iload_n 1, 1) := by decide +kernel
theorem dX7_fails_2 : decode cX7_fails 2 = .ok (.putfield 90, 3) := by decide +kernel
theorem dX7_fails_5 : decode cX7_fails 5 = .ok (.aload_n 0, 1) := by decide +kernel
theorem dX7_fails_6 : decode cX7_fails 6 = .ok (.iload_n 1, 1) := by decide +kernel
theorem dX7_fails_7 : decode cX7_fails 7 = .ok (.iconst 3, 1) := by decide +kernel
theorem dX7_fails_8 : decode cX7_fails 8 = .ok (.bipush 8, 2) := by decide +kernel
theorem dX7_fails_10 : decode cX7_fails 10 = .ok (.invokestatic 75, 3) := by decide +kernel
theorem dX7_fails_13 : decode cX7_fails 13 = .ok (.putfield 93, 3) := by decide +kernel
theorem dX7_fails_16 : decode cX7_fails 16 = .ok (.iconst 5, 1) := by decide +kernel
theorem dX7_fails_17 : decode cX7_fails 17 = .ok (.ireturn, 1) := by decide +kernel
set_option maxRecDepth 20000 in
theorem ggX7_more_X7_fails : GoodIn wsX7_more wsX7_fails := goodIn_r _ [6, 7, 8, 9, 10, 5, 11, 12, 13, 14, 15, 16, 17, 18, 19, 20, 21, 22, 23, 24, 25, 26, 27, 28, 29, 30, 31, 32, 33, 34, 35, 36, 37, 38, 39] (by decide +kernel) (by decide +kernel)
set_option maxRecDepth 20000 in
theorem gX7_more_X7_fails : GoodIn wsX7_more (wsV RX7 97 RX7 yX7_fails wsX7_fails) := goodIn_app (goodIn_of _ (by decide +kernel)) ggX7_more_X7_fails
theorem dX7_more_0 : decode cX7_more 0 = .ok (.aload_n 0, 1) := by decide +kernel
theorem dX7_more_1 : decode cX7_more 1 = .ok (.getfield 13, 3) := by decide +kernel
theorem dX7_more_4 : decode cX7_more 4 = .ok (.iload_n 1, 1) := by decide +kernel
theorem dX7_more_5 : decode cX7_more 5 = .ok (.iaload, 1) := by decide +kernel
theorem dX7_more_6 : decode cX7_more 6 = .ok (.iload_n 2, 1) := by decide +kernel
theorem dX7_more_7 : decode cX7_more 7 = .ok (.iadd, 1) := by decide +kernel
theorem dX7_more_8 : decode cX7_more 8 = .ok (.sipush 1000, 3) := by decide +kernel
theorem dX7_more_11 : decode cX7_more 11 = .ok (.if_icmp .le 9, 3) := by decide +kernel
theorem dX7_more_14 : decode cX7_more 14 = .ok (.aload_n 0, 1) := by decide +kernel
theorem dX7_more_15 : decode cX7_more 15 = .ok (.iconst 1, 1) := by decide +kernel
theorem dX7_more_16 : decode cX7_more 16 = .ok (.invokevirtual 97, 3) := by decide +kernel
theorem dX7_more_19 : decode cX7_more 19 = .ok (.ireturn, 1) := by decide +kernel
theorem dX7_more_20 : decode cX7_more 20 = .ok (.aload_n 0, 1) := by decide +kernel
theorem dX7_more_21 : decode cX7_more 21 = .ok (.getfield 13, 3) := by decide +kernel
theorem dX7_more_24 : decode cX7_more 24 = .ok (.iload_n 1, 1) := by decide +kernel
theorem dX7_more_25 : decode cX7_more 25 = .ok (.dup2, 1) := by decide +kernel
theorem dX7_more_26 : decode cX7_more 26 = .ok (.iaload, 1) := by decide +kernel
theorem dX7_more_27 : decode cX7_more 27 = .ok (.iload_n 2, 1) := by decide +kernel
theorem dX7_more_28 : decode cX7_more 28 = .ok (.iadd, 1) := by decide +kernel
theorem dX7_more_29 : decode cX7_more 29 = .ok (.iastore, 1) := by decide +kernel
theorem dX7_more_30 : decode cX7_more 30 = .ok (.iconst 0, 1) := by decide +kernel
theorem dX7_more_31 : decode cX7_more 31 = .ok (.ireturn, 1) := by decide +kernel
set_option maxRecDepth 20000 in
theorem ggX7_pours_X7_fails : GoodIn wsX7_pours wsX7_fails := goodIn_r _ [7, 8, 9, 10, 11, 6, 12, 13, 14, 15, 16, 17, 18, 19, 20, 21, 22, 23, 24, 25, 26, 27, 28, 29, 30, 31, 32, 33, 34, 35, 36, 37, 38, 39, 40] (by decide +kernel) (by decide +kernel)
set_option maxRecDepth 20000 in
theorem gX7_pours_X7_fails : GoodIn wsX7_pours (wsV RX7 97 RX7 yX7_fails wsX7_fails) := goodIn_app (goodIn_of _ (by decide +kernel)) ggX7_pours_X7_fails
theorem dX7_pours_0 : decode cX7_pours 0 = .ok (.iload_n 2, 1) := by decide +kernel
theorem dX7_pours_1 : decode cX7_pours 1 = .ok (.bipush 7, 2) := by decide +kernel
theorem dX7_pours_3 : decode cX7_pours 3 = .ok (.if_icmp .le 9, 3) := by decide +kernel
theorem dX7_pours_6 : decode cX7_pours 6 = .ok (.aload_n 0, 1) := by decide +kernel
theorem dX7_pours_7 : decode cX7_pours 7 = .ok (.iconst 4, 1) := by decide +kernel
theorem dX7_pours_8 : decode cX7_pours 8 = .ok (.invokevirtual 97, 3) := by decide +kernel
theorem dX7_pours_11 : decode cX7_pours 11 = .ok (.ireturn, 1) := by decide +kernel
theorem dX7_pours_12 : decode cX7_pours 12 = .ok (.aload_n 0, 1) := by decide +kernel
theorem dX7_pours_13 : decode cX7_pours 13 = .ok (.getfield 7, 3) := by decide +kernel
theorem dX7_pours_16 : decode cX7_pours 16 = .ok (.iload_n 2, 1) := by decide +kernel
theorem dX7_pours_17 : decode cX7_pours 17 = .ok (.baload, 1) := by decide +kernel
theorem dX7_pours_18 : decode cX7_pours 18 = .ok (.ifCond .ne 9, 3) := by decide +kernel
theorem dX7_pours_21 : decode cX7_pours 21 = .ok (.aload_n 0, 1) := by decide +kernel
theorem dX7_pours_22 : decode cX7_pours 22 = .ok (.iconst 5, 1) := by decide +kernel
theorem dX7_pours_23 : decode cX7_pours 23 = .ok (.invokevirtual 97, 3) := by decide +kernel
theorem dX7_pours_26 : decode cX7_pours 26 = .ok (.ireturn, 1) := by decide +kernel
theorem dX7_pours_27 : decode cX7_pours 27 = .ok (.iload_n 2, 1) := by decide +kernel
theorem dX7_pours_28 : decode cX7_pours 28 = .ok (.iload_n 1, 1) := by decide +kernel
theorem dX7_pours_29 : decode cX7_pours 29 = .ok (.if_icmp .ne 5, 3) := by decide +kernel
theorem dX7_pours_32 : decode cX7_pours 32 = .ok (.iconst 0, 1) := by decide +kernel
theorem dX7_pours_33 : decode cX7_pours 33 = .ok (.ireturn, 1) := by decide +kernel
theorem dX7_pours_34 : decode cX7_pours 34 = .ok (.aload_n 0, 1) := by decide +kernel
theorem dX7_pours_35 : decode cX7_pours 35 = .ok (.getfield 13, 3) := by decide +kernel
theorem dX7_pours_38 : decode cX7_pours 38 = .ok (.iload_n 2, 1) := by decide +kernel
theorem dX7_pours_39 : decode cX7_pours 39 = .ok (.iaload, 1) := by decide +kernel
theorem dX7_pours_40 : decode cX7_pours 40 = .ok (.aload_n 0, 1) := by decide +kernel
theorem dX7_pours_41 : decode cX7_pours 41 = .ok (.getfield 13, 3) := by decide +kernel
theorem dX7_pours_44 : decode cX7_pours 44 = .ok (.iload_n 1, 1) := by decide +kernel
theorem dX7_pours_45 : decode cX7_pours 45 = .ok (.iaload, 1) := by decide +kernel
theorem dX7_pours_46 : decode cX7_pours 46 = .ok (.iadd, 1) := by decide +kernel
theorem dX7_pours_47 : decode cX7_pours 47 = .ok (.sipush 1000, 3) := by decide +kernel
theorem dX7_pours_50 : decode cX7_pours 50 = .ok (.if_icmp .le 9, 3) := by decide +kernel
theorem dX7_pours_53 : decode cX7_pours 53 = .ok (.aload_n 0, 1) := by decide +kernel
theorem dX7_pours_54 : decode cX7_pours 54 = .ok (.iconst 1, 1) := by decide +kernel
theorem dX7_pours_55 : decode cX7_pours 55 = .ok (.invokevirtual 97, 3) := by decide +kernel
theorem dX7_pours_58 : decode cX7_pours 58 = .ok (.ireturn, 1) := by decide +kernel
theorem dX7_pours_59 : decode cX7_pours 59 = .ok (.aload_n 0, 1) := by decide +kernel
theorem dX7_pours_60 : decode cX7_pours 60 = .ok (.getfield 13, 3) := by decide +kernel
theorem dX7_pours_63 : decode cX7_pours 63 = .ok (.iload_n 2, 1) := by decide +kernel
theorem dX7_pours_64 : decode cX7_pours 64 = .ok (.dup2, 1) := by decide +kernel
theorem dX7_pours_65 : decode cX7_pours 65 = .ok (.iaload, 1) := by decide +kernel
theorem dX7_pours_66 : decode cX7_pours 66 = .ok (.aload_n 0, 1) := by decide +kernel
theorem dX7_pours_67 : decode cX7_pours 67 = .ok (.getfield 13, 3) := by decide +kernel
theorem dX7_pours_70 : decode cX7_pours 70 = .ok (.iload_n 1, 1) := by decide +kernel
theorem dX7_pours_71 : decode cX7_pours 71 = .ok (.iaload, 1) := by decide +kernel
theorem dX7_pours_72 : decode cX7_pours 72 = .ok (.iadd, 1) := by decide +kernel
theorem dX7_pours_73 : decode cX7_pours 73 = .ok (.iastore, 1) := by decide +kernel
theorem dX7_pours_74 : decode cX7_pours 74 = .ok (.aload_n 0, 1) := by decide +kernel
theorem dX7_pours_75 : decode cX7_pours 75 = .ok (.getfield 13, 3) := by decide +kernel
theorem dX7_pours_78 : decode cX7_pours 78 = .ok (.iload_n 1, 1) := by decide +kernel
theorem dX7_pours_79 : decode cX7_pours 79 = .ok (.iconst 0, 1) := by decide +kernel
theorem dX7_pours_80 : decode cX7_pours 80 = .ok (.iastore, 1) := by decide +kernel
theorem dX7_pours_81 : decode cX7_pours 81 = .ok (.iconst 0, 1) := by decide +kernel
theorem dX7_pours_82 : decode cX7_pours 82 = .ok (.ireturn, 1) := by decide +kernel
set_option maxRecDepth 20000 in
theorem ggX7_grips_X7_fails : GoodIn wsX7_grips wsX7_fails := goodIn_r _ [8, 9, 10, 11, 12, 7, 13, 14, 15, 16, 17, 18, 19, 20, 21, 22, 23, 24, 25, 26, 27, 28, 29, 30, 31, 32, 33, 34, 35, 36, 37, 38, 39, 40, 41] (by decide +kernel) (by decide +kernel)
set_option maxRecDepth 20000 in
theorem gX7_grips_X7_fails : GoodIn wsX7_grips (wsV RX7 97 RX7 yX7_fails wsX7_fails) := goodIn_app (goodIn_of _ (by decide +kernel)) ggX7_grips_X7_fails
theorem dX7_grips_0 : decode cX7_grips 0 = .ok (.iload_n 1, 1) := by decide +kernel
theorem dX7_grips_1 : decode cX7_grips 1 = .ok (.iconst 5, 1) := by decide +kernel
theorem dX7_grips_2 : decode cX7_grips 2 = .ok (.if_icmp .le 9, 3) := by decide +kernel
theorem dX7_grips_5 : decode cX7_grips 5 = .ok (.aload_n 0, 1) := by decide +kernel
theorem dX7_grips_6 : decode cX7_grips 6 = .ok (.iconst 4, 1) := by decide +kernel
theorem dX7_grips_7 : decode cX7_grips 7 = .ok (.invokevirtual 97, 3) := by decide +kernel
theorem dX7_grips_10 : decode cX7_grips 10 = .ok (.ireturn, 1) := by decide +kernel
theorem dX7_grips_11 : decode cX7_grips 11 = .ok (.aload_n 0, 1) := by decide +kernel
theorem dX7_grips_12 : decode cX7_grips 12 = .ok (.getfield 35, 3) := by decide +kernel
theorem dX7_grips_15 : decode cX7_grips 15 = .ok (.iload_n 1, 1) := by decide +kernel
theorem dX7_grips_16 : decode cX7_grips 16 = .ok (.iaload, 1) := by decide +kernel
theorem dX7_grips_17 : decode cX7_grips 17 = .ok (.ifCond .eq 24, 3) := by decide +kernel
theorem dX7_grips_20 : decode cX7_grips 20 = .ok (.aload_n 0, 1) := by decide +kernel
theorem dX7_grips_21 : decode cX7_grips 21 = .ok (.aload_n 0, 1) := by decide +kernel
theorem dX7_grips_22 : decode cX7_grips 22 = .ok (.getfield 35, 3) := by decide +kernel
theorem dX7_grips_25 : decode cX7_grips 25 = .ok (.iload_n 1, 1) := by decide +kernel
theorem dX7_grips_26 : decode cX7_grips 26 = .ok (.iaload, 1) := by decide +kernel
theorem dX7_grips_27 : decode cX7_grips 27 = .ok (.iconst 1, 1) := by decide +kernel
theorem dX7_grips_28 : decode cX7_grips 28 = .ok (.if_icmp .ne 8, 3) := by decide +kernel
theorem dX7_grips_31 : decode cX7_grips 31 = .ok (.bipush 7, 2) := by decide +kernel
theorem dX7_grips_33 : decode cX7_grips 33 = .ok (.goto 4, 3) := by decide +kernel
theorem dX7_grips_36 : decode cX7_grips 36 = .ok (.iconst 5, 1) := by decide +kernel
theorem dX7_grips_37 : decode cX7_grips 37 = .ok (.invokevirtual 97, 3) := by decide +kernel
theorem dX7_grips_40 : decode cX7_grips 40 = .ok (.ireturn, 1) := by decide +kernel
theorem dX7_grips_41 : decode cX7_grips 41 = .ok (.aload_n 0, 1) := by decide +kernel
theorem dX7_grips_42 : decode cX7_grips 42 = .ok (.getfield 41, 3) := by decide +kernel
theorem dX7_grips_45 : decode cX7_grips 45 = .ok (.iload_n 1, 1) := by decide +kernel
theorem dX7_grips_46 : decode cX7_grips 46 = .ok (.dup2, 1) := by decide +kernel
theorem dX7_grips_47 : decode cX7_grips 47 = .ok (.iaload, 1) := by decide +kernel
theorem dX7_grips_48 : decode cX7_grips 48 = .ok (.aload_n 0, 1) := by decide +kernel
theorem dX7_grips_49 : decode cX7_grips 49 = .ok (.getfield 13, 3) := by decide +kernel
theorem dX7_grips_52 : decode cX7_grips 52 = .ok (.iload_n 2, 1) := by decide +kernel
theorem dX7_grips_53 : decode cX7_grips 53 = .ok (.iaload, 1) := by decide +kernel
theorem dX7_grips_54 : decode cX7_grips 54 = .ok (.iadd, 1) := by decide +kernel
theorem dX7_grips_55 : decode cX7_grips 55 = .ok (.iastore, 1) := by decide +kernel
theorem dX7_grips_56 : decode cX7_grips 56 = .ok (.iconst 0, 1) := by decide +kernel
theorem dX7_grips_57 : decode cX7_grips 57 = .ok (.ireturn, 1) := by decide +kernel
set_option maxRecDepth 20000 in
theorem ggX7_uses_X7_fails : GoodIn wsX7_uses wsX7_fails := goodIn_r _ [7, 8, 9, 10, 11, 6, 12, 13, 14, 15, 16, 17, 18, 19, 20, 21, 22, 23, 24, 25, 26, 27, 28, 29, 30, 31, 32, 33, 34, 35, 36, 37, 38, 39, 40] (by decide +kernel) (by decide +kernel)
set_option maxRecDepth 20000 in
theorem gX7_uses_X7_fails : GoodIn wsX7_uses (wsV RX7 97 RX7 yX7_fails wsX7_fails) := goodIn_app (goodIn_of _ (by decide +kernel)) ggX7_uses_X7_fails
theorem dX7_uses_0 : decode cX7_uses 0 = .ok (.iload_n 1, 1) := by decide +kernel
theorem dX7_uses_1 : decode cX7_uses 1 = .ok (.iconst 5, 1) := by decide +kernel
theorem dX7_uses_2 : decode cX7_uses 2 = .ok (.if_icmp .gt 12, 3) := by decide +kernel
theorem dX7_uses_5 : decode cX7_uses 5 = .ok (.aload_n 0, 1) := by decide +kernel
theorem dX7_uses_6 : decode cX7_uses 6 = .ok (.getfield 35, 3) := by decide +kernel
theorem dX7_uses_9 : decode cX7_uses 9 = .ok (.iload_n 1, 1) := by decide +kernel
theorem dX7_uses_10 : decode cX7_uses 10 = .ok (.iaload, 1) := by decide +kernel
theorem dX7_uses_11 : decode cX7_uses 11 = .ok (.ifCond .ge 18, 3) := by decide +kernel
theorem dX7_uses_14 : decode cX7_uses 14 = .ok (.aload_n 0, 1) := by decide +kernel
theorem dX7_uses_15 : decode cX7_uses 15 = .ok (.iload_n 1, 1) := by decide +kernel
theorem dX7_uses_16 : decode cX7_uses 16 = .ok (.iconst 5, 1) := by decide +kernel
theorem dX7_uses_17 : decode cX7_uses 17 = .ok (.if_icmp .le 7, 3) := by decide +kernel
theorem dX7_uses_20 : decode cX7_uses 20 = .ok (.iconst 4, 1) := by decide +kernel
theorem dX7_uses_21 : decode cX7_uses 21 = .ok (.goto 4, 3) := by decide +kernel
theorem dX7_uses_24 : decode cX7_uses 24 = .ok (.iconst 5, 1) := by decide +kernel
theorem dX7_uses_25 : decode cX7_uses 25 = .ok (.invokevirtual 97, 3) := by decide +kernel
theorem dX7_uses_28 : decode cX7_uses 28 = .ok (.ireturn, 1) := by decide +kernel
theorem dX7_uses_29 : decode cX7_uses 29 = .ok (.aload_n 0, 1) := by decide +kernel
theorem dX7_uses_30 : decode cX7_uses 30 = .ok (.getfield 38, 3) := by decide +kernel
theorem dX7_uses_33 : decode cX7_uses 33 = .ok (.iload_n 1, 1) := by decide +kernel
theorem dX7_uses_34 : decode cX7_uses 34 = .ok (.dup2, 1) := by decide +kernel
theorem dX7_uses_35 : decode cX7_uses 35 = .ok (.iaload, 1) := by decide +kernel
theorem dX7_uses_36 : decode cX7_uses 36 = .ok (.iconst 1, 1) := by decide +kernel
theorem dX7_uses_37 : decode cX7_uses 37 = .ok (.iadd, 1) := by decide +kernel
theorem dX7_uses_38 : decode cX7_uses 38 = .ok (.iastore, 1) := by decide +kernel
theorem dX7_uses_39 : decode cX7_uses 39 = .ok (.iconst 0, 1) := by decide +kernel
theorem dX7_uses_40 : decode cX7_uses 40 = .ok (.ireturn, 1) := by decide +kernel
set_option maxRecDepth 20000 in
theorem ggX7_boxes_X7_fails : GoodIn wsX7_boxes wsX7_fails := goodIn_r _ [8, 9, 10, 11, 12, 7, 13, 14, 15, 16, 17, 18, 19, 20, 21, 22, 23, 24, 25, 26, 27, 28, 29, 30, 31, 32, 33, 34, 35, 36, 37, 38, 39, 40, 41] (by decide +kernel) (by decide +kernel)
set_option maxRecDepth 20000 in
theorem gX7_boxes_X7_fails : GoodIn wsX7_boxes (wsV RX7 97 RX7 yX7_fails wsX7_fails) := goodIn_app (goodIn_of _ (by decide +kernel)) ggX7_boxes_X7_fails
theorem dX7_boxes_0 : decode cX7_boxes 0 = .ok (.iload_n 1, 1) := by decide +kernel
theorem dX7_boxes_1 : decode cX7_boxes 1 = .ok (.ifCond .ge 10, 3) := by decide +kernel
theorem dX7_boxes_4 : decode cX7_boxes 4 = .ok (.aload_n 0, 1) := by decide +kernel
theorem dX7_boxes_5 : decode cX7_boxes 5 = .ok (.bipush 6, 2) := by decide +kernel
theorem dX7_boxes_7 : decode cX7_boxes 7 = .ok (.invokevirtual 97, 3) := by decide +kernel
theorem dX7_boxes_10 : decode cX7_boxes 10 = .ok (.ireturn, 1) := by decide +kernel
theorem dX7_boxes_11 : decode cX7_boxes 11 = .ok (.aload_n 0, 1) := by decide +kernel
theorem dX7_boxes_12 : decode cX7_boxes 12 = .ok (.iload_n 1, 1) := by decide +kernel
theorem dX7_boxes_13 : decode cX7_boxes 13 = .ok (.putfield 48, 3) := by decide +kernel
theorem dX7_boxes_16 : decode cX7_boxes 16 = .ok (.aload_n 0, 1) := by decide +kernel
theorem dX7_boxes_17 : decode cX7_boxes 17 = .ok (.iload_n 2, 1) := by decide +kernel
theorem dX7_boxes_18 : decode cX7_boxes 18 = .ok (.putfield 100, 3) := by decide +kernel
theorem dX7_boxes_21 : decode cX7_boxes 21 = .ok (.iconst 0, 1) := by decide +kernel
theorem dX7_boxes_22 : decode cX7_boxes 22 = .ok (.istore_n 3, 1) := by decide +kernel
theorem dX7_boxes_23 : decode cX7_boxes 23 = .ok (.iload_n 3, 1) := by decide +kernel
theorem dX7_boxes_24 : decode cX7_boxes 24 = .ok (.bipush 20, 2) := by decide +kernel
theorem dX7_boxes_26 : decode cX7_boxes 26 = .ok (.if_icmp .ge 16, 3) := by decide +kernel
theorem dX7_boxes_29 : decode cX7_boxes 29 = .ok (.aload_n 0, 1) := by decide +kernel
theorem dX7_boxes_30 : decode cX7_boxes 30 = .ok (.getfield 51, 3) := by decide +kernel
theorem dX7_boxes_33 : decode cX7_boxes 33 = .ok (.iload_n 3, 1) := by decide +kernel
theorem dX7_boxes_34 : decode cX7_boxes 34 = .ok (.iconst (-1), 1) := by decide +kernel
theorem dX7_boxes_35 : decode cX7_boxes 35 = .ok (.iastore, 1) := by decide +kernel
theorem dX7_boxes_36 : decode cX7_boxes 36 = .ok (.iinc 3 1, 3) := by decide +kernel
theorem dX7_boxes_39 : decode cX7_boxes 39 = .ok (.goto (-16), 3) := by decide +kernel
theorem dX7_boxes_42 : decode cX7_boxes 42 = .ok (.iconst 0, 1) := by decide +kernel
theorem dX7_boxes_43 : decode cX7_boxes 43 = .ok (.ireturn, 1) := by decide +kernel
set_option maxRecDepth 20000 in
theorem ggX7_grids_X7_fails : GoodIn wsX7_grids wsX7_fails := goodIn_r _ [7, 8, 9, 10, 11, 6, 12, 13, 14, 15, 16, 17, 18, 19, 20, 21, 22, 23, 24, 25, 26, 27, 28, 29, 30, 31, 32, 33, 34, 35, 36, 37, 38, 39, 40] (by decide +kernel) (by decide +kernel)
set_option maxRecDepth 20000 in
theorem gX7_grids_X7_fails : GoodIn wsX7_grids (wsV RX7 97 RX7 yX7_fails wsX7_fails) := goodIn_app (goodIn_of _ (by decide +kernel)) ggX7_grids_X7_fails
theorem dX7_grids_0 : decode cX7_grids 0 = .ok (.iload_n 1, 1) := by decide +kernel
theorem dX7_grids_1 : decode cX7_grids 1 = .ok (.ifCond .lt 7, 3) := by decide +kernel
theorem dX7_grids_4 : decode cX7_grids 4 = .ok (.iload_n 2, 1) := by decide +kernel
theorem dX7_grids_5 : decode cX7_grids 5 = .ok (.ifCond .ge 10, 3) := by decide +kernel
theorem dX7_grids_8 : decode cX7_grids 8 = .ok (.aload_n 0, 1) := by decide +kernel
theorem dX7_grids_9 : decode cX7_grids 9 = .ok (.bipush 6, 2) := by decide +kernel
theorem dX7_grids_11 : decode cX7_grids 11 = .ok (.invokevirtual 97, 3) := by decide +kernel
theorem dX7_grids_14 : decode cX7_grids 14 = .ok (.ireturn, 1) := by decide +kernel
theorem dX7_grids_15 : decode cX7_grids 15 = .ok (.aload_n 0, 1) := by decide +kernel
theorem dX7_grids_16 : decode cX7_grids 16 = .ok (.iload_n 1, 1) := by decide +kernel
theorem dX7_grids_17 : decode cX7_grids 17 = .ok (.putfield 54, 3) := by decide +kernel
theorem dX7_grids_20 : decode cX7_grids 20 = .ok (.aload_n 0, 1) := by decide +kernel
theorem dX7_grids_21 : decode cX7_grids 21 = .ok (.iload_n 2, 1) := by decide +kernel
theorem dX7_grids_22 : decode cX7_grids 22 = .ok (.putfield 87, 3) := by decide +kernel
theorem dX7_grids_25 : decode cX7_grids 25 = .ok (.iconst 0, 1) := by decide +kernel
theorem dX7_grids_26 : decode cX7_grids 26 = .ok (.ireturn, 1) := by decide +kernel
set_option maxRecDepth 20000 in
theorem ggX7_puts_X7_fails : GoodIn wsX7_puts wsX7_fails := goodIn_r _ [9, 10, 11, 12, 13, 8, 14, 15, 16, 17, 18, 19, 20, 21, 22, 23, 24, 25, 26, 27, 28, 29, 30, 31, 32, 33, 34, 35, 36, 37, 38, 39, 40, 41, 42] (by decide +kernel) (by decide +kernel)
set_option maxRecDepth 20000 in
theorem gX7_puts_X7_fails : GoodIn wsX7_puts (wsV RX7 97 RX7 yX7_fails wsX7_fails) := goodIn_app (goodIn_of _ (by decide +kernel)) ggX7_puts_X7_fails
theorem dX7_puts_0 : decode cX7_puts 0 = .ok (.iload_n 1, 1) := by decide +kernel
theorem dX7_puts_1 : decode cX7_puts 1 = .ok (.iconst 5, 1) := by decide +kernel
theorem dX7_puts_2 : decode cX7_puts 2 = .ok (.if_icmp .le 9, 3) := by decide +kernel
theorem dX7_puts_5 : decode cX7_puts 5 = .ok (.aload_n 0, 1) := by decide +kernel
theorem dX7_puts_6 : decode cX7_puts 6 = .ok (.iconst 4, 1) := by decide +kernel
theorem dX7_puts_7 : decode cX7_puts 7 = .ok (.invokevirtual 97, 3) := by decide +kernel
theorem dX7_puts_10 : decode cX7_puts 10 = .ok (.ireturn, 1) := by decide +kernel
theorem dX7_puts_11 : decode cX7_puts 11 = .ok (.aload_n 0, 1) := by decide +kernel
theorem dX7_puts_12 : decode cX7_puts 12 = .ok (.getfield 48, 3) := by decide +kernel
theorem dX7_puts_15 : decode cX7_puts 15 = .ok (.ifCond .ge 9, 3) := by decide +kernel
theorem dX7_puts_18 : decode cX7_puts 18 = .ok (.aload_n 0, 1) := by decide +kernel
theorem dX7_puts_19 : decode cX7_puts 19 = .ok (.iconst 5, 1) := by decide +kernel
theorem dX7_puts_20 : decode cX7_puts 20 = .ok (.invokevirtual 97, 3) := by decide +kernel
theorem dX7_puts_23 : decode cX7_puts 23 = .ok (.ireturn, 1) := by decide +kernel
theorem dX7_puts_24 : decode cX7_puts 24 = .ok (.iload_n 2, 1) := by decide +kernel
theorem dX7_puts_25 : decode cX7_puts 25 = .ok (.aload_n 0, 1) := by decide +kernel
theorem dX7_puts_26 : decode cX7_puts 26 = .ok (.getfield 48, 3) := by decide +kernel
theorem dX7_puts_29 : decode cX7_puts 29 = .ok (.if_icmp .lt 9, 3) := by decide +kernel
theorem dX7_puts_32 : decode cX7_puts 32 = .ok (.aload_n 0, 1) := by decide +kernel
theorem dX7_puts_33 : decode cX7_puts 33 = .ok (.iconst 4, 1) := by decide +kernel
theorem dX7_puts_34 : decode cX7_puts 34 = .ok (.invokevirtual 97, 3) := by decide +kernel
theorem dX7_puts_37 : decode cX7_puts 37 = .ok (.ireturn, 1) := by decide +kernel
theorem dX7_puts_38 : decode cX7_puts 38 = .ok (.aload_n 0, 1) := by decide +kernel
theorem dX7_puts_39 : decode cX7_puts 39 = .ok (.getfield 35, 3) := by decide +kernel
theorem dX7_puts_42 : decode cX7_puts 42 = .ok (.iload_n 1, 1) := by decide +kernel
theorem dX7_puts_43 : decode cX7_puts 43 = .ok (.iaload, 1) := by decide +kernel
theorem dX7_puts_44 : decode cX7_puts 44 = .ok (.ifCond .lt 31, 3) := by decide +kernel
theorem dX7_puts_47 : decode cX7_puts 47 = .ok (.aload_n 0, 1) := by decide +kernel
theorem dX7_puts_48 : decode cX7_puts 48 = .ok (.getfield 100, 3) := by decide +kernel
theorem dX7_puts_51 : decode cX7_puts 51 = .ok (.iconst 2, 1) := by decide +kernel
theorem dX7_puts_52 : decode cX7_puts 52 = .ok (.if_icmp .ge 23, 3) := by decide +kernel
theorem dX7_puts_55 : decode cX7_puts 55 = .ok (.aload_n 0, 1) := by decide +kernel
theorem dX7_puts_56 : decode cX7_puts 56 = .ok (.getfield 35, 3) := by decide +kernel
theorem dX7_puts_59 : decode cX7_puts 59 = .ok (.iload_n 1, 1) := by decide +kernel
theorem dX7_puts_60 : decode cX7_puts 60 = .ok (.iaload, 1) := by decide +kernel
theorem dX7_puts_61 : decode cX7_puts 61 = .ok (.aload_n 0, 1) := by decide +kernel
theorem dX7_puts_62 : decode cX7_puts 62 = .ok (.getfield 100, 3) := by decide +kernel
theorem dX7_puts_65 : decode cX7_puts 65 = .ok (.if_icmp .eq 10, 3) := by decide +kernel
theorem dX7_puts_68 : decode cX7_puts 68 = .ok (.aload_n 0, 1) := by decide +kernel
theorem dX7_puts_69 : decode cX7_puts 69 = .ok (.bipush 8, 2) := by decide +kernel
theorem dX7_puts_71 : decode cX7_puts 71 = .ok (.invokevirtual 97, 3) := by decide +kernel
theorem dX7_puts_74 : decode cX7_puts 74 = .ok (.ireturn, 1) := by decide +kernel
theorem dX7_puts_75 : decode cX7_puts 75 = .ok (.aload_n 0, 1) := by decide +kernel
theorem dX7_puts_76 : decode cX7_puts 76 = .ok (.getfield 51, 3) := by decide +kernel
theorem dX7_puts_79 : decode cX7_puts 79 = .ok (.iload_n 2, 1) := by decide +kernel
theorem dX7_puts_80 : decode cX7_puts 80 = .ok (.aload_n 0, 1) := by decide +kernel
theorem dX7_puts_81 : decode cX7_puts 81 = .ok (.getfield 35, 3) := by decide +kernel
theorem dX7_puts_84 : decode cX7_puts 84 = .ok (.iload_n 1, 1) := by decide +kernel
theorem dX7_puts_85 : decode cX7_puts 85 = .ok (.iaload, 1) := by decide +kernel
theorem dX7_puts_86 : decode cX7_puts 86 = .ok (.ifCond .ge 7, 3) := by decide +kernel
theorem dX7_puts_89 : decode cX7_puts 89 = .ok (.iconst (-1), 1) := by decide +kernel
theorem dX7_puts_90 : decode cX7_puts 90 = .ok (.goto 4, 3) := by decide +kernel
theorem dX7_puts_93 : decode cX7_puts 93 = .ok (.iload_n 1, 1) := by decide +kernel
theorem dX7_puts_94 : decode cX7_puts 94 = .ok (.iastore, 1) := by decide +kernel
theorem dX7_puts_95 : decode cX7_puts 95 = .ok (.iconst 0, 1) := by decide +kernel
theorem dX7_puts_96 : decode cX7_puts 96 = .ok (.ireturn, 1) := by decide +kernel
set_option maxRecDepth 20000 in
theorem ggX7_counts_X7_fails : GoodIn wsX7_counts wsX7_fails := goodIn_r _ [8, 9, 10, 11, 12, 7, 13, 19, 20, 21, 22, 23, 24, 25, 26, 27, 28, 29, 30, 31, 32, 33, 34, 35, 36, 37, 38, 39, 40, 41, 42, 43, 44, 45, 46] (by decide +kernel) (by decide +kernel)
set_option maxRecDepth 20000 in
theorem gX7_counts_X7_fails : GoodIn wsX7_counts (wsV RX7 97 RX7 yX7_fails wsX7_fails) := goodIn_app (goodIn_of _ (by decide +kernel)) ggX7_counts_X7_fails
set_option maxRecDepth 20000 in
theorem ggX7_counts_X7_more : GoodIn wsX7_counts wsX7_more := goodIn_r _ [17, 18, 4, 5, 6, 7, 8, 9, 10, 11, 12, 13, 19, 20, 21, 22, 23, 24, 25, 26, 27, 28, 29, 30, 31, 32, 33, 34, 35, 36, 37, 38, 39, 40, 41, 42, 43, 44, 45, 46] (by decide +kernel) (by decide +kernel)
set_option maxRecDepth 20000 in
theorem gX7_counts_X7_more : GoodIn wsX7_counts (wsV RX7 103 RX7 yX7_more wsX7_more) := goodIn_app (goodIn_of _ (by decide +kernel)) ggX7_counts_X7_more
theorem dX7_counts_0 : decode cX7_counts 0 = .ok (.iload_n 2, 1) := by decide +kernel
theorem dX7_counts_1 : decode cX7_counts 1 = .ok (.ifCond .ne 10, 3) := by decide +kernel
theorem dX7_counts_4 : decode cX7_counts 4 = .ok (.aload_n 0, 1) := by decide +kernel
theorem dX7_counts_5 : decode cX7_counts 5 = .ok (.getfield 44, 3) := by decide +kernel
theorem dX7_counts_8 : decode cX7_counts 8 = .ok (.goto 19, 3) := by decide +kernel
theorem dX7_counts_11 : decode cX7_counts 11 = .ok (.iload_n 2, 1) := by decide +kernel
theorem dX7_counts_12 : decode cX7_counts 12 = .ok (.iconst 1, 1) := by decide +kernel
theorem dX7_counts_13 : decode cX7_counts 13 = .ok (.if_icmp .ne 10, 3) := by decide +kernel
theorem dX7_counts_16 : decode cX7_counts 16 = .ok (.aload_n 0, 1) := by decide +kernel
theorem dX7_counts_17 : decode cX7_counts 17 = .ok (.getfield 48, 3) := by decide +kernel
theorem dX7_counts_20 : decode cX7_counts 20 = .ok (.goto 7, 3) := by decide +kernel
theorem dX7_counts_23 : decode cX7_counts 23 = .ok (.aload_n 0, 1) := by decide +kernel
theorem dX7_counts_24 : decode cX7_counts 24 = .ok (.getfield 54, 3) := by decide +kernel
theorem dX7_counts_27 : decode cX7_counts 27 = .ok (.istore_n 3, 1) := by decide +kernel
theorem dX7_counts_28 : decode cX7_counts 28 = .ok (.iload_n 3, 1) := by decide +kernel
theorem dX7_counts_29 : decode cX7_counts 29 = .ok (.ifCond .ge 11, 3) := by decide +kernel
theorem dX7_counts_32 : decode cX7_counts 32 = .ok (.aload_n 0, 1) := by decide +kernel
theorem dX7_counts_33 : decode cX7_counts 33 = .ok (.iconst 5, 1) := by decide +kernel
theorem dX7_counts_34 : decode cX7_counts 34 = .ok (.invokevirtual 97, 3) := by decide +kernel
theorem dX7_counts_37 : decode cX7_counts 37 = .ok (.goto 9, 3) := by decide +kernel
theorem dX7_counts_40 : decode cX7_counts 40 = .ok (.aload_n 0, 1) := by decide +kernel
theorem dX7_counts_41 : decode cX7_counts 41 = .ok (.iload_n 1, 1) := by decide +kernel
theorem dX7_counts_42 : decode cX7_counts 42 = .ok (.iload_n 3, 1) := by decide +kernel
theorem dX7_counts_43 : decode cX7_counts 43 = .ok (.invokevirtual 103, 3) := by decide +kernel
theorem dX7_counts_46 : decode cX7_counts 46 = .ok (.ireturn, 1) := by decide +kernel
set_option maxRecDepth 20000 in
theorem ggX7_raises_X7_fails : GoodIn wsX7_raises wsX7_fails := goodIn_r _ [8, 2, 3, 9, 10, 7, 11, 12, 13, 14, 15, 16, 17, 18, 19, 20, 21, 22, 23, 24, 25, 26, 27, 28, 29, 30, 31, 32, 33, 34, 35, 36, 37, 38, 39] (by decide +kernel) (by decide +kernel)
set_option maxRecDepth 20000 in
theorem gX7_raises_X7_fails : GoodIn wsX7_raises (wsV RX7 97 RX7 yX7_fails wsX7_fails) := goodIn_app (goodIn_of _ (by decide +kernel)) ggX7_raises_X7_fails
theorem dX7_raises_0 : decode cX7_raises 0 = .ok (.aload_n 0, 1) := by decide +kernel
theorem dX7_raises_1 : decode cX7_raises 1 = .ok (.getfield 57, 3) := by decide +kernel
theorem dX7_raises_4 : decode cX7_raises 4 = .ok (.iload_n 1, 1) := by decide +kernel
theorem dX7_raises_5 : decode cX7_raises 5 = .ok (.iaload, 1) := by decide +kernel
theorem dX7_raises_6 : decode cX7_raises 6 = .ok (.ifCond .ne 9, 3) := by decide +kernel
theorem dX7_raises_9 : decode cX7_raises 9 = .ok (.aload_n 0, 1) := by decide +kernel
theorem dX7_raises_10 : decode cX7_raises 10 = .ok (.iconst 5, 1) := by decide +kernel
theorem dX7_raises_11 : decode cX7_raises 11 = .ok (.invokevirtual 97, 3) := by decide +kernel
theorem dX7_raises_14 : decode cX7_raises 14 = .ok (.ireturn, 1) := by decide +kernel
theorem dX7_raises_15 : decode cX7_raises 15 = .ok (.aload_n 0, 1) := by decide +kernel
theorem dX7_raises_16 : decode cX7_raises 16 = .ok (.aload_n 0, 1) := by decide +kernel
theorem dX7_raises_17 : decode cX7_raises 17 = .ok (.getfield 57, 3) := by decide +kernel
theorem dX7_raises_20 : decode cX7_raises 20 = .ok (.iload_n 1, 1) := by decide +kernel
theorem dX7_raises_21 : decode cX7_raises 21 = .ok (.iaload, 1) := by decide +kernel
theorem dX7_raises_22 : decode cX7_raises 22 = .ok (.putfield 90, 3) := by decide +kernel
theorem dX7_raises_25 : decode cX7_raises 25 = .ok (.aload_n 0, 1) := by decide +kernel
theorem dX7_raises_26 : decode cX7_raises 26 = .ok (.iconst 0, 1) := by decide +kernel
theorem dX7_raises_27 : decode cX7_raises 27 = .ok (.putfield 93, 3) := by decide +kernel
theorem dX7_raises_30 : decode cX7_raises 30 = .ok (.iconst 5, 1) := by decide +kernel
theorem dX7_raises_31 : decode cX7_raises 31 = .ok (.ireturn, 1) := by decide +kernel
set_option maxRecDepth 20000 in
theorem ggX7_act_X7_more : GoodIn wsX7_act wsX7_more := goodIn_r _ [9, 1, 10, 11, 12, 8, 13, 14, 15, 16, 17, 18, 61, 62, 63, 64, 65, 66, 67, 68, 69, 70, 71, 72, 73, 74, 75, 76, 77, 78, 79, 80, 81, 82, 83, 84, 85, 86, 87, 88] (by decide +kernel) (by decide +kernel)
set_option maxRecDepth 20000 in
theorem gX7_act_X7_more : GoodIn wsX7_act (wsV RX7 103 RX7 yX7_more wsX7_more) := goodIn_app (goodIn_of _ (by decide +kernel)) ggX7_act_X7_more
set_option maxRecDepth 20000 in
theorem ggX7_act_X7_fails : GoodIn wsX7_act wsX7_fails := goodIn_r _ [13, 14, 15, 16, 17, 8, 18, 61, 62, 63, 64, 65, 66, 67, 68, 69, 70, 71, 72, 73, 74, 75, 76, 77, 78, 79, 80, 81, 82, 83, 84, 85, 86, 87, 88] (by decide +kernel) (by decide +kernel)
set_option maxRecDepth 20000 in
theorem gX7_act_X7_fails : GoodIn wsX7_act (wsV RX7 97 RX7 yX7_fails wsX7_fails) := goodIn_app (goodIn_of _ (by decide +kernel)) ggX7_act_X7_fails
set_option maxRecDepth 20000 in
theorem ggX7_act_X7_pours : GoodIn wsX7_act wsX7_pours := goodIn_r _ [22, 23, 1, 10, 11, 12, 8, 13, 14, 15, 16, 17, 18, 61, 62, 63, 64, 65, 66, 67, 68, 69, 70, 71, 72, 73, 74, 75, 76, 77, 78, 79, 80, 81, 82, 83, 84, 85, 86, 87, 88] (by decide +kernel) (by decide +kernel)
set_option maxRecDepth 20000 in
theorem gX7_act_X7_pours : GoodIn wsX7_act (wsV RX7 107 RX7 yX7_pours wsX7_pours) := goodIn_app (goodIn_of _ (by decide +kernel)) ggX7_act_X7_pours
set_option maxRecDepth 20000 in
theorem ggX7_act_X7_uses : GoodIn wsX7_act wsX7_uses := goodIn_r _ [27, 28, 29, 10, 11, 12, 8, 13, 14, 15, 16, 17, 18, 61, 62, 63, 64, 65, 66, 67, 68, 69, 70, 71, 72, 73, 74, 75, 76, 77, 78, 79, 80, 81, 82, 83, 84, 85, 86, 87, 88] (by decide +kernel) (by decide +kernel)
set_option maxRecDepth 20000 in
theorem gX7_act_X7_uses : GoodIn wsX7_act (wsV RX7 116 RX7 yX7_uses wsX7_uses) := goodIn_app (goodIn_of _ (by decide +kernel)) ggX7_act_X7_uses
set_option maxRecDepth 20000 in
theorem ggX7_act_X7_grips : GoodIn wsX7_act wsX7_grips := goodIn_r _ [33, 28, 34, 1, 10, 11, 12, 8, 13, 14, 15, 16, 17, 18, 61, 62, 63, 64, 65, 66, 67, 68, 69, 70, 71, 72, 73, 74, 75, 76, 77, 78, 79, 80, 81, 82, 83, 84, 85, 86, 87, 88] (by decide +kernel) (by decide +kernel)
set_option maxRecDepth 20000 in
theorem gX7_act_X7_grips : GoodIn wsX7_act (wsV RX7 118 RX7 yX7_grips wsX7_grips) := goodIn_app (goodIn_of _ (by decide +kernel)) ggX7_act_X7_grips
set_option maxRecDepth 20000 in
theorem ggX7_act_X7_boxes : GoodIn wsX7_act wsX7_boxes := goodIn_r _ [38, 39, 40, 41, 10, 11, 12, 8, 13, 14, 15, 16, 17, 18, 61, 62, 63, 64, 65, 66, 67, 68, 69, 70, 71, 72, 73, 74, 75, 76, 77, 78, 79, 80, 81, 82, 83, 84, 85, 86, 87, 88] (by decide +kernel) (by decide +kernel)
set_option maxRecDepth 20000 in
theorem gX7_act_X7_boxes : GoodIn wsX7_act (wsV RX7 120 RX7 yX7_boxes wsX7_boxes) := goodIn_app (goodIn_of _ (by decide +kernel)) ggX7_act_X7_boxes
set_option maxRecDepth 20000 in
theorem ggX7_act_X7_grids : GoodIn wsX7_act wsX7_grids := goodIn_r _ [45, 46, 47, 10, 11, 12, 8, 13, 14, 15, 16, 17, 18, 61, 62, 63, 64, 65, 66, 67, 68, 69, 70, 71, 72, 73, 74, 75, 76, 77, 78, 79, 80, 81, 82, 83, 84, 85, 86, 87, 88] (by decide +kernel) (by decide +kernel)
set_option maxRecDepth 20000 in
theorem gX7_act_X7_grids : GoodIn wsX7_act (wsV RX7 123 RX7 yX7_grids wsX7_grids) := goodIn_app (goodIn_of _ (by decide +kernel)) ggX7_act_X7_grids
set_option maxRecDepth 20000 in
theorem ggX7_act_X7_puts : GoodIn wsX7_act wsX7_puts := goodIn_r _ [51, 39, 28, 40, 41, 10, 11, 12, 8, 13, 14, 15, 16, 17, 18, 61, 62, 63, 64, 65, 66, 67, 68, 69, 70, 71, 72, 73, 74, 75, 76, 77, 78, 79, 80, 81, 82, 83, 84, 85, 86, 87, 88] (by decide +kernel) (by decide +kernel)
set_option maxRecDepth 20000 in
theorem gX7_act_X7_puts : GoodIn wsX7_act (wsV RX7 126 RX7 yX7_puts wsX7_puts) := goodIn_app (goodIn_of _ (by decide +kernel)) ggX7_act_X7_puts
set_option maxRecDepth 20000 in
theorem ggX7_act_X7_counts : GoodIn wsX7_act wsX7_counts := goodIn_r _ [55, 4, 39, 46, 10, 11, 12, 8, 13, 14, 15, 16, 17, 18, 5, 6, 7, 9, 1, 61, 62, 63, 64, 65, 66, 67, 68, 69, 70, 71, 72, 73, 74, 75, 76, 77, 78, 79, 80, 81, 82, 83, 84, 85, 86, 87, 88] (by decide +kernel) (by decide +kernel)
set_option maxRecDepth 20000 in
theorem gX7_act_X7_counts : GoodIn wsX7_act (wsV RX7 129 RX7 yX7_counts wsX7_counts) := goodIn_app (goodIn_of _ (by decide +kernel)) ggX7_act_X7_counts
set_option maxRecDepth 20000 in
theorem ggX7_act_X7_raises : GoodIn wsX7_act wsX7_raises := goodIn_r _ [59, 60, 14, 15, 10, 11, 12, 8, 13, 16, 17, 18, 61, 62, 63, 64, 65, 66, 67, 68, 69, 70, 71, 72, 73, 74, 75, 76, 77, 78, 79, 80, 81, 82, 83, 84, 85, 86, 87, 88] (by decide +kernel) (by decide +kernel)
set_option maxRecDepth 20000 in
theorem gX7_act_X7_raises : GoodIn wsX7_act (wsV RX7 132 RX7 yX7_raises wsX7_raises) := goodIn_app (goodIn_of _ (by decide +kernel)) ggX7_act_X7_raises
end
section
theorem dX7_act_0 : decode cX7_act 0 = .ok (.iload_n 1, 1) := by decide +kernel
theorem dX7_act_1 : decode cX7_act 1 = .ok (.tableswitch 287 0 16 #[83, 90, 118, 144, 151, 153, 155, 162, 171, 187, 201, 207, 214, 237, 250, 267, 280], 83) := by decide +kernel
theorem dX7_act_84 : decode cX7_act 84 = .ok (.aload_n 0, 1) := by decide +kernel
theorem dX7_act_85 : decode cX7_act 85 = .ok (.iload_n 3, 1) := by decide +kernel
theorem dX7_act_86 : decode cX7_act 86 = .ok (.iload_n 2, 1) := by decide +kernel
theorem dX7_act_87 : decode cX7_act 87 = .ok (.invokevirtual 103, 3) := by decide +kernel
theorem dX7_act_90 : decode cX7_act 90 = .ok (.ireturn, 1) := by decide +kernel
theorem dX7_act_91 : decode cX7_act 91 = .ok (.aload_n 0, 1) := by decide +kernel
theorem dX7_act_92 : decode cX7_act 92 = .ok (.getfield 13, 3) := by decide +kernel
theorem dX7_act_95 : decode cX7_act 95 = .ok (.iload_n 3, 1) := by decide +kernel
theorem dX7_act_96 : decode cX7_act 96 = .ok (.iaload, 1) := by decide +kernel
theorem dX7_act_97 : decode cX7_act 97 = .ok (.iload_n 2, 1) := by decide +kernel
theorem dX7_act_98 : decode cX7_act 98 = .ok (.if_icmp .ge 9, 3) := by decide +kernel
theorem dX7_act_101 : decode cX7_act 101 = .ok (.aload_n 0, 1) := by decide +kernel
theorem dX7_act_102 : decode cX7_act 102 = .ok (.iconst 2, 1) := by decide +kernel
theorem dX7_act_103 : decode cX7_act 103 = .ok (.invokevirtual 97, 3) := by decide +kernel
theorem dX7_act_106 : decode cX7_act 106 = .ok (.ireturn, 1) := by decide +kernel
theorem dX7_act_107 : decode cX7_act 107 = .ok (.aload_n 0, 1) := by decide +kernel
theorem dX7_act_108 : decode cX7_act 108 = .ok (.getfield 13, 3) := by decide +kernel
theorem dX7_act_111 : decode cX7_act 111 = .ok (.iload_n 3, 1) := by decide +kernel
theorem dX7_act_112 : decode cX7_act 112 = .ok (.dup2, 1) := by decide +kernel
theorem dX7_act_113 : decode cX7_act 113 = .ok (.iaload, 1) := by decide +kernel
theorem dX7_act_114 : decode cX7_act 114 = .ok (.iload_n 2, 1) := by decide +kernel
theorem dX7_act_115 : decode cX7_act 115 = .ok (.isub, 1) := by decide +kernel
theorem dX7_act_116 : decode cX7_act 116 = .ok (.iastore, 1) := by decide +kernel
theorem dX7_act_117 : decode cX7_act 117 = .ok (.iconst 0, 1) := by decide +kernel
theorem dX7_act_118 : decode cX7_act 118 = .ok (.ireturn, 1) := by decide +kernel
theorem dX7_act_119 : decode cX7_act 119 = .ok (.iload_n 2, 1) := by decide +kernel
theorem dX7_act_120 : decode cX7_act 120 = .ok (.ifCond .ne 9, 3) := by decide +kernel
theorem dX7_act_123 : decode cX7_act 123 = .ok (.aload_n 0, 1) := by decide +kernel
theorem dX7_act_124 : decode cX7_act 124 = .ok (.iconst 3, 1) := by decide +kernel
theorem dX7_act_125 : decode cX7_act 125 = .ok (.invokevirtual 97, 3) := by decide +kernel
theorem dX7_act_128 : decode cX7_act 128 = .ok (.ireturn, 1) := by decide +kernel
theorem dX7_act_129 : decode cX7_act 129 = .ok (.aload_n 0, 1) := by decide +kernel
theorem dX7_act_130 : decode cX7_act 130 = .ok (.getfield 13, 3) := by decide +kernel
theorem dX7_act_133 : decode cX7_act 133 = .ok (.iload_n 3, 1) := by decide +kernel
theorem dX7_act_134 : decode cX7_act 134 = .ok (.aload_n 0, 1) := by decide +kernel
theorem dX7_act_135 : decode cX7_act 135 = .ok (.getfield 13, 3) := by decide +kernel
theorem dX7_act_138 : decode cX7_act 138 = .ok (.iload_n 3, 1) := by decide +kernel
theorem dX7_act_139 : decode cX7_act 139 = .ok (.iaload, 1) := by decide +kernel
theorem dX7_act_140 : decode cX7_act 140 = .ok (.iload_n 2, 1) := by decide +kernel
theorem dX7_act_141 : decode cX7_act 141 = .ok (.idiv, 1) := by decide +kernel
theorem dX7_act_142 : decode cX7_act 142 = .ok (.iastore, 1) := by decide +kernel
theorem dX7_act_143 : decode cX7_act 143 = .ok (.iconst 0, 1) := by decide +kernel
theorem dX7_act_144 : decode cX7_act 144 = .ok (.ireturn, 1) := by decide +kernel
theorem dX7_act_145 : decode cX7_act 145 = .ok (.aload_n 0, 1) := by decide +kernel
theorem dX7_act_146 : decode cX7_act 146 = .ok (.iload_n 3, 1) := by decide +kernel
theorem dX7_act_147 : decode cX7_act 147 = .ok (.iload_n 2, 1) := by decide +kernel
theorem dX7_act_148 : decode cX7_act 148 = .ok (.invokevirtual 107, 3) := by decide +kernel
theorem dX7_act_151 : decode cX7_act 151 = .ok (.ireturn, 1) := by decide +kernel
theorem dX7_act_152 : decode cX7_act 152 = .ok (.iconst 1, 1) := by decide +kernel
theorem dX7_act_153 : decode cX7_act 153 = .ok (.ireturn, 1) := by decide +kernel
theorem dX7_act_154 : decode cX7_act 154 = .ok (.iconst 3, 1) := by decide +kernel
theorem dX7_act_155 : decode cX7_act 155 = .ok (.ireturn, 1) := by decide +kernel
theorem dX7_act_156 : decode cX7_act 156 = .ok (.aload_n 0, 1) := by decide +kernel
theorem dX7_act_157 : decode cX7_act 157 = .ok (.iload_n 2, 1) := by decide +kernel
theorem dX7_act_158 : decode cX7_act 158 = .ok (.putfield 110, 3) := by decide +kernel
theorem dX7_act_161 : decode cX7_act 161 = .ok (.iconst 4, 1) := by decide +kernel
theorem dX7_act_162 : decode cX7_act 162 = .ok (.ireturn, 1) := by decide +kernel
theorem dX7_act_163 : decode cX7_act 163 = .ok (.aload_n 0, 1) := by decide +kernel
theorem dX7_act_164 : decode cX7_act 164 = .ok (.bipush 10, 2) := by decide +kernel
theorem dX7_act_166 : decode cX7_act 166 = .ok (.iload_n 2, 1) := by decide +kernel
theorem dX7_act_167 : decode cX7_act 167 = .ok (.iadd, 1) := by decide +kernel
theorem dX7_act_168 : decode cX7_act 168 = .ok (.invokevirtual 97, 3) := by decide +kernel
theorem dX7_act_171 : decode cX7_act 171 = .ok (.ireturn, 1) := by decide +kernel
theorem dX7_act_172 : decode cX7_act 172 = .ok (.aload_n 0, 1) := by decide +kernel
theorem dX7_act_173 : decode cX7_act 173 = .ok (.getfield 13, 3) := by decide +kernel
theorem dX7_act_176 : decode cX7_act 176 = .ok (.iload_n 3, 1) := by decide +kernel
theorem dX7_act_177 : decode cX7_act 177 = .ok (.iaload, 1) := by decide +kernel
theorem dX7_act_178 : decode cX7_act 178 = .ok (.iload_n 2, 1) := by decide +kernel
theorem dX7_act_179 : decode cX7_act 179 = .ok (.if_icmp .ge 7, 3) := by decide +kernel
theorem dX7_act_182 : decode cX7_act 182 = .ok (.iconst 1, 1) := by decide +kernel
theorem dX7_act_183 : decode cX7_act 183 = .ok (.goto 4, 3) := by decide +kernel
theorem dX7_act_186 : decode cX7_act 186 = .ok (.iconst 0, 1) := by decide +kernel
theorem dX7_act_187 : decode cX7_act 187 = .ok (.ireturn, 1) := by decide +kernel
theorem dX7_act_188 : decode cX7_act 188 = .ok (.aload_n 0, 1) := by decide +kernel
theorem dX7_act_189 : decode cX7_act 189 = .ok (.getfield 113, 3) := by decide +kernel
theorem dX7_act_192 : decode cX7_act 192 = .ok (.iload_n 2, 1) := by decide +kernel
theorem dX7_act_193 : decode cX7_act 193 = .ok (.if_icmp .ge 7, 3) := by decide +kernel
theorem dX7_act_196 : decode cX7_act 196 = .ok (.iconst 2, 1) := by decide +kernel
theorem dX7_act_197 : decode cX7_act 197 = .ok (.goto 4, 3) := by decide +kernel
theorem dX7_act_200 : decode cX7_act 200 = .ok (.iconst 0, 1) := by decide +kernel
theorem dX7_act_201 : decode cX7_act 201 = .ok (.ireturn, 1) := by decide +kernel
theorem dX7_act_202 : decode cX7_act 202 = .ok (.aload_n 0, 1) := by decide +kernel
theorem dX7_act_203 : decode cX7_act 203 = .ok (.iload_n 2, 1) := by decide +kernel
theorem dX7_act_204 : decode cX7_act 204 = .ok (.invokevirtual 116, 3) := by decide +kernel
theorem dX7_act_207 : decode cX7_act 207 = .ok (.ireturn, 1) := by decide +kernel
theorem dX7_act_208 : decode cX7_act 208 = .ok (.aload_n 0, 1) := by decide +kernel
theorem dX7_act_209 : decode cX7_act 209 = .ok (.iload_n 2, 1) := by decide +kernel
theorem dX7_act_210 : decode cX7_act 210 = .ok (.iload_n 3, 1) := by decide +kernel
theorem dX7_act_211 : decode cX7_act 211 = .ok (.invokevirtual 118, 3) := by decide +kernel
theorem dX7_act_214 : decode cX7_act 214 = .ok (.ireturn, 1) := by decide +kernel
theorem dX7_act_215 : decode cX7_act 215 = .ok (.iload_n 2, 1) := by decide +kernel
theorem dX7_act_216 : decode cX7_act 216 = .ok (.bipush 10, 2) := by decide +kernel
theorem dX7_act_218 : decode cX7_act 218 = .ok (.if_icmp .ge 10, 3) := by decide +kernel
theorem dX7_act_221 : decode cX7_act 221 = .ok (.aload_n 0, 1) := by decide +kernel
theorem dX7_act_222 : decode cX7_act 222 = .ok (.bipush 6, 2) := by decide +kernel
theorem dX7_act_224 : decode cX7_act 224 = .ok (.invokevirtual 97, 3) := by decide +kernel
theorem dX7_act_227 : decode cX7_act 227 = .ok (.ireturn, 1) := by decide +kernel
theorem dX7_act_228 : decode cX7_act 228 = .ok (.aload_n 0, 1) := by decide +kernel
theorem dX7_act_229 : decode cX7_act 229 = .ok (.iload_n 2, 1) := by decide +kernel
theorem dX7_act_230 : decode cX7_act 230 = .ok (.bipush 10, 2) := by decide +kernel
theorem dX7_act_232 : decode cX7_act 232 = .ok (.isub, 1) := by decide +kernel
theorem dX7_act_233 : decode cX7_act 233 = .ok (.putfield 44, 3) := by decide +kernel
theorem dX7_act_236 : decode cX7_act 236 = .ok (.iconst 0, 1) := by decide +kernel
theorem dX7_act_237 : decode cX7_act 237 = .ok (.ireturn, 1) := by decide +kernel
theorem dX7_act_238 : decode cX7_act 238 = .ok (.aload_n 0, 1) := by decide +kernel
theorem dX7_act_239 : decode cX7_act 239 = .ok (.iload_n 2, 1) := by decide +kernel
theorem dX7_act_240 : decode cX7_act 240 = .ok (.iconst 3, 1) := by decide +kernel
theorem dX7_act_241 : decode cX7_act 241 = .ok (.idiv, 1) := by decide +kernel
theorem dX7_act_242 : decode cX7_act 242 = .ok (.iconst 2, 1) := by decide +kernel
theorem dX7_act_243 : decode cX7_act 243 = .ok (.isub, 1) := by decide +kernel
theorem dX7_act_244 : decode cX7_act 244 = .ok (.iload_n 2, 1) := by decide +kernel
theorem dX7_act_245 : decode cX7_act 245 = .ok (.iconst 3, 1) := by decide +kernel
theorem dX7_act_246 : decode cX7_act 246 = .ok (.irem, 1) := by decide +kernel
theorem dX7_act_247 : decode cX7_act 247 = .ok (.invokevirtual 120, 3) := by decide +kernel
theorem dX7_act_250 : decode cX7_act 250 = .ok (.ireturn, 1) := by decide +kernel
theorem dX7_act_251 : decode cX7_act 251 = .ok (.aload_n 0, 1) := by decide +kernel
theorem dX7_act_252 : decode cX7_act 252 = .ok (.iload_n 2, 1) := by decide +kernel
theorem dX7_act_253 : decode cX7_act 253 = .ok (.bipush 6, 2) := by decide +kernel
theorem dX7_act_255 : decode cX7_act 255 = .ok (.idiv, 1) := by decide +kernel
theorem dX7_act_256 : decode cX7_act 256 = .ok (.iconst 1, 1) := by decide +kernel
theorem dX7_act_257 : decode cX7_act 257 = .ok (.isub, 1) := by decide +kernel
theorem dX7_act_258 : decode cX7_act 258 = .ok (.iload_n 2, 1) := by decide +kernel
theorem dX7_act_259 : decode cX7_act 259 = .ok (.bipush 6, 2) := by decide +kernel
theorem dX7_act_261 : decode cX7_act 261 = .ok (.irem, 1) := by decide +kernel
theorem dX7_act_262 : decode cX7_act 262 = .ok (.iconst 1, 1) := by decide +kernel
theorem dX7_act_263 : decode cX7_act 263 = .ok (.isub, 1) := by decide +kernel
theorem dX7_act_264 : decode cX7_act 264 = .ok (.invokevirtual 123, 3) := by decide +kernel
theorem dX7_act_267 : decode cX7_act 267 = .ok (.ireturn, 1) := by decide +kernel
theorem dX7_act_268 : decode cX7_act 268 = .ok (.aload_n 0, 1) := by decide +kernel
theorem dX7_act_269 : decode cX7_act 269 = .ok (.iload_n 2, 1) := by decide +kernel
theorem dX7_act_270 : decode cX7_act 270 = .ok (.bipush 10, 2) := by decide +kernel
theorem dX7_act_272 : decode cX7_act 272 = .ok (.irem, 1) := by decide +kernel
theorem dX7_act_273 : decode cX7_act 273 = .ok (.iload_n 2, 1) := by decide +kernel
theorem dX7_act_274 : decode cX7_act 274 = .ok (.bipush 10, 2) := by decide +kernel
theorem dX7_act_276 : decode cX7_act 276 = .ok (.idiv, 1) := by decide +kernel
theorem dX7_act_277 : decode cX7_act 277 = .ok (.invokevirtual 126, 3) := by decide +kernel
theorem dX7_act_280 : decode cX7_act 280 = .ok (.ireturn, 1) := by decide +kernel
theorem dX7_act_281 : decode cX7_act 281 = .ok (.aload_n 0, 1) := by decide +kernel
theorem dX7_act_282 : decode cX7_act 282 = .ok (.iload_n 3, 1) := by decide +kernel
theorem dX7_act_283 : decode cX7_act 283 = .ok (.iload_n 2, 1) := by decide +kernel
theorem dX7_act_284 : decode cX7_act 284 = .ok (.invokevirtual 129, 3) := by decide +kernel
theorem dX7_act_287 : decode cX7_act 287 = .ok (.ireturn, 1) := by decide +kernel
theorem dX7_act_288 : decode cX7_act 288 = .ok (.aload_n 0, 1) := by decide +kernel
theorem dX7_act_289 : decode cX7_act 289 = .ok (.iload_n 2, 1) := by decide +kernel
theorem dX7_act_290 : decode cX7_act 290 = .ok (.invokevirtual 132, 3) := by decide +kernel
theorem dX7_act_293 : decode cX7_act 293 = .ok (.ireturn, 1) := by decide +kernel
set_option maxRecDepth 20000 in
theorem ggX7_goes_X7_mark : GoodIn wsX7_goes wsX7_mark := goodIn_r _ [11, 4, 12, 75, 76, 77, 78, 79, 80, 81, 82, 83, 84, 85, 86, 87, 88, 89, 90, 91, 92, 93, 94, 95, 96, 97, 98, 99, 100, 101, 102] (by decide +kernel) (by decide +kernel)
set_option maxRecDepth 20000 in
theorem gX7_goes_X7_mark : GoodIn wsX7_goes (wsV RX7 135 RX7 yX7_mark wsX7_mark) := goodIn_app (goodIn_of _ (by decide +kernel)) ggX7_goes_X7_mark
set_option maxRecDepth 20000 in
theorem ggX7_goes_X7_act : GoodIn wsX7_goes wsX7_act := goodIn_r _ [16, 17, 18, 2, 19, 20, 21, 22, 10, 23, 24, 25, 26, 27, 28, 29, 30, 31, 32, 33, 34, 35, 36, 37, 38, 39, 40, 41, 42, 43, 44, 45, 46, 47, 48, 49, 50, 51, 52, 53, 54, 55, 56, 57, 58, 59, 60, 61, 62, 63, 64, 65, 66, 67, 68, 69, 70, 71, 72, 73, 74, 75, 76, 77, 78, 79, 80, 81, 82, 83, 84, 85, 86, 87, 88, 89, 90, 91, 92, 93, 94, 95, 96, 97, 98, 99, 100, 101, 102] (by decide +kernel) (by decide +kernel)
set_option maxRecDepth 20000 in
theorem gX7_goes_X7_act : GoodIn wsX7_goes (wsV RX7 139 RX7 yX7_act wsX7_act) := goodIn_app (goodIn_of _ (by decide +kernel)) ggX7_goes_X7_act
theorem dX7_goes_0 : decode cX7_goes 0 = .ok (.aload_n 0, 1) := by decide +kernel
theorem dX7_goes_1 : decode cX7_goes 1 = .ok (.getfield 23, 3) := by decide +kernel
theorem dX7_goes_4 : decode cX7_goes 4 = .ok (.iload_n 1, 1) := by decide +kernel
theorem dX7_goes_5 : decode cX7_goes 5 = .ok (.iaload, 1) := by decide +kernel
theorem dX7_goes_6 : decode cX7_goes 6 = .ok (.istore_n 2, 1) := by decide +kernel
theorem dX7_goes_7 : decode cX7_goes 7 = .ok (.aload_n 0, 1) := by decide +kernel
theorem dX7_goes_8 : decode cX7_goes 8 = .ok (.iconst 0, 1) := by decide +kernel
theorem dX7_goes_9 : decode cX7_goes 9 = .ok (.putfield 113, 3) := by decide +kernel
theorem dX7_goes_12 : decode cX7_goes 12 = .ok (.iconst 0, 1) := by decide +kernel
theorem dX7_goes_13 : decode cX7_goes 13 = .ok (.istore_n 3, 1) := by decide +kernel
theorem dX7_goes_14 : decode cX7_goes 14 = .ok (.iload_n 3, 1) := by decide +kernel
theorem dX7_goes_15 : decode cX7_goes 15 = .ok (.aload_n 0, 1) := by decide +kernel
theorem dX7_goes_16 : decode cX7_goes 16 = .ok (.getfield 26, 3) := by decide +kernel
theorem dX7_goes_19 : decode cX7_goes 19 = .ok (.iload_n 1, 1) := by decide +kernel
theorem dX7_goes_20 : decode cX7_goes 20 = .ok (.iaload, 1) := by decide +kernel
theorem dX7_goes_21 : decode cX7_goes 21 = .ok (.if_icmp .ge 93, 3) := by decide +kernel
theorem dX7_goes_24 : decode cX7_goes 24 = .ok (.aload_n 0, 1) := by decide +kernel
theorem dX7_goes_25 : decode cX7_goes 25 = .ok (.getfield 60, 3) := by decide +kernel
theorem dX7_goes_28 : decode cX7_goes 28 = .ok (.iconst 4, 1) := by decide +kernel
theorem dX7_goes_29 : decode cX7_goes 29 = .ok (.iaload, 1) := by decide +kernel
theorem dX7_goes_30 : decode cX7_goes 30 = .ok (.sipush 200, 3) := by decide +kernel
theorem dX7_goes_33 : decode cX7_goes 33 = .ok (.if_icmp .ne 6, 3) := by decide +kernel
theorem dX7_goes_36 : decode cX7_goes 36 = .ok (.bipush 6, 2) := by decide +kernel
theorem dX7_goes_38 : decode cX7_goes 38 = .ok (.ireturn, 1) := by decide +kernel
theorem dX7_goes_39 : decode cX7_goes 39 = .ok (.aload_n 0, 1) := by decide +kernel
theorem dX7_goes_40 : decode cX7_goes 40 = .ok (.iconst 5, 1) := by decide +kernel
theorem dX7_goes_41 : decode cX7_goes 41 = .ok (.invokevirtual 135, 3) := by decide +kernel
theorem dX7_goes_44 : decode cX7_goes 44 = .ok (.aload_n 0, 1) := by decide +kernel
theorem dX7_goes_45 : decode cX7_goes 45 = .ok (.aload_n 0, 1) := by decide +kernel
theorem dX7_goes_46 : decode cX7_goes 46 = .ok (.getfield 29, 3) := by decide +kernel
theorem dX7_goes_49 : decode cX7_goes 49 = .ok (.bipush 8, 2) := by decide +kernel
theorem dX7_goes_51 : decode cX7_goes 51 = .ok (.iload_n 1, 1) := by decide +kernel
theorem dX7_goes_52 : decode cX7_goes 52 = .ok (.imul, 1) := by decide +kernel
theorem dX7_goes_53 : decode cX7_goes 53 = .ok (.iload_n 3, 1) := by decide +kernel
theorem dX7_goes_54 : decode cX7_goes 54 = .ok (.iadd, 1) := by decide +kernel
theorem dX7_goes_55 : decode cX7_goes 55 = .ok (.iaload, 1) := by decide +kernel
theorem dX7_goes_56 : decode cX7_goes 56 = .ok (.aload_n 0, 1) := by decide +kernel
theorem dX7_goes_57 : decode cX7_goes 57 = .ok (.getfield 32, 3) := by decide +kernel
theorem dX7_goes_60 : decode cX7_goes 60 = .ok (.bipush 8, 2) := by decide +kernel
theorem dX7_goes_62 : decode cX7_goes 62 = .ok (.iload_n 1, 1) := by decide +kernel
theorem dX7_goes_63 : decode cX7_goes 63 = .ok (.imul, 1) := by decide +kernel
theorem dX7_goes_64 : decode cX7_goes 64 = .ok (.iload_n 3, 1) := by decide +kernel
theorem dX7_goes_65 : decode cX7_goes 65 = .ok (.iadd, 1) := by decide +kernel
theorem dX7_goes_66 : decode cX7_goes 66 = .ok (.iaload, 1) := by decide +kernel
theorem dX7_goes_67 : decode cX7_goes 67 = .ok (.iload_n 2, 1) := by decide +kernel
theorem dX7_goes_68 : decode cX7_goes 68 = .ok (.invokevirtual 139, 3) := by decide +kernel
theorem dX7_goes_71 : decode cX7_goes 71 = .ok (.istore 4, 2) := by decide +kernel
theorem dX7_goes_73 : decode cX7_goes 73 = .ok (.aload_n 0, 1) := by decide +kernel
theorem dX7_goes_74 : decode cX7_goes 74 = .ok (.bipush 6, 2) := by decide +kernel
theorem dX7_goes_76 : decode cX7_goes 76 = .ok (.invokevirtual 135, 3) := by decide +kernel
theorem dX7_goes_79 : decode cX7_goes 79 = .ok (.iinc 3 1, 3) := by decide +kernel
theorem dX7_goes_82 : decode cX7_goes 82 = .ok (.iload 4, 2) := by decide +kernel
theorem dX7_goes_84 : decode cX7_goes 84 = .ok (.iconst 2, 1) := by decide +kernel
theorem dX7_goes_85 : decode cX7_goes 85 = .ok (.if_icmp .ne 18, 3) := by decide +kernel
theorem dX7_goes_88 : decode cX7_goes 88 = .ok (.aload_n 0, 1) := by decide +kernel
theorem dX7_goes_89 : decode cX7_goes 89 = .ok (.dup, 1) := by decide +kernel
theorem dX7_goes_90 : decode cX7_goes 90 = .ok (.getfield 113, 3) := by decide +kernel
theorem dX7_goes_93 : decode cX7_goes 93 = .ok (.iconst 1, 1) := by decide +kernel
theorem dX7_goes_94 : decode cX7_goes 94 = .ok (.iadd, 1) := by decide +kernel
theorem dX7_goes_95 : decode cX7_goes 95 = .ok (.putfield 113, 3) := by decide +kernel
theorem dX7_goes_98 : decode cX7_goes 98 = .ok (.iconst 0, 1) := by decide +kernel
theorem dX7_goes_99 : decode cX7_goes 99 = .ok (.istore_n 3, 1) := by decide +kernel
theorem dX7_goes_100 : decode cX7_goes 100 = .ok (.goto 11, 3) := by decide +kernel
theorem dX7_goes_103 : decode cX7_goes 103 = .ok (.iload 4, 2) := by decide +kernel
theorem dX7_goes_105 : decode cX7_goes 105 = .ok (.ifCond .eq 6, 3) := by decide +kernel
theorem dX7_goes_108 : decode cX7_goes 108 = .ok (.iload 4, 2) := by decide +kernel
theorem dX7_goes_110 : decode cX7_goes 110 = .ok (.ireturn, 1) := by decide +kernel
theorem dX7_goes_111 : decode cX7_goes 111 = .ok (.goto (-97), 3) := by decide +kernel
theorem dX7_goes_114 : decode cX7_goes 114 = .ok (.iconst 0, 1) := by decide +kernel
theorem dX7_goes_115 : decode cX7_goes 115 = .ok (.ireturn, 1) := by decide +kernel
set_option maxRecDepth 20000 in
theorem ggX7_does_X7_fails : GoodIn wsX7_does wsX7_fails := goodIn_r _ [7, 8, 9, 10, 11, 6, 12, 79, 80, 81, 82, 83, 84, 85, 86, 87, 88, 89, 90, 91, 92, 93, 94, 95, 96, 97, 98, 99, 100, 101, 102, 103, 104, 105, 106] (by decide +kernel) (by decide +kernel)
set_option maxRecDepth 20000 in
theorem gX7_does_X7_fails : GoodIn wsX7_does (wsV RX7 97 RX7 yX7_fails wsX7_fails) := goodIn_app (goodIn_of _ (by decide +kernel)) ggX7_does_X7_fails
set_option maxRecDepth 20000 in
theorem ggX7_does_X7_mark : GoodIn wsX7_does wsX7_mark := goodIn_r _ [16, 17, 18, 79, 80, 81, 82, 83, 84, 85, 86, 87, 88, 89, 90, 91, 92, 93, 94, 95, 96, 97, 98, 99, 100, 101, 102, 103, 104, 105, 106] (by decide +kernel) (by decide +kernel)
set_option maxRecDepth 20000 in
theorem gX7_does_X7_mark : GoodIn wsX7_does (wsV RX7 135 RX7 yX7_mark wsX7_mark) := goodIn_app (goodIn_of _ (by decide +kernel)) ggX7_does_X7_mark
set_option maxRecDepth 20000 in
theorem ggX7_does_X7_goes : GoodIn wsX7_does wsX7_goes := goodIn_r _ [22, 1, 23, 24, 17, 25, 26, 13, 14, 15, 6, 16, 18, 27, 28, 29, 30, 31, 32, 33, 34, 35, 36, 37, 3, 4, 5, 7, 8, 9, 10, 11, 12, 38, 39, 40, 41, 2, 42, 43, 44, 45, 46, 47, 48, 49, 50, 51, 52, 53, 54, 55, 56, 57, 58, 59, 60, 61, 62, 63, 64, 65, 66, 67, 68, 69, 70, 71, 72, 73, 74, 75, 76, 77, 78, 79, 80, 81, 82, 83, 84, 85, 86, 87, 88, 89, 90, 91, 92, 93, 94, 95, 96, 97, 98, 99, 100, 101, 102, 103, 104, 105, 106] (by decide +kernel) (by decide +kernel)
set_option maxRecDepth 20000 in
theorem gX7_does_X7_goes : GoodIn wsX7_does (wsV RX7 143 RX7 yX7_goes wsX7_goes) := goodIn_app (goodIn_of _ (by decide +kernel)) ggX7_does_X7_goes
theorem dX7_does_0 : decode cX7_does 0 = .ok (.aload_n 0, 1) := by decide +kernel
theorem dX7_does_1 : decode cX7_does 1 = .ok (.getfield 23, 3) := by decide +kernel
theorem dX7_does_4 : decode cX7_does 4 = .ok (.iload_n 1, 1) := by decide +kernel
theorem dX7_does_5 : decode cX7_does 5 = .ok (.iaload, 1) := by decide +kernel
theorem dX7_does_6 : decode cX7_does 6 = .ok (.istore_n 2, 1) := by decide +kernel
theorem dX7_does_7 : decode cX7_does 7 = .ok (.iload_n 2, 1) := by decide +kernel
theorem dX7_does_8 : decode cX7_does 8 = .ok (.bipush 7, 2) := by decide +kernel
theorem dX7_does_10 : decode cX7_does 10 = .ok (.if_icmp .gt 12, 3) := by decide +kernel
theorem dX7_does_13 : decode cX7_does 13 = .ok (.aload_n 0, 1) := by decide +kernel
theorem dX7_does_14 : decode cX7_does 14 = .ok (.getfield 7, 3) := by decide +kernel
theorem dX7_does_17 : decode cX7_does 17 = .ok (.iload_n 2, 1) := by decide +kernel
theorem dX7_does_18 : decode cX7_does 18 = .ok (.baload, 1) := by decide +kernel
theorem dX7_does_19 : decode cX7_does 19 = .ok (.ifCond .ne 19, 3) := by decide +kernel
theorem dX7_does_22 : decode cX7_does 22 = .ok (.aload_n 0, 1) := by decide +kernel
theorem dX7_does_23 : decode cX7_does 23 = .ok (.iload_n 2, 1) := by decide +kernel
theorem dX7_does_24 : decode cX7_does 24 = .ok (.bipush 7, 2) := by decide +kernel
theorem dX7_does_26 : decode cX7_does 26 = .ok (.if_icmp .le 7, 3) := by decide +kernel
theorem dX7_does_29 : decode cX7_does 29 = .ok (.iconst 4, 1) := by decide +kernel
theorem dX7_does_30 : decode cX7_does 30 = .ok (.goto 4, 3) := by decide +kernel
theorem dX7_does_33 : decode cX7_does 33 = .ok (.iconst 5, 1) := by decide +kernel
theorem dX7_does_34 : decode cX7_does 34 = .ok (.invokevirtual 97, 3) := by decide +kernel
theorem dX7_does_37 : decode cX7_does 37 = .ok (.ireturn, 1) := by decide +kernel
theorem dX7_does_38 : decode cX7_does 38 = .ok (.aload_n 0, 1) := by decide +kernel
theorem dX7_does_39 : decode cX7_does 39 = .ok (.iconst 3, 1) := by decide +kernel
theorem dX7_does_40 : decode cX7_does 40 = .ok (.invokevirtual 135, 3) := by decide +kernel
theorem dX7_does_43 : decode cX7_does 43 = .ok (.aload_n 0, 1) := by decide +kernel
theorem dX7_does_44 : decode cX7_does 44 = .ok (.iload_n 1, 1) := by decide +kernel
theorem dX7_does_45 : decode cX7_does 45 = .ok (.invokevirtual 143, 3) := by decide +kernel
theorem dX7_does_48 : decode cX7_does 48 = .ok (.istore_n 3, 1) := by decide +kernel
theorem dX7_does_49 : decode cX7_does 49 = .ok (.aload_n 0, 1) := by decide +kernel
theorem dX7_does_50 : decode cX7_does 50 = .ok (.iconst 4, 1) := by decide +kernel
theorem dX7_does_51 : decode cX7_does 51 = .ok (.invokevirtual 135, 3) := by decide +kernel
theorem dX7_does_54 : decode cX7_does 54 = .ok (.iload_n 3, 1) := by decide +kernel
theorem dX7_does_55 : decode cX7_does 55 = .ok (.ireturn, 1) := by decide +kernel
theorem dX7_reasons_0 : decode cX7_reasons 0 = .ok (.aload_n 0, 1) := by decide +kernel
theorem dX7_reasons_1 : decode cX7_reasons 1 = .ok (.getfield 69, 3) := by decide +kernel
theorem dX7_reasons_4 : decode cX7_reasons 4 = .ok (.iconst 0, 1) := by decide +kernel
theorem dX7_reasons_5 : decode cX7_reasons 5 = .ok (.iload_n 1, 1) := by decide +kernel
theorem dX7_reasons_6 : decode cX7_reasons 6 = .ok (.iastore, 1) := by decide +kernel
theorem dX7_reasons_7 : decode cX7_reasons 7 = .ok (.aload_n 0, 1) := by decide +kernel
theorem dX7_reasons_8 : decode cX7_reasons 8 = .ok (.iconst 1, 1) := by decide +kernel
theorem dX7_reasons_9 : decode cX7_reasons 9 = .ok (.putfield 146, 3) := by decide +kernel
theorem dX7_reasons_12 : decode cX7_reasons 12 = .ok (.aload_n 0, 1) := by decide +kernel
theorem dX7_reasons_13 : decode cX7_reasons 13 = .ok (.getfield 93, 3) := by decide +kernel
theorem dX7_reasons_16 : decode cX7_reasons 16 = .ok (.ifCond .eq 18, 3) := by decide +kernel
theorem dX7_reasons_19 : decode cX7_reasons 19 = .ok (.aload_n 0, 1) := by decide +kernel
theorem dX7_reasons_20 : decode cX7_reasons 20 = .ok (.getfield 69, 3) := by decide +kernel
theorem dX7_reasons_23 : decode cX7_reasons 23 = .ok (.iconst 1, 1) := by decide +kernel
theorem dX7_reasons_24 : decode cX7_reasons 24 = .ok (.bipush 100, 2) := by decide +kernel
theorem dX7_reasons_26 : decode cX7_reasons 26 = .ok (.iload_n 1, 1) := by decide +kernel
theorem dX7_reasons_27 : decode cX7_reasons 27 = .ok (.iadd, 1) := by decide +kernel
theorem dX7_reasons_28 : decode cX7_reasons 28 = .ok (.iastore, 1) := by decide +kernel
theorem dX7_reasons_29 : decode cX7_reasons 29 = .ok (.aload_n 0, 1) := by decide +kernel
theorem dX7_reasons_30 : decode cX7_reasons 30 = .ok (.iconst 2, 1) := by decide +kernel
theorem dX7_reasons_31 : decode cX7_reasons 31 = .ok (.putfield 146, 3) := by decide +kernel
theorem dX7_reasons_34 : decode cX7_reasons 34 = .ok (.return_, 1) := by decide +kernel
theorem dX7_inStead_0 : decode cX7_inStead 0 = .ok (.aload_n 0, 1) := by decide +kernel
theorem dX7_inStead_1 : decode cX7_inStead 1 = .ok (.getfield 146, 3) := by decide +kernel
theorem dX7_inStead_4 : decode cX7_inStead 4 = .ok (.istore_n 2, 1) := by decide +kernel
theorem dX7_inStead_5 : decode cX7_inStead 5 = .ok (.iload_n 2, 1) := by decide +kernel
theorem dX7_inStead_6 : decode cX7_inStead 6 = .ok (.ifCond .le 23, 3) := by decide +kernel
theorem dX7_inStead_9 : decode cX7_inStead 9 = .ok (.aload_n 0, 1) := by decide +kernel
theorem dX7_inStead_10 : decode cX7_inStead 10 = .ok (.getfield 69, 3) := by decide +kernel
theorem dX7_inStead_13 : decode cX7_inStead 13 = .ok (.iload_n 2, 1) := by decide +kernel
theorem dX7_inStead_14 : decode cX7_inStead 14 = .ok (.aload_n 0, 1) := by decide +kernel
theorem dX7_inStead_15 : decode cX7_inStead 15 = .ok (.getfield 69, 3) := by decide +kernel
theorem dX7_inStead_18 : decode cX7_inStead 18 = .ok (.iload_n 2, 1) := by decide +kernel
theorem dX7_inStead_19 : decode cX7_inStead 19 = .ok (.iconst 1, 1) := by decide +kernel
theorem dX7_inStead_20 : decode cX7_inStead 20 = .ok (.isub, 1) := by decide +kernel
theorem dX7_inStead_21 : decode cX7_inStead 21 = .ok (.iaload, 1) := by decide +kernel
theorem dX7_inStead_22 : decode cX7_inStead 22 = .ok (.iastore, 1) := by decide +kernel
theorem dX7_inStead_23 : decode cX7_inStead 23 = .ok (.iinc 2 (-1), 3) := by decide +kernel
theorem dX7_inStead_26 : decode cX7_inStead 26 = .ok (.goto (-21), 3) := by decide +kernel
theorem dX7_inStead_29 : decode cX7_inStead 29 = .ok (.aload_n 0, 1) := by decide +kernel
theorem dX7_inStead_30 : decode cX7_inStead 30 = .ok (.getfield 69, 3) := by decide +kernel
theorem dX7_inStead_33 : decode cX7_inStead 33 = .ok (.iconst 0, 1) := by decide +kernel
theorem dX7_inStead_34 : decode cX7_inStead 34 = .ok (.iload_n 1, 1) := by decide +kernel
theorem dX7_inStead_35 : decode cX7_inStead 35 = .ok (.iastore, 1) := by decide +kernel
theorem dX7_inStead_36 : decode cX7_inStead 36 = .ok (.aload_n 0, 1) := by decide +kernel
theorem dX7_inStead_37 : decode cX7_inStead 37 = .ok (.dup, 1) := by decide +kernel
theorem dX7_inStead_38 : decode cX7_inStead 38 = .ok (.getfield 146, 3) := by decide +kernel
theorem dX7_inStead_41 : decode cX7_inStead 41 = .ok (.iconst 1, 1) := by decide +kernel
theorem dX7_inStead_42 : decode cX7_inStead 42 = .ok (.iadd, 1) := by decide +kernel
theorem dX7_inStead_43 : decode cX7_inStead 43 = .ok (.putfield 146, 3) := by decide +kernel
theorem dX7_inStead_46 : decode cX7_inStead 46 = .ok (.return_, 1) := by decide +kernel
set_option maxRecDepth 20000 in
theorem ggX7_works_X7_mark : GoodIn wsX7_works wsX7_mark := goodIn_r _ [10, 3, 11, 96, 97, 98, 99, 100, 101, 102, 103, 104, 105, 106, 107, 108, 109, 110, 111, 112, 113, 114, 115, 116, 117, 118, 119, 120, 121, 122, 123] (by decide +kernel) (by decide +kernel)
set_option maxRecDepth 20000 in
theorem gX7_works_X7_mark : GoodIn wsX7_works (wsV RX7 135 RX7 yX7_mark wsX7_mark) := goodIn_app (goodIn_of _ (by decide +kernel)) ggX7_works_X7_mark
set_option maxRecDepth 20000 in
theorem ggX7_works_X7_does : GoodIn wsX7_works wsX7_does := goodIn_r _ [15, 16, 17, 18, 19, 20, 9, 21, 5, 22, 23, 24, 25, 6, 7, 8, 10, 3, 11, 26, 27, 28, 29, 30, 31, 32, 33, 34, 35, 36, 37, 38, 39, 40, 41, 42, 43, 44, 45, 46, 47, 48, 49, 50, 51, 52, 53, 54, 55, 56, 57, 58, 59, 60, 61, 62, 63, 64, 65, 66, 67, 68, 69, 70, 71, 72, 73, 74, 75, 76, 77, 78, 79, 80, 81, 82, 83, 84, 85, 96, 97, 98, 99, 100, 101, 102, 103, 104, 105, 106, 107, 108, 109, 110, 111, 112, 113, 114, 115, 116, 117, 118, 119, 120, 121, 122, 123] (by decide +kernel) (by decide +kernel)
set_option maxRecDepth 20000 in
theorem gX7_works_X7_does : GoodIn wsX7_works (wsV RX7 149 RX7 yX7_does wsX7_does) := goodIn_app (goodIn_of _ (by decide +kernel)) ggX7_works_X7_does
set_option maxRecDepth 20000 in
theorem ggX7_works_X7_reasons : GoodIn wsX7_works wsX7_reasons := goodIn_r _ [89, 90, 91, 22, 96, 97, 98, 99, 100, 101, 102, 103, 104, 105, 106, 107, 108, 109, 110, 111, 112, 113, 114, 115, 116, 117, 118, 119, 120, 121, 122, 123] (by decide +kernel) (by decide +kernel)
set_option maxRecDepth 20000 in
theorem gX7_works_X7_reasons : GoodIn wsX7_works (wsV RX7 152 RX7 yX7_reasons wsX7_reasons) := goodIn_app (goodIn_of _ (by decide +kernel)) ggX7_works_X7_reasons
set_option maxRecDepth 20000 in
theorem ggX7_works_X7_inStead : GoodIn wsX7_works wsX7_inStead := goodIn_r _ [95, 91, 90, 96, 97, 98, 99, 100, 101, 102, 103, 104, 105, 106, 107, 108, 109, 110, 111, 112, 113, 114, 115, 116, 117, 118, 119, 120, 121, 122, 123] (by decide +kernel) (by decide +kernel)
set_option maxRecDepth 20000 in
theorem gX7_works_X7_inStead : GoodIn wsX7_works (wsV RX7 155 RX7 yX7_inStead wsX7_inStead) := goodIn_app (goodIn_of _ (by decide +kernel)) ggX7_works_X7_inStead
theorem dX7_works_0 : decode cX7_works 0 = .ok (.aload_n 0, 1) := by decide +kernel
theorem dX7_works_1 : decode cX7_works 1 = .ok (.iconst 1, 1) := by decide +kernel
theorem dX7_works_2 : decode cX7_works 2 = .ok (.invokevirtual 135, 3) := by decide +kernel
theorem dX7_works_5 : decode cX7_works 5 = .ok (.iconst 0, 1) := by decide +kernel
theorem dX7_works_6 : decode cX7_works 6 = .ok (.istore_n 2, 1) := by decide +kernel
theorem dX7_works_7 : decode cX7_works 7 = .ok (.iconst 0, 1) := by decide +kernel
theorem dX7_works_8 : decode cX7_works 8 = .ok (.istore_n 3, 1) := by decide +kernel
theorem dX7_works_9 : decode cX7_works 9 = .ok (.iload_n 3, 1) := by decide +kernel
theorem dX7_works_10 : decode cX7_works 10 = .ok (.aload_n 0, 1) := by decide +kernel
theorem dX7_works_11 : decode cX7_works 11 = .ok (.getfield 20, 3) := by decide +kernel
theorem dX7_works_14 : decode cX7_works 14 = .ok (.iload_n 1, 1) := by decide +kernel
theorem dX7_works_15 : decode cX7_works 15 = .ok (.iaload, 1) := by decide +kernel
theorem dX7_works_16 : decode cX7_works 16 = .ok (.if_icmp .ge 118, 3) := by decide +kernel
theorem dX7_works_19 : decode cX7_works 19 = .ok (.iload_n 2, 1) := by decide +kernel
theorem dX7_works_20 : decode cX7_works 20 = .ok (.ifCond .ne 114, 3) := by decide +kernel
theorem dX7_works_23 : decode cX7_works 23 = .ok (.aload_n 0, 1) := by decide +kernel
theorem dX7_works_24 : decode cX7_works 24 = .ok (.bipush 6, 2) := by decide +kernel
theorem dX7_works_26 : decode cX7_works 26 = .ok (.iload_n 1, 1) := by decide +kernel
theorem dX7_works_27 : decode cX7_works 27 = .ok (.imul, 1) := by decide +kernel
theorem dX7_works_28 : decode cX7_works 28 = .ok (.iload_n 3, 1) := by decide +kernel
theorem dX7_works_29 : decode cX7_works 29 = .ok (.iadd, 1) := by decide +kernel
theorem dX7_works_30 : decode cX7_works 30 = .ok (.invokevirtual 149, 3) := by decide +kernel
theorem dX7_works_33 : decode cX7_works 33 = .ok (.istore_n 2, 1) := by decide +kernel
theorem dX7_works_34 : decode cX7_works 34 = .ok (.iload_n 2, 1) := by decide +kernel
theorem dX7_works_35 : decode cX7_works 35 = .ok (.iconst 1, 1) := by decide +kernel
theorem dX7_works_36 : decode cX7_works 36 = .ok (.if_icmp .ne 5, 3) := by decide +kernel
theorem dX7_works_39 : decode cX7_works 39 = .ok (.iconst 0, 1) := by decide +kernel
theorem dX7_works_40 : decode cX7_works 40 = .ok (.istore_n 2, 1) := by decide +kernel
theorem dX7_works_41 : decode cX7_works 41 = .ok (.iload_n 2, 1) := by decide +kernel
theorem dX7_works_42 : decode cX7_works 42 = .ok (.iconst 5, 1) := by decide +kernel
theorem dX7_works_43 : decode cX7_works 43 = .ok (.if_icmp .ne 54, 3) := by decide +kernel
theorem dX7_works_46 : decode cX7_works 46 = .ok (.aload_n 0, 1) := by decide +kernel
theorem dX7_works_47 : decode cX7_works 47 = .ok (.getfield 17, 3) := by decide +kernel
theorem dX7_works_50 : decode cX7_works 50 = .ok (.iload_n 1, 1) := by decide +kernel
theorem dX7_works_51 : decode cX7_works 51 = .ok (.iaload, 1) := by decide +kernel
theorem dX7_works_52 : decode cX7_works 52 = .ok (.iconst 1, 1) := by decide +kernel
theorem dX7_works_53 : decode cX7_works 53 = .ok (.if_icmp .ne 44, 3) := by decide +kernel
theorem dX7_works_56 : decode cX7_works 56 = .ok (.aload_n 0, 1) := by decide +kernel
theorem dX7_works_57 : decode cX7_works 57 = .ok (.getfield 60, 3) := by decide +kernel
theorem dX7_works_60 : decode cX7_works 60 = .ok (.bipush 6, 2) := by decide +kernel
theorem dX7_works_62 : decode cX7_works 62 = .ok (.iaload, 1) := by decide +kernel
theorem dX7_works_63 : decode cX7_works 63 = .ok (.bipush 24, 2) := by decide +kernel
theorem dX7_works_65 : decode cX7_works 65 = .ok (.if_icmp .ge 19, 3) := by decide +kernel
theorem dX7_works_68 : decode cX7_works 68 = .ok (.aload_n 0, 1) := by decide +kernel
theorem dX7_works_69 : decode cX7_works 69 = .ok (.getfield 66, 3) := by decide +kernel
theorem dX7_works_72 : decode cX7_works 72 = .ok (.aload_n 0, 1) := by decide +kernel
theorem dX7_works_73 : decode cX7_works 73 = .ok (.getfield 60, 3) := by decide +kernel
theorem dX7_works_76 : decode cX7_works 76 = .ok (.bipush 6, 2) := by decide +kernel
theorem dX7_works_78 : decode cX7_works 78 = .ok (.iaload, 1) := by decide +kernel
theorem dX7_works_79 : decode cX7_works 79 = .ok (.aload_n 0, 1) := by decide +kernel
theorem dX7_works_80 : decode cX7_works 80 = .ok (.getfield 90, 3) := by decide +kernel
theorem dX7_works_83 : decode cX7_works 83 = .ok (.iastore, 1) := by decide +kernel
theorem dX7_works_84 : decode cX7_works 84 = .ok (.aload_n 0, 1) := by decide +kernel
theorem dX7_works_85 : decode cX7_works 85 = .ok (.getfield 60, 3) := by decide +kernel
theorem dX7_works_88 : decode cX7_works 88 = .ok (.bipush 6, 2) := by decide +kernel
theorem dX7_works_90 : decode cX7_works 90 = .ok (.dup2, 1) := by decide +kernel
theorem dX7_works_91 : decode cX7_works 91 = .ok (.iaload, 1) := by decide +kernel
theorem dX7_works_92 : decode cX7_works 92 = .ok (.iconst 1, 1) := by decide +kernel
theorem dX7_works_93 : decode cX7_works 93 = .ok (.iadd, 1) := by decide +kernel
theorem dX7_works_94 : decode cX7_works 94 = .ok (.iastore, 1) := by decide +kernel
theorem dX7_works_95 : decode cX7_works 95 = .ok (.iconst 0, 1) := by decide +kernel
theorem dX7_works_96 : decode cX7_works 96 = .ok (.istore_n 2, 1) := by decide +kernel
theorem dX7_works_97 : decode cX7_works 97 = .ok (.iload_n 2, 1) := by decide +kernel
theorem dX7_works_98 : decode cX7_works 98 = .ok (.iconst 5, 1) := by decide +kernel
theorem dX7_works_99 : decode cX7_works 99 = .ok (.if_icmp .ne 29, 3) := by decide +kernel
theorem dX7_works_102 : decode cX7_works 102 = .ok (.aload_n 0, 1) := by decide +kernel
theorem dX7_works_103 : decode cX7_works 103 = .ok (.aload_n 0, 1) := by decide +kernel
theorem dX7_works_104 : decode cX7_works 104 = .ok (.getfield 90, 3) := by decide +kernel
theorem dX7_works_107 : decode cX7_works 107 = .ok (.invokevirtual 152, 3) := by decide +kernel
theorem dX7_works_110 : decode cX7_works 110 = .ok (.aload_n 0, 1) := by decide +kernel
theorem dX7_works_111 : decode cX7_works 111 = .ok (.getfield 17, 3) := by decide +kernel
theorem dX7_works_114 : decode cX7_works 114 = .ok (.iload_n 1, 1) := by decide +kernel
theorem dX7_works_115 : decode cX7_works 115 = .ok (.iaload, 1) := by decide +kernel
theorem dX7_works_116 : decode cX7_works 116 = .ok (.iconst 2, 1) := by decide +kernel
theorem dX7_works_117 : decode cX7_works 117 = .ok (.if_icmp .ne 11, 3) := by decide +kernel
theorem dX7_works_120 : decode cX7_works 120 = .ok (.aload_n 0, 1) := by decide +kernel
theorem dX7_works_121 : decode cX7_works 121 = .ok (.bipush 20, 2) := by decide +kernel
theorem dX7_works_123 : decode cX7_works 123 = .ok (.iload_n 3, 1) := by decide +kernel
theorem dX7_works_124 : decode cX7_works 124 = .ok (.iadd, 1) := by decide +kernel
theorem dX7_works_125 : decode cX7_works 125 = .ok (.invokevirtual 155, 3) := by decide +kernel
theorem dX7_works_128 : decode cX7_works 128 = .ok (.iinc 3 1, 3) := by decide +kernel
theorem dX7_works_131 : decode cX7_works 131 = .ok (.goto (-122), 3) := by decide +kernel
theorem dX7_works_134 : decode cX7_works 134 = .ok (.aload_n 0, 1) := by decide +kernel
theorem dX7_works_135 : decode cX7_works 135 = .ok (.iconst 2, 1) := by decide +kernel
theorem dX7_works_136 : decode cX7_works 136 = .ok (.invokevirtual 135, 3) := by decide +kernel
theorem dX7_works_139 : decode cX7_works 139 = .ok (.iload_n 2, 1) := by decide +kernel
theorem dX7_works_140 : decode cX7_works 140 = .ok (.iconst 3, 1) := by decide +kernel
theorem dX7_works_141 : decode cX7_works 141 = .ok (.if_icmp .ne 7, 3) := by decide +kernel
theorem dX7_works_144 : decode cX7_works 144 = .ok (.iconst 0, 1) := by decide +kernel
theorem dX7_works_145 : decode cX7_works 145 = .ok (.goto 4, 3) := by decide +kernel
theorem dX7_works_148 : decode cX7_works 148 = .ok (.iload_n 2, 1) := by decide +kernel
theorem dX7_works_149 : decode cX7_works 149 = .ok (.ireturn, 1) := by decide +kernel
set_option maxRecDepth 20000 in
theorem ggX7_run_X7_isBatch : GoodIn wsX7_run wsX7_isBatch := goodIn_r _ [8, 9, 10, 7, 11] (by decide +kernel) (by decide +kernel)
set_option maxRecDepth 20000 in
theorem gX7_run_X7_isBatch : GoodIn wsX7_run (va_wsS RX7 79 yX7_isBatch wsX7_isBatch) := goodIn_app (goodIn_of _ (by decide +kernel)) ggX7_run_X7_isBatch
set_option maxRecDepth 20000 in
theorem ggX7_run_X7_works : GoodIn wsX7_run wsX7_works := goodIn_r _ [15, 16, 17, 2, 18, 19, 20, 21, 22, 7, 23, 24, 25, 26, 27, 28, 29, 30, 31, 32, 33, 34, 35, 9, 10, 11, 36, 37, 38, 39, 40, 41, 42, 43, 44, 45, 46, 47, 48, 4, 49, 50, 51, 52, 53, 54, 55, 56, 57, 58, 59, 60, 61, 62, 63, 64, 65, 66, 67, 68, 69, 70, 71, 72, 73, 74, 75, 76, 77, 78, 79, 80, 81, 82, 83, 84, 85, 86, 87, 88, 89, 90, 91, 92, 93, 94, 95, 96, 97, 98, 99, 3, 100, 101, 102, 103, 104, 105, 106, 107, 108, 109, 110, 111, 112, 113, 114, 115, 116, 117, 118, 119, 120, 121, 122, 123, 124, 125, 126, 127, 128, 129, 130, 131] (by decide +kernel) (by decide +kernel)
set_option maxRecDepth 20000 in
theorem gX7_run_X7_works : GoodIn wsX7_run (wsV RX7 158 RX7 yX7_works wsX7_works) := goodIn_app (goodIn_of _ (by decide +kernel)) ggX7_run_X7_works
set_option maxRecDepth 20000 in
theorem ggX7_run_X7_inStead : GoodIn wsX7_run wsX7_inStead := goodIn_r _ [103, 3, 99, 104, 105, 106, 107, 108, 109, 110, 111, 112, 113, 114, 115, 116, 117, 118, 119, 120, 121, 122, 123, 124, 125, 126, 127, 128, 129, 130, 131] (by decide +kernel) (by decide +kernel)
set_option maxRecDepth 20000 in
theorem gX7_run_X7_inStead : GoodIn wsX7_run (wsV RX7 155 RX7 yX7_inStead wsX7_inStead) := goodIn_app (goodIn_of _ (by decide +kernel)) ggX7_run_X7_inStead
theorem dX7_run_0 : decode cX7_run 0 = .ok (.aload_n 0, 1) := by decide +kernel
theorem dX7_run_1 : decode cX7_run 1 = .ok (.iconst 0, 1) := by decide +kernel
theorem dX7_run_2 : decode cX7_run 2 = .ok (.putfield 72, 3) := by decide +kernel
theorem dX7_run_5 : decode cX7_run 5 = .ok (.iload_n 1, 1) := by decide +kernel
theorem dX7_run_6 : decode cX7_run 6 = .ok (.invokestatic 79, 3) := by decide +kernel
theorem dX7_run_9 : decode cX7_run 9 = .ok (.ifCond .eq 15, 3) := by decide +kernel
theorem dX7_run_12 : decode cX7_run 12 = .ok (.iload_n 2, 1) := by decide +kernel
theorem dX7_run_13 : decode cX7_run 13 = .ok (.invokestatic 79, 3) := by decide +kernel
theorem dX7_run_16 : decode cX7_run 16 = .ok (.ifCond .eq 8, 3) := by decide +kernel
theorem dX7_run_19 : decode cX7_run 19 = .ok (.iload_n 1, 1) := by decide +kernel
theorem dX7_run_20 : decode cX7_run 20 = .ok (.iload_n 2, 1) := by decide +kernel
theorem dX7_run_21 : decode cX7_run 21 = .ok (.if_icmp .le 5, 3) := by decide +kernel
theorem dX7_run_24 : decode cX7_run 24 = .ok (.iconst (-1), 1) := by decide +kernel
theorem dX7_run_25 : decode cX7_run 25 = .ok (.ireturn, 1) := by decide +kernel
theorem dX7_run_26 : decode cX7_run 26 = .ok (.iconst 0, 1) := by decide +kernel
theorem dX7_run_27 : decode cX7_run 27 = .ok (.istore 4, 2) := by decide +kernel
theorem dX7_run_29 : decode cX7_run 29 = .ok (.iload 4, 2) := by decide +kernel
theorem dX7_run_31 : decode cX7_run 31 = .ok (.bipush 8, 2) := by decide +kernel
theorem dX7_run_33 : decode cX7_run 33 = .ok (.if_icmp .ge 17, 3) := by decide +kernel
theorem dX7_run_36 : decode cX7_run 36 = .ok (.aload_n 0, 1) := by decide +kernel
theorem dX7_run_37 : decode cX7_run 37 = .ok (.getfield 60, 3) := by decide +kernel
theorem dX7_run_40 : decode cX7_run 40 = .ok (.iload 4, 2) := by decide +kernel
theorem dX7_run_42 : decode cX7_run 42 = .ok (.iconst 0, 1) := by decide +kernel
theorem dX7_run_43 : decode cX7_run 43 = .ok (.iastore, 1) := by decide +kernel
theorem dX7_run_44 : decode cX7_run 44 = .ok (.iinc 4 1, 3) := by decide +kernel
theorem dX7_run_47 : decode cX7_run 47 = .ok (.goto (-18), 3) := by decide +kernel
theorem dX7_run_50 : decode cX7_run 50 = .ok (.aload_n 0, 1) := by decide +kernel
theorem dX7_run_51 : decode cX7_run 51 = .ok (.iconst 0, 1) := by decide +kernel
theorem dX7_run_52 : decode cX7_run 52 = .ok (.putfield 146, 3) := by decide +kernel
theorem dX7_run_55 : decode cX7_run 55 = .ok (.iload_n 1, 1) := by decide +kernel
theorem dX7_run_56 : decode cX7_run 56 = .ok (.istore 4, 2) := by decide +kernel
theorem dX7_run_58 : decode cX7_run 58 = .ok (.iload 4, 2) := by decide +kernel
theorem dX7_run_60 : decode cX7_run 60 = .ok (.iload_n 2, 1) := by decide +kernel
theorem dX7_run_61 : decode cX7_run 61 = .ok (.if_icmp .gt 63, 3) := by decide +kernel
theorem dX7_run_64 : decode cX7_run 64 = .ok (.aload_n 0, 1) := by decide +kernel
theorem dX7_run_65 : decode cX7_run 65 = .ok (.iload 4, 2) := by decide +kernel
theorem dX7_run_67 : decode cX7_run 67 = .ok (.invokevirtual 158, 3) := by decide +kernel
theorem dX7_run_70 : decode cX7_run 70 = .ok (.istore 5, 2) := by decide +kernel
theorem dX7_run_72 : decode cX7_run 72 = .ok (.iload 5, 2) := by decide +kernel
theorem dX7_run_74 : decode cX7_run 74 = .ok (.iconst 5, 1) := by decide +kernel
theorem dX7_run_75 : decode cX7_run 75 = .ok (.if_icmp .ne 19, 3) := by decide +kernel
theorem dX7_run_78 : decode cX7_run 78 = .ok (.iload_n 3, 1) := by decide +kernel
theorem dX7_run_79 : decode cX7_run 79 = .ok (.ifCond .eq 12, 3) := by decide +kernel
theorem dX7_run_82 : decode cX7_run 82 = .ok (.aload_n 0, 1) := by decide +kernel
theorem dX7_run_83 : decode cX7_run 83 = .ok (.bipush 30, 2) := by decide +kernel
theorem dX7_run_85 : decode cX7_run 85 = .ok (.iload 4, 2) := by decide +kernel
theorem dX7_run_87 : decode cX7_run 87 = .ok (.iadd, 1) := by decide +kernel
theorem dX7_run_88 : decode cX7_run 88 = .ok (.invokevirtual 155, 3) := by decide +kernel
theorem dX7_run_91 : decode cX7_run 91 = .ok (.bipush (-10), 2) := by decide +kernel
theorem dX7_run_93 : decode cX7_run 93 = .ok (.ireturn, 1) := by decide +kernel
theorem dX7_run_94 : decode cX7_run 94 = .ok (.iload 5, 2) := by decide +kernel
theorem dX7_run_96 : decode cX7_run 96 = .ok (.ifCond .eq 22, 3) := by decide +kernel
theorem dX7_run_99 : decode cX7_run 99 = .ok (.iload 5, 2) := by decide +kernel
theorem dX7_run_101 : decode cX7_run 101 = .ok (.iconst 4, 1) := by decide +kernel
theorem dX7_run_102 : decode cX7_run 102 = .ok (.if_icmp .ne 13, 3) := by decide +kernel
theorem dX7_run_105 : decode cX7_run 105 = .ok (.bipush 100, 2) := by decide +kernel
theorem dX7_run_107 : decode cX7_run 107 = .ok (.aload_n 0, 1) := by decide +kernel
theorem dX7_run_108 : decode cX7_run 108 = .ok (.getfield 110, 3) := by decide +kernel
theorem dX7_run_111 : decode cX7_run 111 = .ok (.iadd, 1) := by decide +kernel
theorem dX7_run_112 : decode cX7_run 112 = .ok (.goto 5, 3) := by decide +kernel
theorem dX7_run_115 : decode cX7_run 115 = .ok (.bipush (-11), 2) := by decide +kernel
theorem dX7_run_117 : decode cX7_run 117 = .ok (.ireturn, 1) := by decide +kernel
theorem dX7_run_118 : decode cX7_run 118 = .ok (.iinc 4 1, 3) := by decide +kernel
theorem dX7_run_121 : decode cX7_run 121 = .ok (.goto (-63), 3) := by decide +kernel
theorem dX7_run_124 : decode cX7_run 124 = .ok (.iload_n 2, 1) := by decide +kernel
theorem dX7_run_125 : decode cX7_run 125 = .ok (.iload_n 1, 1) := by decide +kernel
theorem dX7_run_126 : decode cX7_run 126 = .ok (.isub, 1) := by decide +kernel
theorem dX7_run_127 : decode cX7_run 127 = .ok (.iconst 1, 1) := by decide +kernel
theorem dX7_run_128 : decode cX7_run 128 = .ok (.iadd, 1) := by decide +kernel
theorem dX7_run_129 : decode cX7_run 129 = .ok (.ireturn, 1) := by decide +kernel
set_option maxRecDepth 20000 in
theorem ggX7_why_X7_in : GoodIn wsX7_why wsX7_in := goodIn_r _ [7] (by decide +kernel) (by decide +kernel)
set_option maxRecDepth 20000 in
theorem gX7_why_X7_in : GoodIn wsX7_why (va_wsS RX7 75 yX7_in wsX7_in) := goodIn_app (goodIn_of _ (by decide +kernel)) ggX7_why_X7_in
theorem dX7_why_0 : decode cX7_why 0 = .ok (.aload_n 0, 1) := by decide +kernel
theorem dX7_why_1 : decode cX7_why 1 = .ok (.iconst 0, 1) := by decide +kernel
theorem dX7_why_2 : decode cX7_why 2 = .ok (.putfield 72, 3) := by decide +kernel
theorem dX7_why_5 : decode cX7_why 5 = .ok (.iload_n 1, 1) := by decide +kernel
theorem dX7_why_6 : decode cX7_why 6 = .ok (.iconst 0, 1) := by decide +kernel
theorem dX7_why_7 : decode cX7_why 7 = .ok (.aload_n 0, 1) := by decide +kernel
theorem dX7_why_8 : decode cX7_why 8 = .ok (.getfield 146, 3) := by decide +kernel
theorem dX7_why_11 : decode cX7_why 11 = .ok (.iconst 1, 1) := by decide +kernel
theorem dX7_why_12 : decode cX7_why 12 = .ok (.isub, 1) := by decide +kernel
theorem dX7_why_13 : decode cX7_why 13 = .ok (.invokestatic 75, 3) := by decide +kernel
theorem dX7_why_16 : decode cX7_why 16 = .ok (.ifCond .eq 12, 3) := by decide +kernel
theorem dX7_why_19 : decode cX7_why 19 = .ok (.aload_n 0, 1) := by decide +kernel
theorem dX7_why_20 : decode cX7_why 20 = .ok (.getfield 69, 3) := by decide +kernel
theorem dX7_why_23 : decode cX7_why 23 = .ok (.iload_n 1, 1) := by decide +kernel
theorem dX7_why_24 : decode cX7_why 24 = .ok (.iaload, 1) := by decide +kernel
theorem dX7_why_25 : decode cX7_why 25 = .ok (.goto 5, 3) := by decide +kernel
theorem dX7_why_28 : decode cX7_why 28 = .ok (.bipush (-4), 2) := by decide +kernel
theorem dX7_why_30 : decode cX7_why 30 = .ok (.ireturn, 1) := by decide +kernel
set_option maxRecDepth 20000 in
theorem ggX7_told_X7_in : GoodIn wsX7_told wsX7_in := goodIn_r _ [6] (by decide +kernel) (by decide +kernel)
set_option maxRecDepth 20000 in
theorem gX7_told_X7_in : GoodIn wsX7_told (va_wsS RX7 75 yX7_in wsX7_in) := goodIn_app (goodIn_of _ (by decide +kernel)) ggX7_told_X7_in
theorem dX7_told_0 : decode cX7_told 0 = .ok (.aload_n 0, 1) := by decide +kernel
theorem dX7_told_1 : decode cX7_told 1 = .ok (.iconst 0, 1) := by decide +kernel
theorem dX7_told_2 : decode cX7_told 2 = .ok (.putfield 72, 3) := by decide +kernel
theorem dX7_told_5 : decode cX7_told 5 = .ok (.iload_n 1, 1) := by decide +kernel
theorem dX7_told_6 : decode cX7_told 6 = .ok (.iconst 0, 1) := by decide +kernel
theorem dX7_told_7 : decode cX7_told 7 = .ok (.bipush 7, 2) := by decide +kernel
theorem dX7_told_9 : decode cX7_told 9 = .ok (.invokestatic 75, 3) := by decide +kernel
theorem dX7_told_12 : decode cX7_told 12 = .ok (.ifCond .eq 12, 3) := by decide +kernel
theorem dX7_told_15 : decode cX7_told 15 = .ok (.aload_n 0, 1) := by decide +kernel
theorem dX7_told_16 : decode cX7_told 16 = .ok (.getfield 60, 3) := by decide +kernel
theorem dX7_told_19 : decode cX7_told 19 = .ok (.iload_n 1, 1) := by decide +kernel
theorem dX7_told_20 : decode cX7_told 20 = .ok (.iaload, 1) := by decide +kernel
theorem dX7_told_21 : decode cX7_told 21 = .ok (.goto 4, 3) := by decide +kernel
theorem dX7_told_24 : decode cX7_told 24 = .ok (.iconst (-1), 1) := by decide +kernel
theorem dX7_told_25 : decode cX7_told 25 = .ok (.ireturn, 1) := by decide +kernel
set_option maxRecDepth 20000 in
theorem ggX7_trace_X7_in : GoodIn wsX7_trace wsX7_in := goodIn_r _ [7] (by decide +kernel) (by decide +kernel)
set_option maxRecDepth 20000 in
theorem gX7_trace_X7_in : GoodIn wsX7_trace (va_wsS RX7 75 yX7_in wsX7_in) := goodIn_app (goodIn_of _ (by decide +kernel)) ggX7_trace_X7_in
theorem dX7_trace_0 : decode cX7_trace 0 = .ok (.aload_n 0, 1) := by decide +kernel
theorem dX7_trace_1 : decode cX7_trace 1 = .ok (.iconst 0, 1) := by decide +kernel
theorem dX7_trace_2 : decode cX7_trace 2 = .ok (.putfield 72, 3) := by decide +kernel
theorem dX7_trace_5 : decode cX7_trace 5 = .ok (.iload_n 1, 1) := by decide +kernel
theorem dX7_trace_6 : decode cX7_trace 6 = .ok (.iconst 0, 1) := by decide +kernel
theorem dX7_trace_7 : decode cX7_trace 7 = .ok (.aload_n 0, 1) := by decide +kernel
theorem dX7_trace_8 : decode cX7_trace 8 = .ok (.getfield 60, 3) := by decide +kernel
theorem dX7_trace_11 : decode cX7_trace 11 = .ok (.bipush 7, 2) := by decide +kernel
theorem dX7_trace_13 : decode cX7_trace 13 = .ok (.iaload, 1) := by decide +kernel
theorem dX7_trace_14 : decode cX7_trace 14 = .ok (.sipush 400, 3) := by decide +kernel
theorem dX7_trace_17 : decode cX7_trace 17 = .ok (.if_icmp .ge 13, 3) := by decide +kernel
theorem dX7_trace_20 : decode cX7_trace 20 = .ok (.aload_n 0, 1) := by decide +kernel
theorem dX7_trace_21 : decode cX7_trace 21 = .ok (.getfield 60, 3) := by decide +kernel
theorem dX7_trace_24 : decode cX7_trace 24 = .ok (.bipush 7, 2) := by decide +kernel
theorem dX7_trace_26 : decode cX7_trace 26 = .ok (.iaload, 1) := by decide +kernel
theorem dX7_trace_27 : decode cX7_trace 27 = .ok (.goto 6, 3) := by decide +kernel
theorem dX7_trace_30 : decode cX7_trace 30 = .ok (.sipush 400, 3) := by decide +kernel
theorem dX7_trace_33 : decode cX7_trace 33 = .ok (.iconst 1, 1) := by decide +kernel
theorem dX7_trace_34 : decode cX7_trace 34 = .ok (.isub, 1) := by decide +kernel
theorem dX7_trace_35 : decode cX7_trace 35 = .ok (.invokestatic 75, 3) := by decide +kernel
theorem dX7_trace_38 : decode cX7_trace 38 = .ok (.ifCond .eq 12, 3) := by decide +kernel
theorem dX7_trace_41 : decode cX7_trace 41 = .ok (.aload_n 0, 1) := by decide +kernel
theorem dX7_trace_42 : decode cX7_trace 42 = .ok (.getfield 63, 3) := by decide +kernel
theorem dX7_trace_45 : decode cX7_trace 45 = .ok (.iload_n 1, 1) := by decide +kernel
theorem dX7_trace_46 : decode cX7_trace 46 = .ok (.iaload, 1) := by decide +kernel
theorem dX7_trace_47 : decode cX7_trace 47 = .ok (.goto 5, 3) := by decide +kernel
theorem dX7_trace_50 : decode cX7_trace 50 = .ok (.bipush (-4), 2) := by decide +kernel
theorem dX7_trace_52 : decode cX7_trace 52 = .ok (.ireturn, 1) := by decide +kernel
set_option maxRecDepth 20000 in
theorem ggX7_noted_X7_in : GoodIn wsX7_noted wsX7_in := goodIn_r _ [7] (by decide +kernel) (by decide +kernel)
set_option maxRecDepth 20000 in
theorem gX7_noted_X7_in : GoodIn wsX7_noted (va_wsS RX7 75 yX7_in wsX7_in) := goodIn_app (goodIn_of _ (by decide +kernel)) ggX7_noted_X7_in
theorem dX7_noted_0 : decode cX7_noted 0 = .ok (.aload_n 0, 1) := by decide +kernel
theorem dX7_noted_1 : decode cX7_noted 1 = .ok (.iconst 0, 1) := by decide +kernel
theorem dX7_noted_2 : decode cX7_noted 2 = .ok (.putfield 72, 3) := by decide +kernel
theorem dX7_noted_5 : decode cX7_noted 5 = .ok (.iload_n 1, 1) := by decide +kernel
theorem dX7_noted_6 : decode cX7_noted 6 = .ok (.iconst 0, 1) := by decide +kernel
theorem dX7_noted_7 : decode cX7_noted 7 = .ok (.aload_n 0, 1) := by decide +kernel
theorem dX7_noted_8 : decode cX7_noted 8 = .ok (.getfield 60, 3) := by decide +kernel
theorem dX7_noted_11 : decode cX7_noted 11 = .ok (.bipush 6, 2) := by decide +kernel
theorem dX7_noted_13 : decode cX7_noted 13 = .ok (.iaload, 1) := by decide +kernel
theorem dX7_noted_14 : decode cX7_noted 14 = .ok (.bipush 24, 2) := by decide +kernel
theorem dX7_noted_16 : decode cX7_noted 16 = .ok (.if_icmp .ge 13, 3) := by decide +kernel
theorem dX7_noted_19 : decode cX7_noted 19 = .ok (.aload_n 0, 1) := by decide +kernel
theorem dX7_noted_20 : decode cX7_noted 20 = .ok (.getfield 60, 3) := by decide +kernel
theorem dX7_noted_23 : decode cX7_noted 23 = .ok (.bipush 6, 2) := by decide +kernel
theorem dX7_noted_25 : decode cX7_noted 25 = .ok (.iaload, 1) := by decide +kernel
theorem dX7_noted_26 : decode cX7_noted 26 = .ok (.goto 5, 3) := by decide +kernel
theorem dX7_noted_29 : decode cX7_noted 29 = .ok (.bipush 24, 2) := by decide +kernel
theorem dX7_noted_31 : decode cX7_noted 31 = .ok (.iconst 1, 1) := by decide +kernel
theorem dX7_noted_32 : decode cX7_noted 32 = .ok (.isub, 1) := by decide +kernel
theorem dX7_noted_33 : decode cX7_noted 33 = .ok (.invokestatic 75, 3) := by decide +kernel
theorem dX7_noted_36 : decode cX7_noted 36 = .ok (.ifCond .eq 12, 3) := by decide +kernel
theorem dX7_noted_39 : decode cX7_noted 39 = .ok (.aload_n 0, 1) := by decide +kernel
theorem dX7_noted_40 : decode cX7_noted 40 = .ok (.getfield 66, 3) := by decide +kernel
theorem dX7_noted_43 : decode cX7_noted 43 = .ok (.iload_n 1, 1) := by decide +kernel
theorem dX7_noted_44 : decode cX7_noted 44 = .ok (.iaload, 1) := by decide +kernel
theorem dX7_noted_45 : decode cX7_noted 45 = .ok (.goto 5, 3) := by decide +kernel
theorem dX7_noted_48 : decode cX7_noted 48 = .ok (.bipush (-4), 2) := by decide +kernel
theorem dX7_noted_50 : decode cX7_noted 50 = .ok (.ireturn, 1) := by decide +kernel
set_option maxRecDepth 20000 in
theorem ggX7_drops_X7_in : GoodIn wsX7_drops wsX7_in := goodIn_r _ [7] (by decide +kernel) (by decide +kernel)
set_option maxRecDepth 20000 in
theorem gX7_drops_X7_in : GoodIn wsX7_drops (va_wsS RX7 75 yX7_in wsX7_in) := goodIn_app (goodIn_of _ (by decide +kernel)) ggX7_drops_X7_in
theorem dX7_drops_0 : decode cX7_drops 0 = .ok (.aload_n 0, 1) := by decide +kernel
theorem dX7_drops_1 : decode cX7_drops 1 = .ok (.iconst 0, 1) := by decide +kernel
theorem dX7_drops_2 : decode cX7_drops 2 = .ok (.putfield 72, 3) := by decide +kernel
theorem dX7_drops_5 : decode cX7_drops 5 = .ok (.iload_n 1, 1) := by decide +kernel
theorem dX7_drops_6 : decode cX7_drops 6 = .ok (.iconst 0, 1) := by decide +kernel
theorem dX7_drops_7 : decode cX7_drops 7 = .ok (.bipush 7, 2) := by decide +kernel
theorem dX7_drops_9 : decode cX7_drops 9 = .ok (.invokestatic 75, 3) := by decide +kernel
theorem dX7_drops_12 : decode cX7_drops 12 = .ok (.ifCond .ne 7, 3) := by decide +kernel
theorem dX7_drops_15 : decode cX7_drops 15 = .ok (.iconst (-1), 1) := by decide +kernel
theorem dX7_drops_16 : decode cX7_drops 16 = .ok (.goto 23, 3) := by decide +kernel
theorem dX7_drops_19 : decode cX7_drops 19 = .ok (.aload_n 0, 1) := by decide +kernel
theorem dX7_drops_20 : decode cX7_drops 20 = .ok (.getfield 7, 3) := by decide +kernel
theorem dX7_drops_23 : decode cX7_drops 23 = .ok (.iload_n 1, 1) := by decide +kernel
theorem dX7_drops_24 : decode cX7_drops 24 = .ok (.baload, 1) := by decide +kernel
theorem dX7_drops_25 : decode cX7_drops 25 = .ok (.ifCond .eq 12, 3) := by decide +kernel
theorem dX7_drops_28 : decode cX7_drops 28 = .ok (.aload_n 0, 1) := by decide +kernel
theorem dX7_drops_29 : decode cX7_drops 29 = .ok (.getfield 13, 3) := by decide +kernel
theorem dX7_drops_32 : decode cX7_drops 32 = .ok (.iload_n 1, 1) := by decide +kernel
theorem dX7_drops_33 : decode cX7_drops 33 = .ok (.iaload, 1) := by decide +kernel
theorem dX7_drops_34 : decode cX7_drops 34 = .ok (.goto 5, 3) := by decide +kernel
theorem dX7_drops_37 : decode cX7_drops 37 = .ok (.bipush (-4), 2) := by decide +kernel
theorem dX7_drops_39 : decode cX7_drops 39 = .ok (.ireturn, 1) := by decide +kernel
theorem dX7_sum_0 : decode cX7_sum 0 = .ok (.aload_n 0, 1) := by decide +kernel
theorem dX7_sum_1 : decode cX7_sum 1 = .ok (.iconst 0, 1) := by decide +kernel
theorem dX7_sum_2 : decode cX7_sum 2 = .ok (.putfield 72, 3) := by decide +kernel
theorem dX7_sum_5 : decode cX7_sum 5 = .ok (.iconst 0, 1) := by decide +kernel
theorem dX7_sum_6 : decode cX7_sum 6 = .ok (.istore_n 1, 1) := by decide +kernel
theorem dX7_sum_7 : decode cX7_sum 7 = .ok (.iconst 0, 1) := by decide +kernel
theorem dX7_sum_8 : decode cX7_sum 8 = .ok (.istore_n 2, 1) := by decide +kernel
theorem dX7_sum_9 : decode cX7_sum 9 = .ok (.iload_n 2, 1) := by decide +kernel
theorem dX7_sum_10 : decode cX7_sum 10 = .ok (.bipush 8, 2) := by decide +kernel
theorem dX7_sum_12 : decode cX7_sum 12 = .ok (.if_icmp .ge 31, 3) := by decide +kernel
theorem dX7_sum_15 : decode cX7_sum 15 = .ok (.iload_n 1, 1) := by decide +kernel
theorem dX7_sum_16 : decode cX7_sum 16 = .ok (.aload_n 0, 1) := by decide +kernel
theorem dX7_sum_17 : decode cX7_sum 17 = .ok (.getfield 7, 3) := by decide +kernel
theorem dX7_sum_20 : decode cX7_sum 20 = .ok (.iload_n 2, 1) := by decide +kernel
theorem dX7_sum_21 : decode cX7_sum 21 = .ok (.baload, 1) := by decide +kernel
theorem dX7_sum_22 : decode cX7_sum 22 = .ok (.ifCond .eq 12, 3) := by decide +kernel
theorem dX7_sum_25 : decode cX7_sum 25 = .ok (.aload_n 0, 1) := by decide +kernel
theorem dX7_sum_26 : decode cX7_sum 26 = .ok (.getfield 13, 3) := by decide +kernel
theorem dX7_sum_29 : decode cX7_sum 29 = .ok (.iload_n 2, 1) := by decide +kernel
theorem dX7_sum_30 : decode cX7_sum 30 = .ok (.iaload, 1) := by decide +kernel
theorem dX7_sum_31 : decode cX7_sum 31 = .ok (.goto 4, 3) := by decide +kernel
theorem dX7_sum_34 : decode cX7_sum 34 = .ok (.iconst 0, 1) := by decide +kernel
theorem dX7_sum_35 : decode cX7_sum 35 = .ok (.iadd, 1) := by decide +kernel
theorem dX7_sum_36 : decode cX7_sum 36 = .ok (.istore_n 1, 1) := by decide +kernel
theorem dX7_sum_37 : decode cX7_sum 37 = .ok (.iinc 2 1, 3) := by decide +kernel
theorem dX7_sum_40 : decode cX7_sum 40 = .ok (.goto (-31), 3) := by decide +kernel
theorem dX7_sum_43 : decode cX7_sum 43 = .ok (.iload_n 1, 1) := by decide +kernel
theorem dX7_sum_44 : decode cX7_sum 44 = .ok (.ireturn, 1) := by decide +kernel
theorem dJ9_min_7cf53_0 : decode cJ9_min_7cf53 0 = .ok (.iload_n 0, 1) := by decide +kernel
theorem dJ9_min_7cf53_1 : decode cJ9_min_7cf53 1 = .ok (.iload_n 1, 1) := by decide +kernel
theorem dJ9_min_7cf53_2 : decode cJ9_min_7cf53 2 = .ok (.if_icmp .gt 7, 3) := by decide +kernel
theorem dJ9_min_7cf53_5 : decode cJ9_min_7cf53 5 = .ok (.iload_n 0, 1) := by decide +kernel
theorem dJ9_min_7cf53_6 : decode cJ9_min_7cf53 6 = .ok (.goto 4, 3) := by decide +kernel
theorem dJ9_min_7cf53_9 : decode cJ9_min_7cf53 9 = .ok (.iload_n 1, 1) := by decide +kernel
theorem dJ9_min_7cf53_10 : decode cJ9_min_7cf53 10 = .ok (.ireturn, 1) := by decide +kernel
set_option maxRecDepth 20000 in
theorem ggL_law_X6_init : GoodIn wsL_law wsX6_init := goodIn_r _ [8, 9, 10, 11, 12, 13, 14, 15, 16, 17, 18, 19, 20, 21, 22, 23, 24, 25, 26, 27, 28, 29, 30, 31, 32, 33, 34, 35, 36, 37, 38, 39, 40, 41, 42, 43, 44, 45, 46, 47, 48, 49, 50, 51, 52, 53, 54, 55, 56, 57, 58, 59, 60, 61, 62, 63, 64, 65, 66, 67, 68, 69, 70, 71, 72, 73, 466, 467, 468, 469, 470, 471, 472, 501, 502, 503, 504, 505, 506, 507, 508, 509, 510, 511, 512, 513, 514, 515, 516, 517, 518, 519, 520, 521, 522, 523] (by decide +kernel) (by decide +kernel)
set_option maxRecDepth 20000 in
theorem gL_law_X6_init : GoodIn wsL_law (wsX6_init) := ggL_law_X6_init
set_option maxRecDepth 20000 in
theorem ggL_law_X7_init : GoodIn wsL_law wsX7_init := goodIn_r _ [76, 77, 10, 11, 78, 79, 12, 80, 81, 82, 83, 84, 85, 86, 87, 88, 89, 90, 91, 92, 93, 94, 95, 96, 97, 98, 473, 474, 475, 476, 477, 478, 479, 480, 481, 482, 483, 484, 485, 486, 487, 488, 489, 490, 491, 492, 493, 494, 495, 496, 497, 498, 499, 500] (by decide +kernel) (by decide +kernel)
set_option maxRecDepth 20000 in
theorem gL_law_X7_init : GoodIn wsL_law (wsX7_init) := ggL_law_X7_init
set_option maxRecDepth 20000 in
theorem ggL_law_X6_vial : GoodIn wsL_law wsX6_vial := goodIn_r _ [102, 13, 103, 104, 2, 105, 106, 107, 108, 466, 467, 468, 469, 470, 471, 472] (by decide +kernel) (by decide +kernel)
set_option maxRecDepth 20000 in
theorem gL_law_X6_vial : GoodIn wsL_law (wsV RL 13 RX6 yX6_vial wsX6_vial) := goodIn_app (goodIn_of _ (by decide +kernel)) ggL_law_X6_vial
set_option maxRecDepth 20000 in
theorem ggL_law_X7_vial : GoodIn wsL_law wsX7_vial := goodIn_r _ [112, 113, 79, 80, 114, 115, 5, 116, 473, 474, 475, 476, 477, 478, 479, 480, 481, 482, 483, 484, 485, 486, 487, 488, 489, 490, 491, 492, 493, 494, 495, 496, 497, 498, 499, 500] (by decide +kernel) (by decide +kernel)
set_option maxRecDepth 20000 in
theorem gL_law_X7_vial : GoodIn wsL_law (wsV RL 17 RX7 yX7_vial wsX7_vial) := goodIn_app (goodIn_of _ (by decide +kernel)) ggL_law_X7_vial
set_option maxRecDepth 20000 in
theorem ggL_law_X6_batch : GoodIn wsL_law wsX6_batch := goodIn_r _ [120, 15, 121, 103, 104, 2, 105, 122, 123, 124, 29, 125, 58, 57, 466, 467, 468, 469, 470, 471, 472, 514, 515, 516] (by decide +kernel) (by decide +kernel)
set_option maxRecDepth 20000 in
theorem gL_law_X6_batch : GoodIn wsL_law (wsV RL 18 RX6 yX6_batch wsX6_batch) := goodIn_app (goodIn_of _ (by decide +kernel)) ggL_law_X6_batch
set_option maxRecDepth 20000 in
theorem ggL_law_X7_batch : GoodIn wsL_law wsX7_batch := goodIn_r _ [129, 113, 82, 81, 130, 131, 5, 132, 114, 115, 116, 473, 474, 475, 476, 477, 478, 479, 480, 481, 482, 483, 484, 485, 486, 487, 488, 489, 490, 491, 492, 493, 494, 495, 496, 497, 498, 499, 500] (by decide +kernel) (by decide +kernel)
set_option maxRecDepth 20000 in
theorem gL_law_X7_batch : GoodIn wsL_law (wsV RL 21 RX7 yX7_batch wsX7_batch) := goodIn_app (goodIn_of _ (by decide +kernel)) ggL_law_X7_batch
set_option maxRecDepth 20000 in
theorem ggL_law_X6_round : GoodIn wsL_law wsX6_round := goodIn_r _ [136, 15, 103, 104, 2, 105, 137, 138, 139, 29, 140, 57, 56, 141, 142, 143, 60, 144, 67, 66, 466, 467, 468, 469, 470, 471, 472, 514, 515, 516, 520, 521, 522, 523] (by decide +kernel) (by decide +kernel)
set_option maxRecDepth 20000 in
theorem gL_law_X6_round : GoodIn wsL_law (wsV RL 22 RX6 yX6_round wsX6_round) := goodIn_app (goodIn_of _ (by decide +kernel)) ggL_law_X6_round
set_option maxRecDepth 20000 in
theorem ggL_law_X7_round : GoodIn wsL_law wsX7_round := goodIn_r _ [148, 113, 82, 83, 84, 130, 131, 5, 132, 114, 115, 116, 473, 474, 475, 476, 477, 478, 479, 480, 481, 482, 483, 484, 485, 486, 487, 488, 489, 490, 491, 492, 493, 494, 495, 496, 497, 498, 499, 500] (by decide +kernel) (by decide +kernel)
set_option maxRecDepth 20000 in
theorem gL_law_X7_round : GoodIn wsL_law (wsV RL 25 RX7 yX7_round wsX7_round) := goodIn_app (goodIn_of _ (by decide +kernel)) ggL_law_X7_round
set_option maxRecDepth 20000 in
theorem ggL_law_X6_step : GoodIn wsL_law wsX6_step := goodIn_r _ [152, 153, 15, 121, 154, 103, 104, 2, 105, 155, 156, 157, 60, 158, 66, 64, 65, 466, 467, 468, 469, 470, 471, 472, 514, 515, 516, 520, 521, 522, 523] (by decide +kernel) (by decide +kernel)
set_option maxRecDepth 20000 in
theorem gL_law_X6_step : GoodIn wsL_law (wsV RL 26 RX6 yX6_step wsX6_step) := goodIn_app (goodIn_of _ (by decide +kernel)) ggL_law_X6_step
set_option maxRecDepth 20000 in
theorem ggL_law_X7_step : GoodIn wsL_law wsX7_step := goodIn_r _ [162, 113, 82, 84, 85, 86, 130, 131, 5, 132, 114, 115, 116, 163, 164, 165, 473, 474, 475, 476, 477, 478, 479, 480, 481, 482, 483, 484, 485, 486, 487, 488, 489, 490, 491, 492, 493, 494, 495, 496, 497, 498, 499, 500] (by decide +kernel) (by decide +kernel)
set_option maxRecDepth 20000 in
theorem gL_law_X7_step : GoodIn wsL_law (wsV RL 30 RX7 yX7_step wsX7_step) := goodIn_app (goodIn_of _ (by decide +kernel)) ggL_law_X7_step
set_option maxRecDepth 20000 in
theorem ggL_law_X6_tool : GoodIn wsL_law wsX6_tool := goodIn_r _ [169, 17, 170, 103, 104, 2, 105, 106, 107, 108, 171, 172, 173, 31, 174, 71, 72, 73, 466, 467, 468, 469, 470, 471, 472, 517, 518, 519] (by decide +kernel) (by decide +kernel)
set_option maxRecDepth 20000 in
theorem gL_law_X6_tool : GoodIn wsL_law (wsV RL 31 RX6 yX6_tool wsX6_tool) := goodIn_app (goodIn_of _ (by decide +kernel)) ggL_law_X6_tool
set_option maxRecDepth 20000 in
theorem ggL_law_X7_tool : GoodIn wsL_law wsX7_tool := goodIn_r _ [178, 113, 87, 88, 89, 114, 115, 5, 116, 473, 474, 475, 476, 477, 478, 479, 480, 481, 482, 483, 484, 485, 486, 487, 488, 489, 490, 491, 492, 493, 494, 495, 496, 497, 498, 499, 500] (by decide +kernel) (by decide +kernel)
set_option maxRecDepth 20000 in
theorem gL_law_X7_tool : GoodIn wsL_law (wsV RL 34 RX7 yX7_tool wsX7_tool) := goodIn_app (goodIn_of _ (by decide +kernel)) ggL_law_X7_tool
set_option maxRecDepth 20000 in
theorem ggL_law_X6_lay : GoodIn wsL_law wsX6_lay := goodIn_r _ [182, 18, 103, 104, 2, 105, 466, 467, 468, 469, 470, 471, 472] (by decide +kernel) (by decide +kernel)
set_option maxRecDepth 20000 in
theorem gL_law_X6_lay : GoodIn wsL_law (wsV RL 35 RX6 yX6_lay wsX6_lay) := goodIn_app (goodIn_of _ (by decide +kernel)) ggL_law_X6_lay
set_option maxRecDepth 20000 in
theorem ggL_law_X7_lay : GoodIn wsL_law wsX7_lay := goodIn_r _ [186, 113, 94, 114, 115, 5, 116, 473, 474, 475, 476, 477, 478, 479, 480, 481, 482, 483, 484, 485, 486, 487, 488, 489, 490, 491, 492, 493, 494, 495, 496, 497, 498, 499, 500] (by decide +kernel) (by decide +kernel)
set_option maxRecDepth 20000 in
theorem gL_law_X7_lay : GoodIn wsL_law (wsV RL 38 RX7 yX7_lay wsX7_lay) := goodIn_app (goodIn_of _ (by decide +kernel)) ggL_law_X7_lay
set_option maxRecDepth 20000 in
theorem ggL_law_X6_about : GoodIn wsL_law wsX6_about := goodIn_r _ [190, 17, 170, 191, 192, 103, 104, 2, 105, 466, 467, 468, 469, 470, 471, 472, 517, 518, 519] (by decide +kernel) (by decide +kernel)
set_option maxRecDepth 20000 in
theorem gL_law_X6_about : GoodIn wsL_law (wsV RL 39 RX6 yX6_about wsX6_about) := goodIn_app (goodIn_of _ (by decide +kernel)) ggL_law_X6_about
set_option maxRecDepth 20000 in
theorem ggL_law_X7_about : GoodIn wsL_law wsX7_about := goodIn_r _ [196, 113, 87, 88, 89, 114, 115, 5, 116, 473, 474, 475, 476, 477, 478, 479, 480, 481, 482, 483, 484, 485, 486, 487, 488, 489, 490, 491, 492, 493, 494, 495, 496, 497, 498, 499, 500] (by decide +kernel) (by decide +kernel)
set_option maxRecDepth 20000 in
theorem gL_law_X7_about : GoodIn wsL_law (wsV RL 42 RX7 yX7_about wsX7_about) := goodIn_app (goodIn_of _ (by decide +kernel)) ggL_law_X7_about
set_option maxRecDepth 20000 in
theorem ggL_law_X6_places : GoodIn wsL_law wsX6_places := goodIn_r _ [200, 22, 103, 104, 2, 105, 201, 202, 203, 21, 204, 36, 37, 39, 40, 466, 467, 468, 469, 470, 471, 472, 501, 502, 503, 504, 505, 506] (by decide +kernel) (by decide +kernel)
set_option maxRecDepth 20000 in
theorem gL_law_X6_places : GoodIn wsL_law (wsV RL 43 RX6 yX6_places wsX6_places) := goodIn_app (goodIn_of _ (by decide +kernel)) ggL_law_X6_places
set_option maxRecDepth 20000 in
theorem ggL_law_X7_places : GoodIn wsL_law wsX7_places := goodIn_r _ [208, 113, 90, 91, 93, 209, 114, 115, 5, 116, 473, 474, 475, 476, 477, 478, 479, 480, 481, 482, 483, 484, 485, 486, 487, 488, 489, 490, 491, 492, 493, 494, 495, 496, 497, 498, 499, 500] (by decide +kernel) (by decide +kernel)
set_option maxRecDepth 20000 in
theorem gL_law_X7_places : GoodIn wsL_law (wsV RL 47 RX7 yX7_places wsX7_places) := goodIn_app (goodIn_of _ (by decide +kernel)) ggL_law_X7_places
set_option maxRecDepth 20000 in
theorem ggL_law_X6_box : GoodIn wsL_law wsX6_box := goodIn_r _ [213, 22, 214, 215, 103, 104, 2, 105, 466, 467, 468, 469, 470, 471, 472, 501, 502, 503, 504, 505, 506] (by decide +kernel) (by decide +kernel)
set_option maxRecDepth 20000 in
theorem gL_law_X6_box : GoodIn wsL_law (wsV RL 48 RX6 yX6_box wsX6_box) := goodIn_app (goodIn_of _ (by decide +kernel)) ggL_law_X6_box
set_option maxRecDepth 20000 in
theorem ggL_law_X7_box : GoodIn wsL_law wsX7_box := goodIn_r _ [219, 113, 91, 92, 114, 115, 5, 116, 473, 474, 475, 476, 477, 478, 479, 480, 481, 482, 483, 484, 485, 486, 487, 488, 489, 490, 491, 492, 493, 494, 495, 496, 497, 498, 499, 500] (by decide +kernel) (by decide +kernel)
set_option maxRecDepth 20000 in
theorem gL_law_X7_box : GoodIn wsL_law (wsV RL 51 RX7 yX7_box wsX7_box) := goodIn_app (goodIn_of _ (by decide +kernel)) ggL_law_X7_box
set_option maxRecDepth 20000 in
theorem ggL_law_X6_run : GoodIn wsL_law wsX6_run := goodIn_r _ [223, 26, 15, 224, 225, 27, 226, 103, 104, 2, 105, 227, 228, 229, 25, 230, 44, 46, 48, 50, 231, 232, 233, 234, 235, 121, 154, 236, 237, 238, 239, 240, 241, 242, 45, 243, 244, 245, 246, 247, 13, 248, 249, 250, 251, 49, 252, 253, 254, 255, 256, 257, 258, 259, 260, 261, 262, 263, 264, 265, 266, 267, 268, 269, 270, 271, 272, 273, 274, 275, 276, 277, 278, 279, 280, 281, 282, 283, 284, 285, 22, 18, 286, 287, 288, 289, 17, 170, 192, 290, 291, 292, 293, 191, 294, 295, 296, 21, 297, 36, 298, 299, 300, 301, 35, 37, 38, 302, 303, 304, 305, 39, 40, 306, 307, 308, 309, 214, 215, 310, 311, 312, 313, 201, 202, 203, 204, 314, 315, 316, 317, 318, 319, 320, 321, 322, 323, 324, 325, 47, 326, 327, 328, 329, 466, 467, 468, 469, 470, 471, 472, 507, 508, 509, 510, 511, 512, 513, 514, 515, 516, 520, 521, 522, 523, 517, 518, 519, 501, 502, 503, 504, 505, 506] (by decide +kernel) (by decide +kernel)
set_option maxRecDepth 20000 in
theorem gL_law_X6_run : GoodIn wsL_law (wsV RL 52 RX6 yX6_run wsX6_run) := goodIn_app (goodIn_of _ (by decide +kernel)) ggL_law_X6_run
set_option maxRecDepth 20000 in
theorem ggL_law_X7_run : GoodIn wsL_law wsX7_run := goodIn_r _ [333, 113, 95, 334, 335, 130, 131, 5, 132, 114, 115, 116, 336, 337, 338, 339, 82, 81, 97, 340, 341, 342, 343, 344, 96, 345, 346, 347, 348, 83, 79, 349, 350, 351, 352, 353, 354, 355, 356, 357, 358, 84, 85, 86, 359, 360, 361, 362, 80, 90, 363, 364, 365, 366, 367, 368, 369, 370, 371, 372, 373, 374, 87, 88, 375, 376, 377, 378, 89, 379, 380, 381, 382, 91, 383, 92, 384, 385, 386, 387, 93, 209, 388, 389, 390, 391, 392, 393, 394, 395, 396, 397, 398, 399, 94, 400, 401, 402, 403, 98, 404, 405, 406, 407, 473, 474, 475, 476, 477, 478, 479, 480, 481, 482, 483, 484, 485, 486, 487, 488, 489, 490, 491, 492, 493, 494, 495, 496, 497, 498, 499, 500] (by decide +kernel) (by decide +kernel)
set_option maxRecDepth 20000 in
theorem gL_law_X7_run : GoodIn wsL_law (wsV RL 56 RX7 yX7_run wsX7_run) := goodIn_app (goodIn_of _ (by decide +kernel)) ggL_law_X7_run
set_option maxRecDepth 20000 in
theorem ggL_law_X6_why : GoodIn wsL_law wsX6_why := goodIn_r _ [411, 26, 412, 413, 103, 104, 2, 105, 466, 467, 468, 469, 470, 471, 472, 507, 508, 509, 510, 511, 512, 513] (by decide +kernel) (by decide +kernel)
set_option maxRecDepth 20000 in
theorem gL_law_X6_why : GoodIn wsL_law (wsV RL 57 RX6 yX6_why wsX6_why) := goodIn_app (goodIn_of _ (by decide +kernel)) ggL_law_X6_why
set_option maxRecDepth 20000 in
theorem ggL_law_X7_why : GoodIn wsL_law wsX7_why := goodIn_r _ [417, 113, 334, 98, 114, 115, 5, 116, 473, 474, 475, 476, 477, 478, 479, 480, 481, 482, 483, 484, 485, 486, 487, 488, 489, 490, 491, 492, 493, 494, 495, 496, 497, 498, 499, 500] (by decide +kernel) (by decide +kernel)
set_option maxRecDepth 20000 in
theorem gL_law_X7_why : GoodIn wsL_law (wsV RL 60 RX7 yX7_why wsX7_why) := goodIn_app (goodIn_of _ (by decide +kernel)) ggL_law_X7_why
set_option maxRecDepth 20000 in
theorem ggL_law_X6_told : GoodIn wsL_law wsX6_told := goodIn_r _ [421, 26, 422, 423, 258, 103, 104, 2, 105, 466, 467, 468, 469, 470, 471, 472, 507, 508, 509, 510, 511, 512, 513] (by decide +kernel) (by decide +kernel)
set_option maxRecDepth 20000 in
theorem gL_law_X6_told : GoodIn wsL_law (wsV RL 61 RX6 yX6_told wsX6_told) := goodIn_app (goodIn_of _ (by decide +kernel)) ggL_law_X6_told
set_option maxRecDepth 20000 in
theorem ggL_law_X7_told : GoodIn wsL_law wsX7_told := goodIn_r _ [427, 113, 95, 114, 115, 5, 116, 473, 474, 475, 476, 477, 478, 479, 480, 481, 482, 483, 484, 485, 486, 487, 488, 489, 490, 491, 492, 493, 494, 495, 496, 497, 498, 499, 500] (by decide +kernel) (by decide +kernel)
set_option maxRecDepth 20000 in
theorem gL_law_X7_told : GoodIn wsL_law (wsV RL 64 RX7 yX7_told wsX7_told) := goodIn_app (goodIn_of _ (by decide +kernel)) ggL_law_X7_told
set_option maxRecDepth 20000 in
theorem ggL_law_X6_trace : GoodIn wsL_law wsX6_trace := goodIn_r _ [431, 26, 422, 432, 433, 434, 435, 436, 103, 104, 2, 105, 466, 467, 468, 469, 470, 471, 472, 507, 508, 509, 510, 511, 512, 513] (by decide +kernel) (by decide +kernel)
set_option maxRecDepth 20000 in
theorem gL_law_X6_trace : GoodIn wsL_law (wsV RL 65 RX6 yX6_trace wsX6_trace) := goodIn_app (goodIn_of _ (by decide +kernel)) ggL_law_X6_trace
set_option maxRecDepth 20000 in
theorem ggL_law_X7_trace : GoodIn wsL_law wsX7_trace := goodIn_r _ [440, 113, 95, 96, 114, 115, 5, 116, 473, 474, 475, 476, 477, 478, 479, 480, 481, 482, 483, 484, 485, 486, 487, 488, 489, 490, 491, 492, 493, 494, 495, 496, 497, 498, 499, 500] (by decide +kernel) (by decide +kernel)
set_option maxRecDepth 20000 in
theorem gL_law_X7_trace : GoodIn wsL_law (wsV RL 68 RX7 yX7_trace wsX7_trace) := goodIn_app (goodIn_of _ (by decide +kernel)) ggL_law_X7_trace
set_option maxRecDepth 20000 in
theorem ggL_law_X6_noted : GoodIn wsL_law wsX6_noted := goodIn_r _ [444, 26, 423, 445, 103, 104, 2, 105, 466, 467, 468, 469, 470, 471, 472, 507, 508, 509, 510, 511, 512, 513] (by decide +kernel) (by decide +kernel)
set_option maxRecDepth 20000 in
theorem gL_law_X6_noted : GoodIn wsL_law (wsV RL 69 RX6 yX6_noted wsX6_noted) := goodIn_app (goodIn_of _ (by decide +kernel)) ggL_law_X6_noted
set_option maxRecDepth 20000 in
theorem ggL_law_X7_noted : GoodIn wsL_law wsX7_noted := goodIn_r _ [449, 113, 95, 97, 114, 115, 5, 116, 473, 474, 475, 476, 477, 478, 479, 480, 481, 482, 483, 484, 485, 486, 487, 488, 489, 490, 491, 492, 493, 494, 495, 496, 497, 498, 499, 500] (by decide +kernel) (by decide +kernel)
set_option maxRecDepth 20000 in
theorem gL_law_X7_noted : GoodIn wsL_law (wsV RL 72 RX7 yX7_noted wsX7_noted) := goodIn_app (goodIn_of _ (by decide +kernel)) ggL_law_X7_noted
set_option maxRecDepth 20000 in
theorem ggL_law_X6_drops : GoodIn wsL_law wsX6_drops := goodIn_r _ [453, 13, 103, 104, 2, 105, 106, 107, 108, 466, 467, 468, 469, 470, 471, 472] (by decide +kernel) (by decide +kernel)
set_option maxRecDepth 20000 in
theorem gL_law_X6_drops : GoodIn wsL_law (wsV RL 73 RX6 yX6_drops wsX6_drops) := goodIn_app (goodIn_of _ (by decide +kernel)) ggL_law_X6_drops
set_option maxRecDepth 20000 in
theorem ggL_law_X7_drops : GoodIn wsL_law wsX7_drops := goodIn_r _ [457, 113, 79, 80, 114, 115, 5, 116, 473, 474, 475, 476, 477, 478, 479, 480, 481, 482, 483, 484, 485, 486, 487, 488, 489, 490, 491, 492, 493, 494, 495, 496, 497, 498, 499, 500] (by decide +kernel) (by decide +kernel)
set_option maxRecDepth 20000 in
theorem gL_law_X7_drops : GoodIn wsL_law (wsV RL 76 RX7 yX7_drops wsX7_drops) := goodIn_app (goodIn_of _ (by decide +kernel)) ggL_law_X7_drops
set_option maxRecDepth 20000 in
theorem ggL_law_X6_sum : GoodIn wsL_law wsX6_sum := goodIn_r _ [461, 13, 466, 467, 468, 469, 470, 471, 472] (by decide +kernel) (by decide +kernel)
set_option maxRecDepth 20000 in
theorem gL_law_X6_sum : GoodIn wsL_law (wsV RL 77 RX6 yX6_sum wsX6_sum) := goodIn_app (goodIn_of _ (by decide +kernel)) ggL_law_X6_sum
set_option maxRecDepth 20000 in
theorem ggL_law_X7_sum : GoodIn wsL_law wsX7_sum := goodIn_r _ [465, 113, 79, 80, 473, 474, 475, 476, 477, 478, 479, 480, 481, 482, 483, 484, 485, 486, 487, 488, 489, 490, 491, 492, 493, 494, 495, 496, 497, 498, 499, 500] (by decide +kernel) (by decide +kernel)
set_option maxRecDepth 20000 in
theorem gL_law_X7_sum : GoodIn wsL_law (wsV RL 81 RX7 yX7_sum wsX7_sum) := goodIn_app (goodIn_of _ (by decide +kernel)) ggL_law_X7_sum
end
section
theorem dL_law_0 : decode cL_law 0 = .ok (.new 7, 3) := by decide +kernel
theorem dL_law_3 : decode cL_law 3 = .ok (.dup, 1) := by decide +kernel
theorem dL_law_4 : decode cL_law 4 = .ok (.invokespecial 9, 3) := by decide +kernel
theorem dL_law_7 : decode cL_law 7 = .ok (.astore_n 1, 1) := by decide +kernel
theorem dL_law_8 : decode cL_law 8 = .ok (.new 10, 3) := by decide +kernel
theorem dL_law_11 : decode cL_law 11 = .ok (.dup, 1) := by decide +kernel
theorem dL_law_12 : decode cL_law 12 = .ok (.invokespecial 12, 3) := by decide +kernel
theorem dL_law_15 : decode cL_law 15 = .ok (.astore_n 2, 1) := by decide +kernel
theorem dL_law_16 : decode cL_law 16 = .ok (.iconst 0, 1) := by decide +kernel
theorem dL_law_17 : decode cL_law 17 = .ok (.istore_n 3, 1) := by decide +kernel
theorem dL_law_18 : decode cL_law 18 = .ok (.iload_n 3, 1) := by decide +kernel
theorem dL_law_19 : decode cL_law 19 = .ok (.aload_n 0, 1) := by decide +kernel
theorem dL_law_20 : decode cL_law 20 = .ok (.arraylength, 1) := by decide +kernel
theorem dL_law_21 : decode cL_law 21 = .ok (.iconst 4, 1) := by decide +kernel
theorem dL_law_22 : decode cL_law 22 = .ok (.isub, 1) := by decide +kernel
theorem dL_law_23 : decode cL_law 23 = .ok (.if_icmp .gt 569, 3) := by decide +kernel
theorem dL_law_26 : decode cL_law 26 = .ok (.aload_n 0, 1) := by decide +kernel
theorem dL_law_27 : decode cL_law 27 = .ok (.iload_n 3, 1) := by decide +kernel
theorem dL_law_28 : decode cL_law 28 = .ok (.iaload, 1) := by decide +kernel
theorem dL_law_29 : decode cL_law 29 = .ok (.bipush 15, 2) := by decide +kernel
theorem dL_law_31 : decode cL_law 31 = .ok (.iand, 1) := by decide +kernel
theorem dL_law_32 : decode cL_law 32 = .ok (.tableswitch 554 0 15 #[80, 113, 146, 179, 222, 255, 288, 321, 344, 367, 426, 449, 472, 495, 518, 541], 80) := by decide +kernel
theorem dL_law_112 : decode cL_law 112 = .ok (.aload_n 1, 1) := by decide +kernel
theorem dL_law_113 : decode cL_law 113 = .ok (.aload_n 0, 1) := by decide +kernel
theorem dL_law_114 : decode cL_law 114 = .ok (.iload_n 3, 1) := by decide +kernel
theorem dL_law_115 : decode cL_law 115 = .ok (.iconst 1, 1) := by decide +kernel
theorem dL_law_116 : decode cL_law 116 = .ok (.iadd, 1) := by decide +kernel
theorem dL_law_117 : decode cL_law 117 = .ok (.iaload, 1) := by decide +kernel
theorem dL_law_118 : decode cL_law 118 = .ok (.aload_n 0, 1) := by decide +kernel
theorem dL_law_119 : decode cL_law 119 = .ok (.iload_n 3, 1) := by decide +kernel
theorem dL_law_120 : decode cL_law 120 = .ok (.iconst 2, 1) := by decide +kernel
theorem dL_law_121 : decode cL_law 121 = .ok (.iadd, 1) := by decide +kernel
theorem dL_law_122 : decode cL_law 122 = .ok (.iaload, 1) := by decide +kernel
theorem dL_law_123 : decode cL_law 123 = .ok (.invokevirtual 13, 3) := by decide +kernel
theorem dL_law_126 : decode cL_law 126 = .ok (.aload_n 2, 1) := by decide +kernel
theorem dL_law_127 : decode cL_law 127 = .ok (.aload_n 0, 1) := by decide +kernel
theorem dL_law_128 : decode cL_law 128 = .ok (.iload_n 3, 1) := by decide +kernel
theorem dL_law_129 : decode cL_law 129 = .ok (.iconst 1, 1) := by decide +kernel
theorem dL_law_130 : decode cL_law 130 = .ok (.iadd, 1) := by decide +kernel
theorem dL_law_131 : decode cL_law 131 = .ok (.iaload, 1) := by decide +kernel
theorem dL_law_132 : decode cL_law 132 = .ok (.aload_n 0, 1) := by decide +kernel
theorem dL_law_133 : decode cL_law 133 = .ok (.iload_n 3, 1) := by decide +kernel
theorem dL_law_134 : decode cL_law 134 = .ok (.iconst 2, 1) := by decide +kernel
theorem dL_law_135 : decode cL_law 135 = .ok (.iadd, 1) := by decide +kernel
theorem dL_law_136 : decode cL_law 136 = .ok (.iaload, 1) := by decide +kernel
theorem dL_law_137 : decode cL_law 137 = .ok (.invokevirtual 17, 3) := by decide +kernel
theorem dL_law_140 : decode cL_law 140 = .ok (.if_icmp .eq 446, 3) := by decide +kernel
theorem dL_law_143 : decode cL_law 143 = .ok (.iconst 0, 1) := by decide +kernel
theorem dL_law_144 : decode cL_law 144 = .ok (.ireturn, 1) := by decide +kernel
theorem dL_law_145 : decode cL_law 145 = .ok (.aload_n 1, 1) := by decide +kernel
theorem dL_law_146 : decode cL_law 146 = .ok (.aload_n 0, 1) := by decide +kernel
theorem dL_law_147 : decode cL_law 147 = .ok (.iload_n 3, 1) := by decide +kernel
theorem dL_law_148 : decode cL_law 148 = .ok (.iconst 1, 1) := by decide +kernel
theorem dL_law_149 : decode cL_law 149 = .ok (.iadd, 1) := by decide +kernel
theorem dL_law_150 : decode cL_law 150 = .ok (.iaload, 1) := by decide +kernel
theorem dL_law_151 : decode cL_law 151 = .ok (.aload_n 0, 1) := by decide +kernel
theorem dL_law_152 : decode cL_law 152 = .ok (.iload_n 3, 1) := by decide +kernel
theorem dL_law_153 : decode cL_law 153 = .ok (.iconst 2, 1) := by decide +kernel
theorem dL_law_154 : decode cL_law 154 = .ok (.iadd, 1) := by decide +kernel
theorem dL_law_155 : decode cL_law 155 = .ok (.iaload, 1) := by decide +kernel
theorem dL_law_156 : decode cL_law 156 = .ok (.invokevirtual 18, 3) := by decide +kernel
theorem dL_law_159 : decode cL_law 159 = .ok (.aload_n 2, 1) := by decide +kernel
theorem dL_law_160 : decode cL_law 160 = .ok (.aload_n 0, 1) := by decide +kernel
theorem dL_law_161 : decode cL_law 161 = .ok (.iload_n 3, 1) := by decide +kernel
theorem dL_law_162 : decode cL_law 162 = .ok (.iconst 1, 1) := by decide +kernel
theorem dL_law_163 : decode cL_law 163 = .ok (.iadd, 1) := by decide +kernel
theorem dL_law_164 : decode cL_law 164 = .ok (.iaload, 1) := by decide +kernel
theorem dL_law_165 : decode cL_law 165 = .ok (.aload_n 0, 1) := by decide +kernel
theorem dL_law_166 : decode cL_law 166 = .ok (.iload_n 3, 1) := by decide +kernel
theorem dL_law_167 : decode cL_law 167 = .ok (.iconst 2, 1) := by decide +kernel
theorem dL_law_168 : decode cL_law 168 = .ok (.iadd, 1) := by decide +kernel
theorem dL_law_169 : decode cL_law 169 = .ok (.iaload, 1) := by decide +kernel
theorem dL_law_170 : decode cL_law 170 = .ok (.invokevirtual 21, 3) := by decide +kernel
theorem dL_law_173 : decode cL_law 173 = .ok (.if_icmp .eq 413, 3) := by decide +kernel
theorem dL_law_176 : decode cL_law 176 = .ok (.iconst 0, 1) := by decide +kernel
theorem dL_law_177 : decode cL_law 177 = .ok (.ireturn, 1) := by decide +kernel
theorem dL_law_178 : decode cL_law 178 = .ok (.aload_n 1, 1) := by decide +kernel
theorem dL_law_179 : decode cL_law 179 = .ok (.aload_n 0, 1) := by decide +kernel
theorem dL_law_180 : decode cL_law 180 = .ok (.iload_n 3, 1) := by decide +kernel
theorem dL_law_181 : decode cL_law 181 = .ok (.iconst 1, 1) := by decide +kernel
theorem dL_law_182 : decode cL_law 182 = .ok (.iadd, 1) := by decide +kernel
theorem dL_law_183 : decode cL_law 183 = .ok (.iaload, 1) := by decide +kernel
theorem dL_law_184 : decode cL_law 184 = .ok (.aload_n 0, 1) := by decide +kernel
theorem dL_law_185 : decode cL_law 185 = .ok (.iload_n 3, 1) := by decide +kernel
theorem dL_law_186 : decode cL_law 186 = .ok (.iconst 2, 1) := by decide +kernel
theorem dL_law_187 : decode cL_law 187 = .ok (.iadd, 1) := by decide +kernel
theorem dL_law_188 : decode cL_law 188 = .ok (.iaload, 1) := by decide +kernel
theorem dL_law_189 : decode cL_law 189 = .ok (.invokevirtual 22, 3) := by decide +kernel
theorem dL_law_192 : decode cL_law 192 = .ok (.aload_n 2, 1) := by decide +kernel
theorem dL_law_193 : decode cL_law 193 = .ok (.aload_n 0, 1) := by decide +kernel
theorem dL_law_194 : decode cL_law 194 = .ok (.iload_n 3, 1) := by decide +kernel
theorem dL_law_195 : decode cL_law 195 = .ok (.iconst 1, 1) := by decide +kernel
theorem dL_law_196 : decode cL_law 196 = .ok (.iadd, 1) := by decide +kernel
theorem dL_law_197 : decode cL_law 197 = .ok (.iaload, 1) := by decide +kernel
theorem dL_law_198 : decode cL_law 198 = .ok (.aload_n 0, 1) := by decide +kernel
theorem dL_law_199 : decode cL_law 199 = .ok (.iload_n 3, 1) := by decide +kernel
theorem dL_law_200 : decode cL_law 200 = .ok (.iconst 2, 1) := by decide +kernel
theorem dL_law_201 : decode cL_law 201 = .ok (.iadd, 1) := by decide +kernel
theorem dL_law_202 : decode cL_law 202 = .ok (.iaload, 1) := by decide +kernel
theorem dL_law_203 : decode cL_law 203 = .ok (.invokevirtual 25, 3) := by decide +kernel
theorem dL_law_206 : decode cL_law 206 = .ok (.if_icmp .eq 380, 3) := by decide +kernel
theorem dL_law_209 : decode cL_law 209 = .ok (.iconst 0, 1) := by decide +kernel
theorem dL_law_210 : decode cL_law 210 = .ok (.ireturn, 1) := by decide +kernel
theorem dL_law_211 : decode cL_law 211 = .ok (.aload_n 1, 1) := by decide +kernel
theorem dL_law_212 : decode cL_law 212 = .ok (.aload_n 0, 1) := by decide +kernel
theorem dL_law_213 : decode cL_law 213 = .ok (.iload_n 3, 1) := by decide +kernel
theorem dL_law_214 : decode cL_law 214 = .ok (.iconst 1, 1) := by decide +kernel
theorem dL_law_215 : decode cL_law 215 = .ok (.iadd, 1) := by decide +kernel
theorem dL_law_216 : decode cL_law 216 = .ok (.iaload, 1) := by decide +kernel
theorem dL_law_217 : decode cL_law 217 = .ok (.aload_n 0, 1) := by decide +kernel
theorem dL_law_218 : decode cL_law 218 = .ok (.iload_n 3, 1) := by decide +kernel
theorem dL_law_219 : decode cL_law 219 = .ok (.iconst 2, 1) := by decide +kernel
theorem dL_law_220 : decode cL_law 220 = .ok (.iadd, 1) := by decide +kernel
theorem dL_law_221 : decode cL_law 221 = .ok (.iaload, 1) := by decide +kernel
theorem dL_law_222 : decode cL_law 222 = .ok (.aload_n 0, 1) := by decide +kernel
theorem dL_law_223 : decode cL_law 223 = .ok (.iload_n 3, 1) := by decide +kernel
theorem dL_law_224 : decode cL_law 224 = .ok (.iconst 3, 1) := by decide +kernel
theorem dL_law_225 : decode cL_law 225 = .ok (.iadd, 1) := by decide +kernel
theorem dL_law_226 : decode cL_law 226 = .ok (.iaload, 1) := by decide +kernel
theorem dL_law_227 : decode cL_law 227 = .ok (.invokevirtual 26, 3) := by decide +kernel
theorem dL_law_230 : decode cL_law 230 = .ok (.aload_n 2, 1) := by decide +kernel
theorem dL_law_231 : decode cL_law 231 = .ok (.aload_n 0, 1) := by decide +kernel
theorem dL_law_232 : decode cL_law 232 = .ok (.iload_n 3, 1) := by decide +kernel
theorem dL_law_233 : decode cL_law 233 = .ok (.iconst 1, 1) := by decide +kernel
theorem dL_law_234 : decode cL_law 234 = .ok (.iadd, 1) := by decide +kernel
theorem dL_law_235 : decode cL_law 235 = .ok (.iaload, 1) := by decide +kernel
theorem dL_law_236 : decode cL_law 236 = .ok (.aload_n 0, 1) := by decide +kernel
theorem dL_law_237 : decode cL_law 237 = .ok (.iload_n 3, 1) := by decide +kernel
theorem dL_law_238 : decode cL_law 238 = .ok (.iconst 2, 1) := by decide +kernel
theorem dL_law_239 : decode cL_law 239 = .ok (.iadd, 1) := by decide +kernel
theorem dL_law_240 : decode cL_law 240 = .ok (.iaload, 1) := by decide +kernel
theorem dL_law_241 : decode cL_law 241 = .ok (.aload_n 0, 1) := by decide +kernel
theorem dL_law_242 : decode cL_law 242 = .ok (.iload_n 3, 1) := by decide +kernel
theorem dL_law_243 : decode cL_law 243 = .ok (.iconst 3, 1) := by decide +kernel
theorem dL_law_244 : decode cL_law 244 = .ok (.iadd, 1) := by decide +kernel
theorem dL_law_245 : decode cL_law 245 = .ok (.iaload, 1) := by decide +kernel
theorem dL_law_246 : decode cL_law 246 = .ok (.invokevirtual 30, 3) := by decide +kernel
theorem dL_law_249 : decode cL_law 249 = .ok (.if_icmp .eq 337, 3) := by decide +kernel
theorem dL_law_252 : decode cL_law 252 = .ok (.iconst 0, 1) := by decide +kernel
theorem dL_law_253 : decode cL_law 253 = .ok (.ireturn, 1) := by decide +kernel
theorem dL_law_254 : decode cL_law 254 = .ok (.aload_n 1, 1) := by decide +kernel
theorem dL_law_255 : decode cL_law 255 = .ok (.aload_n 0, 1) := by decide +kernel
theorem dL_law_256 : decode cL_law 256 = .ok (.iload_n 3, 1) := by decide +kernel
theorem dL_law_257 : decode cL_law 257 = .ok (.iconst 1, 1) := by decide +kernel
theorem dL_law_258 : decode cL_law 258 = .ok (.iadd, 1) := by decide +kernel
theorem dL_law_259 : decode cL_law 259 = .ok (.iaload, 1) := by decide +kernel
theorem dL_law_260 : decode cL_law 260 = .ok (.aload_n 0, 1) := by decide +kernel
theorem dL_law_261 : decode cL_law 261 = .ok (.iload_n 3, 1) := by decide +kernel
theorem dL_law_262 : decode cL_law 262 = .ok (.iconst 2, 1) := by decide +kernel
theorem dL_law_263 : decode cL_law 263 = .ok (.iadd, 1) := by decide +kernel
theorem dL_law_264 : decode cL_law 264 = .ok (.iaload, 1) := by decide +kernel
theorem dL_law_265 : decode cL_law 265 = .ok (.invokevirtual 31, 3) := by decide +kernel
theorem dL_law_268 : decode cL_law 268 = .ok (.aload_n 2, 1) := by decide +kernel
theorem dL_law_269 : decode cL_law 269 = .ok (.aload_n 0, 1) := by decide +kernel
theorem dL_law_270 : decode cL_law 270 = .ok (.iload_n 3, 1) := by decide +kernel
theorem dL_law_271 : decode cL_law 271 = .ok (.iconst 1, 1) := by decide +kernel
theorem dL_law_272 : decode cL_law 272 = .ok (.iadd, 1) := by decide +kernel
theorem dL_law_273 : decode cL_law 273 = .ok (.iaload, 1) := by decide +kernel
theorem dL_law_274 : decode cL_law 274 = .ok (.aload_n 0, 1) := by decide +kernel
theorem dL_law_275 : decode cL_law 275 = .ok (.iload_n 3, 1) := by decide +kernel
theorem dL_law_276 : decode cL_law 276 = .ok (.iconst 2, 1) := by decide +kernel
theorem dL_law_277 : decode cL_law 277 = .ok (.iadd, 1) := by decide +kernel
theorem dL_law_278 : decode cL_law 278 = .ok (.iaload, 1) := by decide +kernel
theorem dL_law_279 : decode cL_law 279 = .ok (.invokevirtual 34, 3) := by decide +kernel
theorem dL_law_282 : decode cL_law 282 = .ok (.if_icmp .eq 304, 3) := by decide +kernel
theorem dL_law_285 : decode cL_law 285 = .ok (.iconst 0, 1) := by decide +kernel
theorem dL_law_286 : decode cL_law 286 = .ok (.ireturn, 1) := by decide +kernel
theorem dL_law_287 : decode cL_law 287 = .ok (.aload_n 1, 1) := by decide +kernel
theorem dL_law_288 : decode cL_law 288 = .ok (.aload_n 0, 1) := by decide +kernel
theorem dL_law_289 : decode cL_law 289 = .ok (.iload_n 3, 1) := by decide +kernel
theorem dL_law_290 : decode cL_law 290 = .ok (.iconst 1, 1) := by decide +kernel
theorem dL_law_291 : decode cL_law 291 = .ok (.iadd, 1) := by decide +kernel
theorem dL_law_292 : decode cL_law 292 = .ok (.iaload, 1) := by decide +kernel
theorem dL_law_293 : decode cL_law 293 = .ok (.aload_n 0, 1) := by decide +kernel
theorem dL_law_294 : decode cL_law 294 = .ok (.iload_n 3, 1) := by decide +kernel
theorem dL_law_295 : decode cL_law 295 = .ok (.iconst 2, 1) := by decide +kernel
theorem dL_law_296 : decode cL_law 296 = .ok (.iadd, 1) := by decide +kernel
theorem dL_law_297 : decode cL_law 297 = .ok (.iaload, 1) := by decide +kernel
theorem dL_law_298 : decode cL_law 298 = .ok (.invokevirtual 35, 3) := by decide +kernel
theorem dL_law_301 : decode cL_law 301 = .ok (.aload_n 2, 1) := by decide +kernel
theorem dL_law_302 : decode cL_law 302 = .ok (.aload_n 0, 1) := by decide +kernel
theorem dL_law_303 : decode cL_law 303 = .ok (.iload_n 3, 1) := by decide +kernel
theorem dL_law_304 : decode cL_law 304 = .ok (.iconst 1, 1) := by decide +kernel
theorem dL_law_305 : decode cL_law 305 = .ok (.iadd, 1) := by decide +kernel
theorem dL_law_306 : decode cL_law 306 = .ok (.iaload, 1) := by decide +kernel
theorem dL_law_307 : decode cL_law 307 = .ok (.aload_n 0, 1) := by decide +kernel
theorem dL_law_308 : decode cL_law 308 = .ok (.iload_n 3, 1) := by decide +kernel
theorem dL_law_309 : decode cL_law 309 = .ok (.iconst 2, 1) := by decide +kernel
theorem dL_law_310 : decode cL_law 310 = .ok (.iadd, 1) := by decide +kernel
theorem dL_law_311 : decode cL_law 311 = .ok (.iaload, 1) := by decide +kernel
theorem dL_law_312 : decode cL_law 312 = .ok (.invokevirtual 38, 3) := by decide +kernel
theorem dL_law_315 : decode cL_law 315 = .ok (.if_icmp .eq 271, 3) := by decide +kernel
theorem dL_law_318 : decode cL_law 318 = .ok (.iconst 0, 1) := by decide +kernel
theorem dL_law_319 : decode cL_law 319 = .ok (.ireturn, 1) := by decide +kernel
theorem dL_law_320 : decode cL_law 320 = .ok (.aload_n 1, 1) := by decide +kernel
theorem dL_law_321 : decode cL_law 321 = .ok (.aload_n 0, 1) := by decide +kernel
theorem dL_law_322 : decode cL_law 322 = .ok (.iload_n 3, 1) := by decide +kernel
theorem dL_law_323 : decode cL_law 323 = .ok (.iconst 1, 1) := by decide +kernel
theorem dL_law_324 : decode cL_law 324 = .ok (.iadd, 1) := by decide +kernel
theorem dL_law_325 : decode cL_law 325 = .ok (.iaload, 1) := by decide +kernel
theorem dL_law_326 : decode cL_law 326 = .ok (.aload_n 0, 1) := by decide +kernel
theorem dL_law_327 : decode cL_law 327 = .ok (.iload_n 3, 1) := by decide +kernel
theorem dL_law_328 : decode cL_law 328 = .ok (.iconst 2, 1) := by decide +kernel
theorem dL_law_329 : decode cL_law 329 = .ok (.iadd, 1) := by decide +kernel
theorem dL_law_330 : decode cL_law 330 = .ok (.iaload, 1) := by decide +kernel
theorem dL_law_331 : decode cL_law 331 = .ok (.invokevirtual 39, 3) := by decide +kernel
theorem dL_law_334 : decode cL_law 334 = .ok (.aload_n 2, 1) := by decide +kernel
theorem dL_law_335 : decode cL_law 335 = .ok (.aload_n 0, 1) := by decide +kernel
theorem dL_law_336 : decode cL_law 336 = .ok (.iload_n 3, 1) := by decide +kernel
theorem dL_law_337 : decode cL_law 337 = .ok (.iconst 1, 1) := by decide +kernel
theorem dL_law_338 : decode cL_law 338 = .ok (.iadd, 1) := by decide +kernel
theorem dL_law_339 : decode cL_law 339 = .ok (.iaload, 1) := by decide +kernel
theorem dL_law_340 : decode cL_law 340 = .ok (.aload_n 0, 1) := by decide +kernel
theorem dL_law_341 : decode cL_law 341 = .ok (.iload_n 3, 1) := by decide +kernel
theorem dL_law_342 : decode cL_law 342 = .ok (.iconst 2, 1) := by decide +kernel
theorem dL_law_343 : decode cL_law 343 = .ok (.iadd, 1) := by decide +kernel
theorem dL_law_344 : decode cL_law 344 = .ok (.iaload, 1) := by decide +kernel
theorem dL_law_345 : decode cL_law 345 = .ok (.invokevirtual 42, 3) := by decide +kernel
theorem dL_law_348 : decode cL_law 348 = .ok (.if_icmp .eq 238, 3) := by decide +kernel
theorem dL_law_351 : decode cL_law 351 = .ok (.iconst 0, 1) := by decide +kernel
theorem dL_law_352 : decode cL_law 352 = .ok (.ireturn, 1) := by decide +kernel
theorem dL_law_353 : decode cL_law 353 = .ok (.aload_n 1, 1) := by decide +kernel
theorem dL_law_354 : decode cL_law 354 = .ok (.aload_n 0, 1) := by decide +kernel
theorem dL_law_355 : decode cL_law 355 = .ok (.iload_n 3, 1) := by decide +kernel
theorem dL_law_356 : decode cL_law 356 = .ok (.iconst 1, 1) := by decide +kernel
theorem dL_law_357 : decode cL_law 357 = .ok (.iadd, 1) := by decide +kernel
theorem dL_law_358 : decode cL_law 358 = .ok (.iaload, 1) := by decide +kernel
theorem dL_law_359 : decode cL_law 359 = .ok (.invokevirtual 43, 3) := by decide +kernel
theorem dL_law_362 : decode cL_law 362 = .ok (.aload_n 2, 1) := by decide +kernel
theorem dL_law_363 : decode cL_law 363 = .ok (.aload_n 0, 1) := by decide +kernel
theorem dL_law_364 : decode cL_law 364 = .ok (.iload_n 3, 1) := by decide +kernel
theorem dL_law_365 : decode cL_law 365 = .ok (.iconst 1, 1) := by decide +kernel
theorem dL_law_366 : decode cL_law 366 = .ok (.iadd, 1) := by decide +kernel
theorem dL_law_367 : decode cL_law 367 = .ok (.iaload, 1) := by decide +kernel
theorem dL_law_368 : decode cL_law 368 = .ok (.invokevirtual 47, 3) := by decide +kernel
theorem dL_law_371 : decode cL_law 371 = .ok (.if_icmp .eq 215, 3) := by decide +kernel
theorem dL_law_374 : decode cL_law 374 = .ok (.iconst 0, 1) := by decide +kernel
theorem dL_law_375 : decode cL_law 375 = .ok (.ireturn, 1) := by decide +kernel
theorem dL_law_376 : decode cL_law 376 = .ok (.aload_n 1, 1) := by decide +kernel
theorem dL_law_377 : decode cL_law 377 = .ok (.aload_n 0, 1) := by decide +kernel
theorem dL_law_378 : decode cL_law 378 = .ok (.iload_n 3, 1) := by decide +kernel
theorem dL_law_379 : decode cL_law 379 = .ok (.iconst 1, 1) := by decide +kernel
theorem dL_law_380 : decode cL_law 380 = .ok (.iadd, 1) := by decide +kernel
theorem dL_law_381 : decode cL_law 381 = .ok (.iaload, 1) := by decide +kernel
theorem dL_law_382 : decode cL_law 382 = .ok (.invokevirtual 48, 3) := by decide +kernel
theorem dL_law_385 : decode cL_law 385 = .ok (.aload_n 2, 1) := by decide +kernel
theorem dL_law_386 : decode cL_law 386 = .ok (.aload_n 0, 1) := by decide +kernel
theorem dL_law_387 : decode cL_law 387 = .ok (.iload_n 3, 1) := by decide +kernel
theorem dL_law_388 : decode cL_law 388 = .ok (.iconst 1, 1) := by decide +kernel
theorem dL_law_389 : decode cL_law 389 = .ok (.iadd, 1) := by decide +kernel
theorem dL_law_390 : decode cL_law 390 = .ok (.iaload, 1) := by decide +kernel
theorem dL_law_391 : decode cL_law 391 = .ok (.invokevirtual 51, 3) := by decide +kernel
theorem dL_law_394 : decode cL_law 394 = .ok (.if_icmp .eq 192, 3) := by decide +kernel
theorem dL_law_397 : decode cL_law 397 = .ok (.iconst 0, 1) := by decide +kernel
theorem dL_law_398 : decode cL_law 398 = .ok (.ireturn, 1) := by decide +kernel
theorem dL_law_399 : decode cL_law 399 = .ok (.aload_n 1, 1) := by decide +kernel
theorem dL_law_400 : decode cL_law 400 = .ok (.aload_n 0, 1) := by decide +kernel
theorem dL_law_401 : decode cL_law 401 = .ok (.iload_n 3, 1) := by decide +kernel
theorem dL_law_402 : decode cL_law 402 = .ok (.iconst 1, 1) := by decide +kernel
theorem dL_law_403 : decode cL_law 403 = .ok (.iadd, 1) := by decide +kernel
theorem dL_law_404 : decode cL_law 404 = .ok (.iaload, 1) := by decide +kernel
theorem dL_law_405 : decode cL_law 405 = .ok (.aload_n 0, 1) := by decide +kernel
theorem dL_law_406 : decode cL_law 406 = .ok (.iload_n 3, 1) := by decide +kernel
theorem dL_law_407 : decode cL_law 407 = .ok (.iconst 2, 1) := by decide +kernel
theorem dL_law_408 : decode cL_law 408 = .ok (.iadd, 1) := by decide +kernel
theorem dL_law_409 : decode cL_law 409 = .ok (.iaload, 1) := by decide +kernel
theorem dL_law_410 : decode cL_law 410 = .ok (.aload_n 0, 1) := by decide +kernel
theorem dL_law_411 : decode cL_law 411 = .ok (.iload_n 3, 1) := by decide +kernel
theorem dL_law_412 : decode cL_law 412 = .ok (.iconst 3, 1) := by decide +kernel
theorem dL_law_413 : decode cL_law 413 = .ok (.iadd, 1) := by decide +kernel
theorem dL_law_414 : decode cL_law 414 = .ok (.iaload, 1) := by decide +kernel
theorem dL_law_415 : decode cL_law 415 = .ok (.ifCond .eq 7, 3) := by decide +kernel
theorem dL_law_418 : decode cL_law 418 = .ok (.iconst 1, 1) := by decide +kernel
theorem dL_law_419 : decode cL_law 419 = .ok (.goto 4, 3) := by decide +kernel
theorem dL_law_422 : decode cL_law 422 = .ok (.iconst 0, 1) := by decide +kernel
theorem dL_law_423 : decode cL_law 423 = .ok (.invokevirtual 52, 3) := by decide +kernel
theorem dL_law_426 : decode cL_law 426 = .ok (.aload_n 2, 1) := by decide +kernel
theorem dL_law_427 : decode cL_law 427 = .ok (.aload_n 0, 1) := by decide +kernel
theorem dL_law_428 : decode cL_law 428 = .ok (.iload_n 3, 1) := by decide +kernel
theorem dL_law_429 : decode cL_law 429 = .ok (.iconst 1, 1) := by decide +kernel
theorem dL_law_430 : decode cL_law 430 = .ok (.iadd, 1) := by decide +kernel
theorem dL_law_431 : decode cL_law 431 = .ok (.iaload, 1) := by decide +kernel
theorem dL_law_432 : decode cL_law 432 = .ok (.aload_n 0, 1) := by decide +kernel
theorem dL_law_433 : decode cL_law 433 = .ok (.iload_n 3, 1) := by decide +kernel
theorem dL_law_434 : decode cL_law 434 = .ok (.iconst 2, 1) := by decide +kernel
theorem dL_law_435 : decode cL_law 435 = .ok (.iadd, 1) := by decide +kernel
theorem dL_law_436 : decode cL_law 436 = .ok (.iaload, 1) := by decide +kernel
theorem dL_law_437 : decode cL_law 437 = .ok (.aload_n 0, 1) := by decide +kernel
theorem dL_law_438 : decode cL_law 438 = .ok (.iload_n 3, 1) := by decide +kernel
theorem dL_law_439 : decode cL_law 439 = .ok (.iconst 3, 1) := by decide +kernel
theorem dL_law_440 : decode cL_law 440 = .ok (.iadd, 1) := by decide +kernel
theorem dL_law_441 : decode cL_law 441 = .ok (.iaload, 1) := by decide +kernel
theorem dL_law_442 : decode cL_law 442 = .ok (.ifCond .eq 7, 3) := by decide +kernel
theorem dL_law_445 : decode cL_law 445 = .ok (.iconst 1, 1) := by decide +kernel
theorem dL_law_446 : decode cL_law 446 = .ok (.goto 4, 3) := by decide +kernel
theorem dL_law_449 : decode cL_law 449 = .ok (.iconst 0, 1) := by decide +kernel
theorem dL_law_450 : decode cL_law 450 = .ok (.invokevirtual 56, 3) := by decide +kernel
theorem dL_law_453 : decode cL_law 453 = .ok (.if_icmp .eq 133, 3) := by decide +kernel
theorem dL_law_456 : decode cL_law 456 = .ok (.iconst 0, 1) := by decide +kernel
theorem dL_law_457 : decode cL_law 457 = .ok (.ireturn, 1) := by decide +kernel
theorem dL_law_458 : decode cL_law 458 = .ok (.aload_n 1, 1) := by decide +kernel
theorem dL_law_459 : decode cL_law 459 = .ok (.aload_n 0, 1) := by decide +kernel
theorem dL_law_460 : decode cL_law 460 = .ok (.iload_n 3, 1) := by decide +kernel
theorem dL_law_461 : decode cL_law 461 = .ok (.iconst 1, 1) := by decide +kernel
theorem dL_law_462 : decode cL_law 462 = .ok (.iadd, 1) := by decide +kernel
theorem dL_law_463 : decode cL_law 463 = .ok (.iaload, 1) := by decide +kernel
theorem dL_law_464 : decode cL_law 464 = .ok (.invokevirtual 57, 3) := by decide +kernel
theorem dL_law_467 : decode cL_law 467 = .ok (.aload_n 2, 1) := by decide +kernel
theorem dL_law_468 : decode cL_law 468 = .ok (.aload_n 0, 1) := by decide +kernel
theorem dL_law_469 : decode cL_law 469 = .ok (.iload_n 3, 1) := by decide +kernel
theorem dL_law_470 : decode cL_law 470 = .ok (.iconst 1, 1) := by decide +kernel
theorem dL_law_471 : decode cL_law 471 = .ok (.iadd, 1) := by decide +kernel
theorem dL_law_472 : decode cL_law 472 = .ok (.iaload, 1) := by decide +kernel
theorem dL_law_473 : decode cL_law 473 = .ok (.invokevirtual 60, 3) := by decide +kernel
theorem dL_law_476 : decode cL_law 476 = .ok (.if_icmp .eq 110, 3) := by decide +kernel
theorem dL_law_479 : decode cL_law 479 = .ok (.iconst 0, 1) := by decide +kernel
theorem dL_law_480 : decode cL_law 480 = .ok (.ireturn, 1) := by decide +kernel
theorem dL_law_481 : decode cL_law 481 = .ok (.aload_n 1, 1) := by decide +kernel
theorem dL_law_482 : decode cL_law 482 = .ok (.aload_n 0, 1) := by decide +kernel
theorem dL_law_483 : decode cL_law 483 = .ok (.iload_n 3, 1) := by decide +kernel
theorem dL_law_484 : decode cL_law 484 = .ok (.iconst 1, 1) := by decide +kernel
theorem dL_law_485 : decode cL_law 485 = .ok (.iadd, 1) := by decide +kernel
theorem dL_law_486 : decode cL_law 486 = .ok (.iaload, 1) := by decide +kernel
theorem dL_law_487 : decode cL_law 487 = .ok (.invokevirtual 61, 3) := by decide +kernel
theorem dL_law_490 : decode cL_law 490 = .ok (.aload_n 2, 1) := by decide +kernel
theorem dL_law_491 : decode cL_law 491 = .ok (.aload_n 0, 1) := by decide +kernel
theorem dL_law_492 : decode cL_law 492 = .ok (.iload_n 3, 1) := by decide +kernel
theorem dL_law_493 : decode cL_law 493 = .ok (.iconst 1, 1) := by decide +kernel
theorem dL_law_494 : decode cL_law 494 = .ok (.iadd, 1) := by decide +kernel
theorem dL_law_495 : decode cL_law 495 = .ok (.iaload, 1) := by decide +kernel
theorem dL_law_496 : decode cL_law 496 = .ok (.invokevirtual 64, 3) := by decide +kernel
theorem dL_law_499 : decode cL_law 499 = .ok (.if_icmp .eq 87, 3) := by decide +kernel
theorem dL_law_502 : decode cL_law 502 = .ok (.iconst 0, 1) := by decide +kernel
theorem dL_law_503 : decode cL_law 503 = .ok (.ireturn, 1) := by decide +kernel
theorem dL_law_504 : decode cL_law 504 = .ok (.aload_n 1, 1) := by decide +kernel
theorem dL_law_505 : decode cL_law 505 = .ok (.aload_n 0, 1) := by decide +kernel
theorem dL_law_506 : decode cL_law 506 = .ok (.iload_n 3, 1) := by decide +kernel
theorem dL_law_507 : decode cL_law 507 = .ok (.iconst 1, 1) := by decide +kernel
theorem dL_law_508 : decode cL_law 508 = .ok (.iadd, 1) := by decide +kernel
theorem dL_law_509 : decode cL_law 509 = .ok (.iaload, 1) := by decide +kernel
theorem dL_law_510 : decode cL_law 510 = .ok (.invokevirtual 65, 3) := by decide +kernel
theorem dL_law_513 : decode cL_law 513 = .ok (.aload_n 2, 1) := by decide +kernel
theorem dL_law_514 : decode cL_law 514 = .ok (.aload_n 0, 1) := by decide +kernel
theorem dL_law_515 : decode cL_law 515 = .ok (.iload_n 3, 1) := by decide +kernel
theorem dL_law_516 : decode cL_law 516 = .ok (.iconst 1, 1) := by decide +kernel
theorem dL_law_517 : decode cL_law 517 = .ok (.iadd, 1) := by decide +kernel
theorem dL_law_518 : decode cL_law 518 = .ok (.iaload, 1) := by decide +kernel
theorem dL_law_519 : decode cL_law 519 = .ok (.invokevirtual 68, 3) := by decide +kernel
theorem dL_law_522 : decode cL_law 522 = .ok (.if_icmp .eq 64, 3) := by decide +kernel
theorem dL_law_525 : decode cL_law 525 = .ok (.iconst 0, 1) := by decide +kernel
theorem dL_law_526 : decode cL_law 526 = .ok (.ireturn, 1) := by decide +kernel
theorem dL_law_527 : decode cL_law 527 = .ok (.aload_n 1, 1) := by decide +kernel
theorem dL_law_528 : decode cL_law 528 = .ok (.aload_n 0, 1) := by decide +kernel
theorem dL_law_529 : decode cL_law 529 = .ok (.iload_n 3, 1) := by decide +kernel
theorem dL_law_530 : decode cL_law 530 = .ok (.iconst 1, 1) := by decide +kernel
theorem dL_law_531 : decode cL_law 531 = .ok (.iadd, 1) := by decide +kernel
theorem dL_law_532 : decode cL_law 532 = .ok (.iaload, 1) := by decide +kernel
theorem dL_law_533 : decode cL_law 533 = .ok (.invokevirtual 69, 3) := by decide +kernel
theorem dL_law_536 : decode cL_law 536 = .ok (.aload_n 2, 1) := by decide +kernel
theorem dL_law_537 : decode cL_law 537 = .ok (.aload_n 0, 1) := by decide +kernel
theorem dL_law_538 : decode cL_law 538 = .ok (.iload_n 3, 1) := by decide +kernel
theorem dL_law_539 : decode cL_law 539 = .ok (.iconst 1, 1) := by decide +kernel
theorem dL_law_540 : decode cL_law 540 = .ok (.iadd, 1) := by decide +kernel
theorem dL_law_541 : decode cL_law 541 = .ok (.iaload, 1) := by decide +kernel
theorem dL_law_542 : decode cL_law 542 = .ok (.invokevirtual 72, 3) := by decide +kernel
theorem dL_law_545 : decode cL_law 545 = .ok (.if_icmp .eq 41, 3) := by decide +kernel
theorem dL_law_548 : decode cL_law 548 = .ok (.iconst 0, 1) := by decide +kernel
theorem dL_law_549 : decode cL_law 549 = .ok (.ireturn, 1) := by decide +kernel
theorem dL_law_550 : decode cL_law 550 = .ok (.aload_n 1, 1) := by decide +kernel
theorem dL_law_551 : decode cL_law 551 = .ok (.aload_n 0, 1) := by decide +kernel
theorem dL_law_552 : decode cL_law 552 = .ok (.iload_n 3, 1) := by decide +kernel
theorem dL_law_553 : decode cL_law 553 = .ok (.iconst 1, 1) := by decide +kernel
theorem dL_law_554 : decode cL_law 554 = .ok (.iadd, 1) := by decide +kernel
theorem dL_law_555 : decode cL_law 555 = .ok (.iaload, 1) := by decide +kernel
theorem dL_law_556 : decode cL_law 556 = .ok (.invokevirtual 73, 3) := by decide +kernel
theorem dL_law_559 : decode cL_law 559 = .ok (.aload_n 2, 1) := by decide +kernel
theorem dL_law_560 : decode cL_law 560 = .ok (.aload_n 0, 1) := by decide +kernel
theorem dL_law_561 : decode cL_law 561 = .ok (.iload_n 3, 1) := by decide +kernel
theorem dL_law_562 : decode cL_law 562 = .ok (.iconst 1, 1) := by decide +kernel
theorem dL_law_563 : decode cL_law 563 = .ok (.iadd, 1) := by decide +kernel
theorem dL_law_564 : decode cL_law 564 = .ok (.iaload, 1) := by decide +kernel
theorem dL_law_565 : decode cL_law 565 = .ok (.invokevirtual 76, 3) := by decide +kernel
theorem dL_law_568 : decode cL_law 568 = .ok (.if_icmp .eq 18, 3) := by decide +kernel
theorem dL_law_571 : decode cL_law 571 = .ok (.iconst 0, 1) := by decide +kernel
theorem dL_law_572 : decode cL_law 572 = .ok (.ireturn, 1) := by decide +kernel
theorem dL_law_573 : decode cL_law 573 = .ok (.aload_n 1, 1) := by decide +kernel
theorem dL_law_574 : decode cL_law 574 = .ok (.invokevirtual 77, 3) := by decide +kernel
theorem dL_law_577 : decode cL_law 577 = .ok (.aload_n 2, 1) := by decide +kernel
theorem dL_law_578 : decode cL_law 578 = .ok (.invokevirtual 81, 3) := by decide +kernel
theorem dL_law_581 : decode cL_law 581 = .ok (.if_icmp .eq 5, 3) := by decide +kernel
theorem dL_law_584 : decode cL_law 584 = .ok (.iconst 0, 1) := by decide +kernel
theorem dL_law_585 : decode cL_law 585 = .ok (.ireturn, 1) := by decide +kernel
theorem dL_law_586 : decode cL_law 586 = .ok (.iinc 3 4, 3) := by decide +kernel
theorem dL_law_589 : decode cL_law 589 = .ok (.goto (-571), 3) := by decide +kernel
theorem dL_law_592 : decode cL_law 592 = .ok (.iconst 1, 1) := by decide +kernel
theorem dL_law_593 : decode cL_law 593 = .ok (.ireturn, 1) := by decide +kernel
abbrev vwCl : List vw_C := [(RX0, TX0, 3), (RX1, TX1, 7), (RX2, TX2, 4), (RX3, TX3, 6), (RX4, TX4, 3), (RX6, TX6, 7), (RX7, TX7, 28)]
end
section
/-! Memory worlds: n cells at the addresses ad 0 .. ad (n - 1), no two the same; cell i has the shape F i and the ints σ i. Nothing is made: a call takes σ to another σ. -/
abbrev Mem : Type := Nat → Nat → Int32
def mset (σ : Mem) (i k : Nat) (v : Int32) : Mem := va_up σ i (upd (σ i) k v)
theorem mset_eq (σ : Mem) (i k : Nat) (v : Int32) (j q : Nat) : mset σ i k v j q = if j = i ∧ q = k then v else σ j q := by
  unfold mset va_up upd
  by_cases h1 : j = i
  · subst h1
    by_cases h2 : q = k <;> simp [h2]
  · simp [h1]
theorem mset_ne {σ : Mem} {i k : Nat} {v : Int32} {j q : Nat} (h : ¬ (j = i ∧ q = k)) : mset σ i k v j q = σ j q := by
  rw [mset_eq, if_neg h]
theorem mset_nc {σ : Mem} {i k : Nat} {v : Int32} {j : Nat} (h : j ≠ i) : mset σ i k v j = σ j := by
  funext q
  rw [mset_eq, if_neg (fun z => h z.1)]
theorem mset_self (σ : Mem) (i k : Nat) (v : Int32) : mset σ i k v i k = v := by
  rw [mset_eq, if_pos ⟨rfl, rfl⟩]
def mW (n : Nat) (ad : Nat → Nat) (F : Nat → (Nat → Int32) → va_E) (σ : Mem) : va_W := (List.range n).map (fun i => (ad i, F i (σ i)))
def mA (n : Nat) (ad : Nat → Nat) : Nat → Prop := fun q => ∃ i, i < n ∧ q = ad i
def mJ (n : Nat) (ad : Nat → Nat) : Prop := ∀ i j, i < n → j < n → ad i = ad j → i = j
theorem mW_at {n : Nat} {ad : Nat → Nat} {F : Nat → (Nat → Int32) → va_E} {σ : Mem} {i : Nat} (hi : i < n) : (mW n ad F σ)[i]? = some (ad i, F i (σ i)) := by
  simp [mW, hi]
theorem mW_of {n : Nat} {ad : Nat → Nat} {F : Nat → (Nat → Int32) → va_E} {σ : Mem} {i : Nat} {q : Nat × va_E} (h : (mW n ad F σ)[i]? = some q) : i < n ∧ q = (ad i, F i (σ i)) := by
  have hl : i < n := by
    have := (List.getElem?_eq_some_iff.mp h).1
    simpa [mW] using this
  rw [mW_at hl] at h
  exact ⟨hl, (Option.some.inj h).symm⟩
theorem mW_set {n : Nat} {ad : Nat → Nat} {F : Nat → (Nat → Int32) → va_E} {σ : Mem} {i : Nat} (hi : i < n) (x : Nat → Int32) : (mW n ad F σ).set i (ad i, F i x) = mW n ad F (va_up σ i x) := by
  apply List.ext_getElem?
  intro j
  by_cases hj : j = i
  · subst hj
    rw [List.getElem?_set_self (by simp [mW, hi]), mW_at hi, va_up_self]
  · rw [List.getElem?_set_ne (Ne.symm hj)]
    by_cases hl : j < n
    · rw [mW_at hl, mW_at hl, va_up_ne _ _ hj]
    · rw [List.getElem?_eq_none (by simp [mW]; omega), List.getElem?_eq_none (by simp [mW]; omega)]
theorem mW_D {n : Nat} {ad : Nat → Nat} {F : Nat → (Nat → Int32) → va_E} {σ : Mem} (hj : mJ n ad) : va_D (mA n ad) (mW n ad F σ) := by
  refine ⟨fun i j p q hp hq e => ?_, fun k q hk => ?_⟩
  · obtain ⟨h1, rfl⟩ := mW_of hp
    obtain ⟨h2, rfl⟩ := mW_of hq
    exact hj i j h1 h2 e
  · obtain ⟨h1, rfl⟩ := mW_of hk
    exact ⟨k, h1, rfl⟩
def tys5 (cy : Nat → ClassId) : List (ClassId × FieldType) := [(cy 0, .int), (cy 1, .boolean), (cy 2, .object "BenchRuns$Batch"), (cy 3, .object "BenchRuns$Round"), (cy 4, .object "BenchRuns$Tool")]
def wyN : List String := ["ONWARD", "SKIP", "ANEW", "BREAK", "STOP", "FAILURE", "TIRED"]
def mostL : List Int32 := [200, 200, 200, 9, 200, 200, 200, 9, 200, 200, 9, 9, 40, 60, 35, 99, 2, 3]
/-- the statics that the class reads: its kinds of way, and the table of the largest n -/
def gX (A : Nat → Prop) (wy : Nat → Nat) (mt : Nat) (U : State) (H : Heap) : Prop := va_En "BenchRuns$Way" "LBenchRuns$Way;" wyN [] wy A U H ∧ va_Z "BenchRuns" "MOST_N" "[I" (.ref mt) A U H ∧ va_T .int mt 18 (fun k => .int (mostL.getD k 0)) A U H
theorem gX.moved {A : Nat → Prop} {wy : Nat → Nat} {mt : Nat} {u U : State} {H : Heap} (hvm : u.vm.Alike U.vm) (h : gX A wy mt u H) : gX A wy mt U H := ⟨h.1.moved hvm, h.2.1.moved hvm, h.2.2.moved hvm⟩
theorem gX.kept {A : Nat → Prop} {wy : Nat → Nat} {mt : Nat} {U : State} {H H1 : Heap} (h : gX A wy mt U H) (hq : ∀ a : Nat, a < H.size → ¬ A a → H1[a]? = H[a]?) : gX A wy mt U H1 := ⟨h.1.kept hq, h.2.1.kept hq, h.2.2.kept hq⟩
theorem gX.narrow {A B : Nat → Prop} {wy : Nat → Nat} {mt : Nat} {U : State} {H : Heap} (h : gX A wy mt U H) (hAB : ∀ q, B q → A q) : gX B wy mt U H := ⟨h.1.narrow hAB, h.2.1.narrow hAB, h.2.2.narrow hAB⟩
def gPre (n : Nat) (ad : Nat → Nat) (F : Nat → (Nat → Int32) → va_E) (D : va_G) (cy : Nat → ClassId) (wy : Nat → Nat) (mt : Nat) (σ : Mem) (U : State) : Prop := va_P D vwCl (mW n ad F σ) U.heap ∧ va_K D vwCl (tys5 cy) U ∧ gX (mA n ad) wy mt U U.heap
def gQ (n : Nat) (ad : Nat → Nat) (F : Nat → (Nat → Int32) → va_E) (D : va_G) (rv : Option Value) (σ' : Mem) : Array Value → State → Outcome → State → Prop := fun _ st oc t => oc = .returned rv ∧ va_P D vwCl (mW n ad F σ') t.heap ∧ va_F (mA n ad) st t
section GB
variable {n : Nat} {ad : Nat → Nat} {F : Nat → (Nat → Int32) → va_E} {D : va_G} {cy : Nat → ClassId} {wy : Nat → Nat} {mt : Nat} {σ σ1 : Mem}
theorem gPre_blind {av : List Value} : FrameBlind (va_Pc av (gPre n ad F D cy wy mt σ)) := by
  intro a U g mk h
  obtain ⟨h1, h2, h3, h4⟩ := h
  exact ⟨h1, h2, va_K.moved (u := U) (U := U.calling g mk a) (Vm.Alike.refl U.vm) h3, gX.moved (u := U) (U := U.calling g mk a) (Vm.Alike.refl U.vm) h4⟩
theorem gPre_next {s : State} {H : Heap} {locs : List Loc} (h0 : gPre n ad F D cy wy mt σ s) (hP : va_P D vwCl (mW n ad F σ1) H) (hS : va_S (mA n ad) s.heap H locs) (U : State) (hU : U.heap = H) (hW : s.WarmedH U.vm) : gPre n ad F D cy wy mt σ1 U := by
  refine ⟨by rw [hU]; exact hP, va_K.moved hW.alike h0.2.1, ?_⟩
  rw [hU]
  exact (h0.2.2.kept hS.2.1).moved hW.alike
end GB
section GR
variable {p : Program} {l : Launch} {e : Env} {R : Room} {s : State} {m : MethodId} {args : Array Value} {below : List Frame} {meth : Method} {c : Code} {H : Heap} {locs : List Loc} {cells slots : Nat} {Q : State → Prop}
variable {cc : ByteArray} {pc : Nat} {ls : Array Slot} {rest : List Value} {D : va_G} {cl : List vw_C} {tys : List (ClassId × FieldType)} {H0 : Heap} {n : Nat} {ad : Nat → Nat} {F : Nat → (Nat → Int32) → va_E} {σ : Mem}
theorem mw_get (hx : p.tables.exec = Jvm.exec) (hb : c.code = cc) {own ref C : String} {T : u_T} {N ci index : Nat} {Ts : List Cond} (hts : ∀ w ∈ Ts, w.before args s = true) (hin : ∀ w ∈ u_ws C T N, w ∈ Ts) (hown : s.vm.findClass own = some m.cls) (hK : va_K D cl tys s) (hP : va_P D cl (mW n ad F σ) H) (i : Nat) (hi : i < n) {G : (Nat → Int32) → List Value} (he : ∀ y, F i y = .inr (ci, G y)) (hc : cl[ci]? = some (C, T, N)) (k : Nat) (hk : k < N) (hlink : (Cond.fieldLink own index ref (T k).2.1 (T k).2.2.1).before args s = true) (hsame : ∀ x, s.fieldFound? (T k).1 (T k).2.1 (T k).2.2.1 = some x → s.fieldFound? ref (T k).2.1 (T k).2.2.1 = some x) {v : Value} (hv : (G (σ i))[k]? = some v) (hdg : decode cc pc = .ok (.getfield index, 3))
    (kk : W p l e R s m args below meth c H locs cells slots Q (F0 m (pc + 3) ls (v :: rest))) : W p l e R s m args below meth c H locs cells slots Q (F0 m pc ls (.ref (ad i) :: rest)) :=
  va_get hx hb hts hin hown hK hP i (by rw [mW_at hi, he]) hc k hk hlink hsame hv hdg kk
theorem mw_put (hx : p.tables.exec = Jvm.exec) (hb : c.code = cc) {own ref C : String} {T : u_T} {N ci index : Nat} {Ts : List Cond} (hts : ∀ w ∈ Ts, w.before args s = true) (hin : ∀ w ∈ u_ws C T N, w ∈ Ts) (ty0 : Nat → FieldType) (hty : ∀ k, k < N → parseFieldDescriptor (T k).2.2.1 = some (ty0 k)) (hnm : ∀ a, a < N → ∀ b, b < N → a ≠ b → (T a).2.1 ≠ (T b).2.1) (hown : s.vm.findClass own = some m.cls) (hK : va_K D cl tys s) (hj : mJ n ad) (hP : va_P D cl (mW n ad F σ) H) (hS : va_S (mA n ad) H0 H locs) (i : Nat) (hi : i < n) {G : (Nat → Int32) → List Value} (he : ∀ y, F i y = .inr (ci, G y)) (hc : cl[ci]? = some (C, T, N)) (k : Nat) (hk : k < N) (hlink : (Cond.fieldLink own index ref (T k).2.1 (T k).2.2.1).before args s = true) (hsame : ∀ x, s.fieldFound? (T k).1 (T k).2.1 (T k).2.2.1 = some x → s.fieldFound? ref (T k).2.1 (T k).2.2.1 = some x) (hfin : (T k).2.2.2 = false) {ty : FieldType} {v : Int32} (hd : parseFieldDescriptor (T k).2.2.1 = some ty) (hn : narrow ty (.int v) = .int v) (hfit : fits ty (.int v) = true) (hl : k < (G (σ i)).length) (hg : (G (σ i)).set k (.int v) = G (upd (σ i) k v))
    (hdg : decode cc pc = .ok (.putfield index, 3)) (kk : ∀ (H1 : Heap) (locs1 : List Loc), va_P D cl (mW n ad F (mset σ i k v)) H1 → va_S (mA n ad) H0 H1 locs1 → W p l e R s m args below meth c H1 locs1 cells slots Q (F0 m (pc + 3) ls rest)) : W p l e R s m args below meth c H locs cells slots Q (F0 m pc ls (.int v :: .ref (ad i) :: rest)) := by
  refine va_put hx hb hts hin ty0 hty hnm hown hK hP (mW_D hj) hS i (by rw [mW_at hi, he]) hc k hk hlink hsame hfin hd hn hfit hl hdg (fun H1 locs1 h1 h2 h3 => kk H1 locs1 ?_ h3)
  rw [hg, ← he, mW_set hi] at h1
  exact h1
theorem mw_ild (hx : p.tables.exec = Jvm.exec) (hb : c.code = cc) (hK : va_K D cl tys s) (hP : va_P D cl (mW n ad F σ) H) (i : Nat) (hi : i < n) (t0 : Nat) {cA : ClassId} {N : Nat} (he : ∀ y, F i y = .inl (cA, N, .inl y)) (ht : tys[t0]? = some (cA, .int)) {x : Int32} (k : Nat) (hk : k < N) (hN : N < 2 ^ 31) (hxk : x = nI k) (hdg : decode cc pc = .ok (.iaload, 1))
    (kk : W p l e R s m args below meth c H locs cells slots Q (F0 m (pc + 1) ls (.int (σ i k) :: rest))) : W p l e R s m args below meth c H locs cells slots Q (F0 m pc ls (.int x :: .ref (ad i) :: rest)) := by
  subst hxk
  refine va_iald hx hb hK hP i t0 (by rw [mW_at hi, he]) ht (vp_in_nI hk hN) hdg ?_
  rw [nI_clamp (by omega)]
  exact kk
theorem mw_ist (hx : p.tables.exec = Jvm.exec) (hb : c.code = cc) (hK : va_K D cl tys s) (hj : mJ n ad) (hP : va_P D cl (mW n ad F σ) H) (hS : va_S (mA n ad) H0 H locs) (i : Nat) (hi : i < n) (t0 : Nat) {cA : ClassId} {N : Nat} (he : ∀ y, F i y = .inl (cA, N, .inl y)) (ht : tys[t0]? = some (cA, .int)) {x v : Int32} (k : Nat) (hk : k < N) (hN : N < 2 ^ 31) (hxk : x = nI k) (hdg : decode cc pc = .ok (.iastore, 1))
    (kk : ∀ (H1 : Heap) (locs1 : List Loc), va_P D cl (mW n ad F (mset σ i k v)) H1 → va_S (mA n ad) H0 H1 locs1 → W p l e R s m args below meth c H1 locs1 cells slots Q (F0 m (pc + 1) ls rest)) : W p l e R s m args below meth c H locs cells slots Q (F0 m pc ls (.int v :: .int x :: .ref (ad i) :: rest)) := by
  subst hxk
  refine va_iast hx hb hK hP (mW_D hj) hS i t0 (by rw [mW_at hi, he]) ht (vp_in_nI hk hN) hdg (fun H1 locs1 h1 h2 h3 => kk H1 locs1 ?_ h3)
  rw [nI_clamp (by omega), ← he, mW_set hi] at h1
  exact h1
theorem mw_zld (hx : p.tables.exec = Jvm.exec) (hb : c.code = cc) (hK : va_K D cl tys s) (hP : va_P D cl (mW n ad F σ) H) (i : Nat) (hi : i < n) (t0 : Nat) {cA : ClassId} {N : Nat} (he : ∀ y, F i y = .inl (cA, N, .inl y)) (ht : tys[t0]? = some (cA, .boolean)) {x : Int32} (k : Nat) (hk : k < N) (hN : N < 2 ^ 31) (hxk : x = nI k) (hdg : decode cc pc = .ok (.baload, 1))
    (kk : W p l e R s m args below meth c H locs cells slots Q (F0 m (pc + 1) ls (.int (σ i k) :: rest))) : W p l e R s m args below meth c H locs cells slots Q (F0 m pc ls (.int x :: .ref (ad i) :: rest)) := by
  subst hxk
  refine va_zald hx hb hK hP i t0 (by rw [mW_at hi, he]) ht (vp_in_nI hk hN) hdg ?_
  rw [nI_clamp (by omega)]
  exact kk
theorem mw_zst (hx : p.tables.exec = Jvm.exec) (hb : c.code = cc) (hK : va_K D cl tys s) (hj : mJ n ad) (hP : va_P D cl (mW n ad F σ) H) (hS : va_S (mA n ad) H0 H locs) (i : Nat) (hi : i < n) (t0 : Nat) {cA : ClassId} {N : Nat} (he : ∀ y, F i y = .inl (cA, N, .inl y)) (ht : tys[t0]? = some (cA, .boolean)) {x v : Int32} (hv : vp_nar .boolean v = v) (k : Nat) (hk : k < N) (hN : N < 2 ^ 31) (hxk : x = nI k) (hdg : decode cc pc = .ok (.bastore, 1))
    (kk : ∀ (H1 : Heap) (locs1 : List Loc), va_P D cl (mW n ad F (mset σ i k v)) H1 → va_S (mA n ad) H0 H1 locs1 → W p l e R s m args below meth c H1 locs1 cells slots Q (F0 m (pc + 1) ls rest)) : W p l e R s m args below meth c H locs cells slots Q (F0 m pc ls (.int v :: .int x :: .ref (ad i) :: rest)) := by
  subst hxk
  refine va_zast hx hb hK hP (mW_D hj) hS i t0 (by rw [mW_at hi, he]) ht (vp_in_nI hk hN) hdg (fun H1 locs1 h1 h2 h3 => kk H1 locs1 ?_ h3)
  rw [hv, nI_clamp (by omega), ← he, mW_set hi] at h1
  exact h1
theorem mw_ald (hx : p.tables.exec = Jvm.exec) (hb : c.code = cc) (hK : va_K D cl tys s) (hP : va_P D cl (mW n ad F σ) H) (i : Nat) (hi : i < n) (t0 : Nat) {cA : ClassId} {C : String} {N : Nat} {f : Nat → Nat} (he : ∀ y, F i y = .inl (cA, N, .inr (.inr (.inr (.inr (fun q => some (f q))))))) (ht : tys[t0]? = some (cA, .object C)) {x : Int32} (k : Nat) (hk : k < N) (hN : N < 2 ^ 31) (hxk : x = nI k) (hdg : decode cc pc = .ok (.aaload, 1))
    (kk : W p l e R s m args below meth c H locs cells slots Q (F0 m (pc + 1) ls (.ref (f k) :: rest))) : W p l e R s m args below meth c H locs cells slots Q (F0 m pc ls (.int x :: .ref (ad i) :: rest)) := by
  subst hxk
  refine va_aldq hx hb hK hP i t0 (by rw [mW_at hi, he]) ht (vp_in_nI hk hN) hdg ?_
  rw [nI_clamp (by omega)]
  exact kk
theorem mw_len (hx : p.tables.exec = Jvm.exec) (hb : c.code = cc) (hK : va_K D cl tys s) (hP : va_P D cl (mW n ad F σ) H) (i : Nat) (hi : i < n) (t0 : Nat) {cA : ClassId} {N : Nat} (he : ∀ y, F i y = .inl (cA, N, .inl y)) (ht : tys[t0]? = some (cA, .int)) (hdg : decode cc pc = .ok (.arraylength, 1))
    (kk : W p l e R s m args below meth c H locs cells slots Q (F0 m (pc + 1) ls (.int (nI N) :: rest))) : W p l e R s m args below meth c H locs cells slots Q (F0 m pc ls (.ref (ad i) :: rest)) :=
  va_alen (x := (N, .inl (σ i))) (v := nI N) hx hb hK hP i t0 (by rw [mW_at hi, he]) ht rfl hdg kk
end GR
section GC
variable {p : Program} {l : Launch} {e : Env} {R : Room} {s : State} {m : MethodId} {args : Array Value} {below : List Frame} {meth : Method} {c : Code} {H : Heap} {locs : List Loc} {cells slots : Nat} {Q : State → Prop}
variable {cc : ByteArray} {pc : Nat} {ls : Array Slot} {rest st0 As : List Value} {D : va_G} {n : Nat} {ad : Nat → Nat} {F : Nat → (Nat → Int32) → va_E} {cy : Nat → ClassId} {wy : Nat → Nat} {mt : Nat} {σ σ0 σ' : Mem}
variable {y : MethodName} {bytes : ByteArray} {maxL nL ka index : Nat} {ret : Option FieldType} {ws : List Cond} {rm : Room} {Ts : List Cond} {own C : String} {rv : Option Value}
theorem g_callV (S : CallFix p m c cc nL s args Ts own) (i : Nat) (hM : Met l y ws rm (va_Pc (.ref (ad i) :: As) (gPre n ad F D cy wy mt σ)) (gQ n ad F D rv σ') 0 0 (mA n ad)) (cw : CallW R s args own C index y bytes maxL ret ws rm 0 0 ka) (h0 : gPre n ad F D cy wy mt σ0 s) (hP : va_P D vwCl (mW n ad F σ) H) (hS : va_S (mA n ad) s.heap H locs) (hi : i < n) {ci N : Nat} {T : u_T} {G : (Nat → Int32) → List Value} (he : ∀ y, F i y = .inr (ci, G y)) (hc : vwCl[ci]? = some (C, T, N)) (hst : st0 = As.reverse ++ .ref (ad i) :: rest) (hn : As.length = ka) (hsize : ls.size = nL) (hW : (rest.map fun v => v.category).sum ≤ 8) (hdg : decode cc pc = .ok (.invokevirtual index, 3)) (hf : cells ≤ R.cells ∧ slots ≤ R.slots)
    (kk : ∀ (H1 : Heap) (locs1 : List Loc), va_P D vwCl (mW n ad F σ') H1 → va_S (mA n ad) s.heap H1 locs1 → W p l e R s m args below meth c H1 locs1 cells slots Q (F0 m (pc + 3) ls (rv.toList ++ rest))) : W p l e R s m args below meth c H locs cells slots Q (F0 m pc ls st0) := by
  intro T1 hT X
  obtain ⟨v, st₀, t, T', L, h1, X', hL, e1, e2, hq, st⟩ := va_runV (g := F0 m pc ls st0) (H := H) (locs := locs) (As := As) (rest := rest) S hM cw ⟨gPre_blind, va_recv (ws := mW n ad F σ) (a := ad i) (q0 := i) (ci := ci) h0.2.1 hP hc (by rw [mW_at hi, he]), fun U hU hW => ⟨rfl, gPre_next h0 hP hS U hU hW⟩⟩ rfl hn hsize hst (lv_room hW) hdg hf T1 hT X
  obtain ⟨hv, hp, hz, hk⟩ := hq
  cases hv
  rw [h1] at hz hk
  obtain ⟨t2, a1, b1⟩ := kk T'.heap (locs ++ L) (by rw [e1]; exact hp) ⟨Nat.le_trans hS.1 (by rw [e1]; exact hz), fun q g1 g2 => by rw [e1, hk q (Nat.lt_of_lt_of_le g1 hS.1) g2]; exact hS.2.1 q g1 g2, fun q hq => by
      rcases List.mem_append.mp hq with h | h
      · exact hS.2.2 q h
      · exact hL q h⟩ T' rfl X'
  exact ⟨t2, st t2 a1, b1⟩
/-- a static method that only reckons -/
theorem g_callS {r : Int32} (S : CallFix p m c cc nL s args Ts own) (hM : Met l y ws rm (fun v _ => v = As.toArray) (QcRead r) 0 0 (fun _ => False)) (cw : CallB R s args own index y bytes maxL ret ws rm 0 0 ka ∧ (Cond.static y).before args s = true) (hst : st0 = As.reverse ++ rest) (hn : As.length = ka) (hsize : ls.size = nL) (hW : (rest.map fun v => v.category).sum ≤ 8) (hdg : decode cc pc = .ok (.invokestatic index, 3)) (hf : cells ≤ R.cells ∧ slots ≤ R.slots)
    (kk : W p l e R s m args below meth c H locs cells slots Q (F0 m (pc + 3) ls (.int r :: rest))) : W p l e R s m args below meth c H locs cells slots Q (F0 m pc ls st0) :=
  W.callR (W.runS (g := F0 m pc ls st0) (As := As) (rest := rest) S hM cw preEq rfl hn hsize hst (lv_room hW) hdg hf) kk
theorem g_met {ws' : List Cond} {av : List Value} (hy : plainName y.cls = true) (hw : ws = Cond.code y cc maxL ret :: ws') (hlen : (lg_sl av).length ≤ maxL)
    (body : ∀ (p : Program) (e : Env) (s : State) (m : MethodId) (below : List Frame) (meth : Method) (c : Code), CallFix p m c cc maxL s av.toArray ws y.cls → meth.sig.returnType = ret → meth.locks = false → gPre n ad F D cy wy mt σ s → ∀ ls : Array Slot, lv_has ls maxL (lv_args 0 av) →
      W p l e rm s m av.toArray below meth c s.heap [] 0 0 (MQ below (gQ n ad F D rv σ') av.toArray s 0 0 (mA n ad)) (F0 m 0 ls [])) : Met l y ws rm (va_Pc av (gPre n ad F D cy wy mt σ)) (gQ n ad F D rv σ') 0 0 (mA n ad) := by
  refine Met.ofW (cc := cc) (maxL := maxL) (ret := ret) hy hw ?_
  intro p e s m args below meth c s₁ B hml hv
  obtain ⟨rfl, hp⟩ := hv
  have hl := lv_entry av (n := maxL) hlen
  rw [lg_entry_eq]
  exact body p e s m below meth c ⟨B.exec, B.bytes, hml, findClass_of_methodNamed B.named, atoms_spec (ws := ws) B.pre⟩ B.returns B.notSynchronized hp _ hl
theorem g_metS {ws' : List Cond} {av : List Value} {r : Int32} (hy : plainName y.cls = true) (hw : ws = Cond.code y cc maxL ret :: ws') (hlen : (lg_sl av).length ≤ maxL)
    (body : ∀ (p : Program) (e : Env) (s : State) (m : MethodId) (below : List Frame) (meth : Method) (c : Code), CallFix p m c cc maxL s av.toArray ws y.cls → meth.sig.returnType = ret → meth.locks = false → ∀ ls : Array Slot, lv_has ls maxL (lv_args 0 av) →
      W p l e rm s m av.toArray below meth c s.heap [] 0 0 (MQ below (QcRead r) av.toArray s 0 0 (fun _ => False)) (F0 m 0 ls [])) : Met l y ws rm (fun v _ => v = av.toArray) (QcRead r) 0 0 (fun _ => False) := by
  refine Met.ofW (cc := cc) (maxL := maxL) (ret := ret) hy hw ?_
  intro p e s m args below meth c s₁ B hml hv
  have hv : args = av.toArray := hv
  subst hv
  have hl := lv_entry av (n := maxL) hlen
  rw [lg_entry_eq]
  exact body p e s m below meth c ⟨B.exec, B.bytes, hml, findClass_of_methodNamed B.named, atoms_spec (ws := ws) B.pre⟩ B.returns B.notSynchronized _ hl
theorem g_iret {v : Int32} {f : Int32 × Mem} (hx : p.tables.exec = Jvm.exec) (hb : c.code = cc) (hr : meth.sig.returnType = some .int) (hlocks : meth.locks = false) (hP : va_P D vwCl (mW n ad F σ) H) (hS : va_S (mA n ad) s.heap H locs) (hdg : decode cc pc = .ok (.ireturn, 1)) (h : f = (v, σ)) : W p l e R s m args below meth c H locs 0 0 (MQ below (gQ n ad F D (some (.int f.1)) f.2) args s 0 0 (mA n ad)) (F0 m pc ls [.int v]) := by
  subst h
  exact W.iret hx hb hr (fun t ht _ => ⟨rfl, by rw [ht]; exact hP, hS.F ht⟩) hS.2.2 hdg
theorem g_zret {v : Int32} {f : Int32 × Mem} (hx : p.tables.exec = Jvm.exec) (hb : c.code = cc) (hr : meth.sig.returnType = some .boolean) (hlocks : meth.locks = false) (hP : va_P D vwCl (mW n ad F σ) H) (hS : va_S (mA n ad) s.heap H locs) (hdg : decode cc pc = .ok (.ireturn, 1)) (hn : narrow .boolean (.int v) = .int v) (h : f = (v, σ)) : W p l e R s m args below meth c H locs 0 0 (MQ below (gQ n ad F D (some (.int f.1)) f.2) args s 0 0 (mA n ad)) (F0 m pc ls [.int v]) := by
  subst h
  exact W.zret hx hb hr hn (fun t ht _ => ⟨rfl, by rw [ht]; exact hP, hS.F ht⟩) hS.2.2 hdg
theorem g_riret {v f : Int32} (hx : p.tables.exec = Jvm.exec) (hb : c.code = cc) (hr : meth.sig.returnType = some .int) (hlocks : meth.locks = false) (hP : va_P D vwCl (mW n ad F σ) H) (hS : va_S (mA n ad) s.heap H locs) (hdg : decode cc pc = .ok (.ireturn, 1)) (h : f = v) : W p l e R s m args below meth c H locs 0 0 (MQ below (gQ n ad F D (some (.int f)) σ) args s 0 0 (mA n ad)) (F0 m pc ls [.int v]) := by
  subst h
  exact W.iret hx hb hr (fun t ht _ => ⟨rfl, by rw [ht]; exact hP, hS.F ht⟩) hS.2.2 hdg
theorem g_rzret {v f : Int32} (hx : p.tables.exec = Jvm.exec) (hb : c.code = cc) (hr : meth.sig.returnType = some .boolean) (hlocks : meth.locks = false) (hP : va_P D vwCl (mW n ad F σ) H) (hS : va_S (mA n ad) s.heap H locs) (hdg : decode cc pc = .ok (.ireturn, 1)) (hn : narrow .boolean (.int v) = .int v) (h : f = v) : W p l e R s m args below meth c H locs 0 0 (MQ below (gQ n ad F D (some (.int f)) σ) args s 0 0 (mA n ad)) (F0 m pc ls [.int v]) := by
  subst h
  exact W.zret hx hb hr hn (fun t ht _ => ⟨rfl, by rw [ht]; exact hP, hS.F ht⟩) hS.2.2 hdg
theorem g_aret {v : Nat} {f : Nat × Mem} {E : String} (hx : p.tables.exec = Jvm.exec) (hb : c.code = cc) (hr : meth.sig.returnType = some (.object E)) (hlocks : meth.locks = false) (hP : va_P D vwCl (mW n ad F σ) H) (hS : va_S (mA n ad) s.heap H locs) (hdg : decode cc pc = .ok (.areturn, 1)) (h : f = (v, σ)) : W p l e R s m args below meth c H locs 0 0 (MQ below (gQ n ad F D (some (.ref (wy f.1))) f.2) args s 0 0 (mA n ad)) (F0 m pc ls [.ref (wy v)]) := by
  subst h
  exact W.aret hx hb hr (Or.inl ⟨E, rfl⟩) (Or.inr ⟨_, rfl⟩) (fun t ht _ => ⟨rfl, by rw [ht]; exact hP, hS.F ht⟩) hS.2.2 hdg
theorem g_vret {f : Mem} (hx : p.tables.exec = Jvm.exec) (hb : c.code = cc) (hr : meth.sig.returnType = none) (hlocks : meth.locks = false) (hP : va_P D vwCl (mW n ad F σ) H) (hS : va_S (mA n ad) s.heap H locs) (hdg : decode cc pc = .ok (.return_, 1)) (h : f = σ) : W p l e R s m args below meth c H locs 0 0 (MQ below (gQ n ad F D none f) args s 0 0 (mA n ad)) (F0 m pc ls []) := by
  subst h
  exact W.vret hx hb hr (fun t ht _ => ⟨rfl, by rw [ht]; exact hP, hS.F ht⟩) hS.2.2 hdg
theorem g_sret {v r : Int32} (hx : p.tables.exec = Jvm.exec) (hb : c.code = cc) (hr : meth.sig.returnType = some .int) (hlocks : meth.locks = false) (hdg : decode cc pc = .ok (.ireturn, 1)) (h : r = v) : W p l e R s m args below meth c s.heap [] 0 0 (MQ below (QcRead r) args s 0 0 (fun _ => False)) (F0 m pc ls [.int v]) := by
  subst h
  exact W.iret hx hb hr (fun t ht _ => ⟨rfl, ht⟩) (fun q h => by cases h) hdg
theorem g_szret {v r : Int32} (hx : p.tables.exec = Jvm.exec) (hb : c.code = cc) (hr : meth.sig.returnType = some .boolean) (hlocks : meth.locks = false) (hdg : decode cc pc = .ok (.ireturn, 1)) (hn : narrow .boolean (.int v) = .int v) (h : r = v) : W p l e R s m args below meth c s.heap [] 0 0 (MQ below (QcRead r) args s 0 0 (fun _ => False)) (F0 m pc ls [.int v]) := by
  subst h
  exact W.zret hx hb hr hn (fun t ht _ => ⟨rfl, ht⟩) (fun q h => by cases h) hdg
/-- a kind of way is read -/
theorem g_way (hx : p.tables.exec = Jvm.exec) (hb : c.code = cc) (h0 : gPre n ad F D cy wy mt σ0 s) (hS : va_S (mA n ad) s.heap H locs) (hown : s.vm.findClass own = some m.cls) (k : Nat) {nm : String} (hk : k < 7) (hnm : wyN.getD k "" = nm) (hlink : (Cond.fieldLink own index "BenchRuns$Way" nm "LBenchRuns$Way;").before args s = true) (hdg : decode cc pc = .ok (.getstatic index, 3))
    (kk : W p l e R s m args below meth c H locs cells slots Q (F0 m (pc + 3) ls (.ref (wy k) :: rest))) : W p l e R s m args below meth c H locs cells slots Q (F0 m pc ls rest) := by
  subst hnm
  exact va_gets hx hb (h0.2.2.1.1 k hk).1 hS hown hlink (fun _ h => h) hdg kk
theorem g_most (hx : p.tables.exec = Jvm.exec) (hb : c.code = cc) (h0 : gPre n ad F D cy wy mt σ0 s) (hS : va_S (mA n ad) s.heap H locs) (hown : s.vm.findClass own = some m.cls) (hlink : (Cond.fieldLink own index "BenchRuns" "MOST_N" "[I").before args s = true) (hdg : decode cc pc = .ok (.getstatic index, 3))
    (kk : W p l e R s m args below meth c H locs cells slots Q (F0 m (pc + 3) ls (.ref mt :: rest))) : W p l e R s m args below meth c H locs cells slots Q (F0 m pc ls rest) :=
  va_gets hx hb h0.2.2.2.1 hS hown hlink (fun _ h => h) hdg kk
theorem g_mostAt (hx : p.tables.exec = Jvm.exec) (hb : c.code = cc) (h0 : gPre n ad F D cy wy mt σ0 s) (hS : va_S (mA n ad) s.heap H locs) {x : Int32} (k : Nat) (hk : k < 18) (hxk : x = nI k) (hdg : decode cc pc = .ok (.iaload, 1))
    (kk : W p l e R s m args below meth c H locs cells slots Q (F0 m (pc + 1) ls (.int (mostL.getD k 0) :: rest))) : W p l e R s m args below meth c H locs cells slots Q (F0 m pc ls (.int x :: .ref mt :: rest)) := by
  subst hxk
  exact va_ti hx hb h0.2.2.2.2 hS (vp_in_nI hk (by decide)) (by rw [nI_clamp (by omega)]) hdg kk
theorem g_top {x y : Int32} (h : x = y) (kk : W p l e R s m args below meth c H locs cells slots Q (F0 m pc ls (.int y :: rest))) : W p l e R s m args below meth c H locs cells slots Q (F0 m pc ls (.int x :: rest)) := by
  subst h
  exact kk
theorem g_weq (hx : p.tables.exec = Jvm.exec) (hb : c.code = cc) (h0 : gPre n ad F D cy wy mt σ0 s) {a b : Nat} (ha : a < 7) (hb7 : b < 7) {off : Int} {tgt : Nat} (hdg : decode cc pc = .ok (.if_acmp .eq off, 3)) (ht : (pc : Int) + off = (tgt : Int))
    (kt : a = b → W p l e R s m args below meth c H locs cells slots Q (F0 m tgt ls rest)) (kf : ¬ a = b → W p l e R s m args below meth c H locs cells slots Q (F0 m (pc + 3) ls rest)) : W p l e R s m args below meth c H locs cells slots Q (F0 m pc ls (.ref (wy b) :: .ref (wy a) :: rest)) :=
  lv_acmp_eq (rx := some (wy a)) (ry := some (wy b)) hx hb hdg ht (fun h => kt (h0.2.2.1.2 a b ha hb7 (Option.some.inj h))) (fun h => kf (fun z => h (by rw [z])))
theorem g_wne (hx : p.tables.exec = Jvm.exec) (hb : c.code = cc) (h0 : gPre n ad F D cy wy mt σ0 s) {a b : Nat} (ha : a < 7) (hb7 : b < 7) {off : Int} {tgt : Nat} (hdg : decode cc pc = .ok (.if_acmp .ne off, 3)) (ht : (pc : Int) + off = (tgt : Int))
    (kt : ¬ a = b → W p l e R s m args below meth c H locs cells slots Q (F0 m tgt ls rest)) (kf : a = b → W p l e R s m args below meth c H locs cells slots Q (F0 m (pc + 3) ls rest)) : W p l e R s m args below meth c H locs cells slots Q (F0 m pc ls (.ref (wy b) :: .ref (wy a) :: rest)) :=
  lv_acmp_ne (rx := some (wy a)) (ry := some (wy b)) hx hb hdg ht (fun h => kt (fun z => h (by rw [z]))) (fun h => kf (h0.2.2.1.2 a b ha hb7 (Option.some.inj h)))
end GC
end
section
/-! The shapes of the two worlds. Class: 0 root, 1 vialDrops, 2 batches, 3 tools, 4 laid, 5 stock, 6 boxTools, 7 log, 8 countOf, 9 events, 10 notedNumbers, 11 chain, 12+b batch, 16+b its rounds, 20+t tool, 26+q round, 50+q kinds, 74+q numbers (q = 6 b + r). Reference: 0 root, 1 isVial .. 17 why. -/
abbrev ci (x : Int32) : Nat := x.toNatClampNeg
theorem ci_lt {x : Int32} {N : Nat} (h : vp_in x N) : ci x < N := Nat.not_le.mp fun q => h (Or.inr q)
theorem ci_eq {x : Int32} {N : Nat} (h : vp_in x N) (hN : N < 2 ^ 31) : x = nI (ci x) := by
  obtain ⟨j, hj, rfl⟩ := vp_in_of h hN
  unfold ci
  rw [nI_clamp (by omega)]
def cF (ad : Nat → Nat) (cy : Nat → ClassId) (i : Nat) (y : Nat → Int32) : va_E :=
  if i = 0 then .inr (5, [.ref (ad 1), .ref (ad 2), .ref (ad 3), .ref (ad 4), .ref (ad 5), .ref (ad 7), .int (y 6)])
  else if i = 1 then .inl (cy 0, 8, .inl y)
  else if i = 2 then .inl (cy 2, 4, .inr (.inr (.inr (.inr (fun q => some (ad (12 + q)))))))
  else if i = 3 then .inl (cy 4, 6, .inr (.inr (.inr (.inr (fun q => some (ad (20 + q)))))))
  else if i = 4 then .inl (cy 0, 4, .inl y)
  else if i = 5 then .inr (3, [.ref (ad 6), .int (y 1), .int (y 2), .int (y 3), .int (y 4), .int (y 5)])
  else if i = 6 then .inl (cy 0, 18, .inl y)
  else if i = 7 then .inr (1, [.ref (ad 8), .ref (ad 9), .int (y 2), .ref (ad 10), .int (y 4), .ref (ad 11), .int (y 6)])
  else if i = 8 then .inl (cy 0, 7, .inl y)
  else if i = 9 then .inl (cy 0, 400, .inl y)
  else if i = 10 then .inl (cy 0, 24, .inl y)
  else if i = 11 then .inl (cy 0, 4, .inl y)
  else if i < 16 then .inr (0, [.ref (ad (i + 4)), .int (y 1), .int (y 2)])
  else if i < 20 then .inl (cy 3, 6, .inr (.inr (.inr (.inr (fun q => some (ad (26 + (6 * (i - 16) + q))))))))
  else if i < 26 then .inr (4, [.int (y 0), .int (y 1), .int (y 2)])
  else if i < 50 then .inr (2, [.ref (ad (i + 24)), .ref (ad (i + 48)), .int (y 2), .int (y 3)])
  else .inl (cy 0, 8, .inl y)
section SH
variable {ad : Nat → Nat} {cy : Nat → ClassId}
theorem cF_0 : ∀ y, cF ad cy 0 y = .inr (5, [.ref (ad 1), .ref (ad 2), .ref (ad 3), .ref (ad 4), .ref (ad 5), .ref (ad 7), .int (y 6)]) := fun _ => rfl
theorem cF_1 : ∀ y, cF ad cy 1 y = .inl (cy 0, 8, .inl y) := fun _ => rfl
theorem cF_2 : ∀ y, cF ad cy 2 y = .inl (cy 2, 4, .inr (.inr (.inr (.inr (fun q => some (ad (12 + q))))))) := fun _ => rfl
theorem cF_3 : ∀ y, cF ad cy 3 y = .inl (cy 4, 6, .inr (.inr (.inr (.inr (fun q => some (ad (20 + q))))))) := fun _ => rfl
theorem cF_4 : ∀ y, cF ad cy 4 y = .inl (cy 0, 4, .inl y) := fun _ => rfl
theorem cF_5 : ∀ y, cF ad cy 5 y = .inr (3, [.ref (ad 6), .int (y 1), .int (y 2), .int (y 3), .int (y 4), .int (y 5)]) := fun _ => rfl
theorem cF_6 : ∀ y, cF ad cy 6 y = .inl (cy 0, 18, .inl y) := fun _ => rfl
theorem cF_7 : ∀ y, cF ad cy 7 y = .inr (1, [.ref (ad 8), .ref (ad 9), .int (y 2), .ref (ad 10), .int (y 4), .ref (ad 11), .int (y 6)]) := fun _ => rfl
theorem cF_8 : ∀ y, cF ad cy 8 y = .inl (cy 0, 7, .inl y) := fun _ => rfl
theorem cF_9 : ∀ y, cF ad cy 9 y = .inl (cy 0, 400, .inl y) := fun _ => rfl
theorem cF_10 : ∀ y, cF ad cy 10 y = .inl (cy 0, 24, .inl y) := fun _ => rfl
theorem cF_11 : ∀ y, cF ad cy 11 y = .inl (cy 0, 4, .inl y) := fun _ => rfl
theorem cB_bat {b : Nat} (h : b < 4) : 12 + b < 98 := by omega
theorem cB_row {b : Nat} (h : b < 4) : 16 + b < 98 := by omega
theorem cB_tool {b : Nat} (h : b < 6) : 20 + b < 98 := by omega
theorem cB_rnd {b : Nat} (h : b < 24) : 26 + b < 98 := by omega
theorem cB_kin {b : Nat} (h : b < 24) : 50 + b < 98 := by omega
theorem cB_num {b : Nat} (h : b < 24) : 74 + b < 98 := by omega
theorem cB_q {b r : Nat} (h : b < 4) (hr : r < 6) : 6 * b + r < 24 := by omega
theorem cF_bat {b : Nat} (h : b < 4) : ∀ y, cF ad cy (12 + b) y = .inr (0, [.ref (ad (16 + b)), .int (y 1), .int (y 2)]) := by
  intro y
  unfold cF
  rw [if_neg (by omega), if_neg (by omega), if_neg (by omega), if_neg (by omega), if_neg (by omega), if_neg (by omega), if_neg (by omega), if_neg (by omega), if_neg (by omega), if_neg (by omega), if_neg (by omega), if_neg (by omega), if_pos (by omega), show 12 + b + 4 = 16 + b by omega]
theorem cF_row {b : Nat} (h : b < 4) : ∀ y, cF ad cy (16 + b) y = .inl (cy 3, 6, .inr (.inr (.inr (.inr (fun q => some (ad (26 + (6 * b + q)))))))) := by
  intro y
  unfold cF
  rw [if_neg (by omega), if_neg (by omega), if_neg (by omega), if_neg (by omega), if_neg (by omega), if_neg (by omega), if_neg (by omega), if_neg (by omega), if_neg (by omega), if_neg (by omega), if_neg (by omega), if_neg (by omega), if_neg (by omega), if_pos (by omega), show 16 + b - 16 = b by omega]
theorem cF_tool {b : Nat} (h : b < 6) : ∀ y, cF ad cy (20 + b) y = .inr (4, [.int (y 0), .int (y 1), .int (y 2)]) := by
  intro y
  unfold cF
  rw [if_neg (by omega), if_neg (by omega), if_neg (by omega), if_neg (by omega), if_neg (by omega), if_neg (by omega), if_neg (by omega), if_neg (by omega), if_neg (by omega), if_neg (by omega), if_neg (by omega), if_neg (by omega), if_neg (by omega), if_neg (by omega), if_pos (by omega)]
theorem cF_rnd {b : Nat} (h : b < 24) : ∀ y, cF ad cy (26 + b) y = .inr (2, [.ref (ad (50 + b)), .ref (ad (74 + b)), .int (y 2), .int (y 3)]) := by
  intro y
  unfold cF
  rw [if_neg (by omega), if_neg (by omega), if_neg (by omega), if_neg (by omega), if_neg (by omega), if_neg (by omega), if_neg (by omega), if_neg (by omega), if_neg (by omega), if_neg (by omega), if_neg (by omega), if_neg (by omega), if_neg (by omega), if_neg (by omega), if_neg (by omega), if_pos (by omega), show 26 + b + 24 = 50 + b by omega, show 26 + b + 48 = 74 + b by omega]
theorem cF_kin {b : Nat} (h : b < 24) : ∀ y, cF ad cy (50 + b) y = .inl (cy 0, 8, .inl y) := by
  intro y
  unfold cF
  rw [if_neg (by omega), if_neg (by omega), if_neg (by omega), if_neg (by omega), if_neg (by omega), if_neg (by omega), if_neg (by omega), if_neg (by omega), if_neg (by omega), if_neg (by omega), if_neg (by omega), if_neg (by omega), if_neg (by omega), if_neg (by omega), if_neg (by omega), if_neg (by omega)]
theorem cF_num {b : Nat} (h : b < 24) : ∀ y, cF ad cy (74 + b) y = .inl (cy 0, 8, .inl y) := by
  intro y
  unfold cF
  rw [if_neg (by omega), if_neg (by omega), if_neg (by omega), if_neg (by omega), if_neg (by omega), if_neg (by omega), if_neg (by omega), if_neg (by omega), if_neg (by omega), if_neg (by omega), if_neg (by omega), if_neg (by omega), if_neg (by omega), if_neg (by omega), if_neg (by omega), if_neg (by omega)]
end SH
def mF (ad : Nat → Nat) (cy : Nat → ClassId) (i : Nat) (y : Nat → Int32) : va_E :=
  if i = 0 then .inr (6, [.int (y 0), .ref (ad 1), .ref (ad 2), .ref (ad 3), .ref (ad 4), .ref (ad 5), .ref (ad 6), .ref (ad 7), .ref (ad 8), .ref (ad 9), .ref (ad 10), .ref (ad 11), .int (y 12), .int (y 13), .int (y 14), .ref (ad 12), .int (y 16), .int (y 17), .ref (ad 13), .ref (ad 14), .ref (ad 15), .ref (ad 16), .ref (ad 17), .int (y 23), .int (y 24), .int (y 25), .int (y 26), .int (y 27)])
  else if i = 1 then .inl (cy 1, 8, .inl y)
  else .inl (cy 0, (if i = 2 then 8 else if i = 3 then 4 else if i = 4 then 4 else if i = 5 then 24 else if i = 6 then 24 else if i = 7 then 192 else if i = 8 then 192 else if i = 9 then 6 else if i = 10 then 6 else if i = 11 then 6 else if i = 12 then 20 else if i = 13 then 4 else if i = 14 then 8 else if i = 15 then 400 else if i = 16 then 24 else 5), .inl y)
section SM
variable {ad : Nat → Nat} {cy : Nat → ClassId}
theorem mF_0 : ∀ y, mF ad cy 0 y = .inr (6, [.int (y 0), .ref (ad 1), .ref (ad 2), .ref (ad 3), .ref (ad 4), .ref (ad 5), .ref (ad 6), .ref (ad 7), .ref (ad 8), .ref (ad 9), .ref (ad 10), .ref (ad 11), .int (y 12), .int (y 13), .int (y 14), .ref (ad 12), .int (y 16), .int (y 17), .ref (ad 13), .ref (ad 14), .ref (ad 15), .ref (ad 16), .ref (ad 17), .int (y 23), .int (y 24), .int (y 25), .int (y 26), .int (y 27)]) := fun _ => rfl
theorem mF_1 : ∀ y, mF ad cy 1 y = .inl (cy 1, 8, .inl y) := fun _ => rfl
theorem mF_2 : ∀ y, mF ad cy 2 y = .inl (cy 0, 8, .inl y) := fun _ => rfl
theorem mF_3 : ∀ y, mF ad cy 3 y = .inl (cy 0, 4, .inl y) := fun _ => rfl
theorem mF_4 : ∀ y, mF ad cy 4 y = .inl (cy 0, 4, .inl y) := fun _ => rfl
theorem mF_5 : ∀ y, mF ad cy 5 y = .inl (cy 0, 24, .inl y) := fun _ => rfl
theorem mF_6 : ∀ y, mF ad cy 6 y = .inl (cy 0, 24, .inl y) := fun _ => rfl
theorem mF_7 : ∀ y, mF ad cy 7 y = .inl (cy 0, 192, .inl y) := fun _ => rfl
theorem mF_8 : ∀ y, mF ad cy 8 y = .inl (cy 0, 192, .inl y) := fun _ => rfl
theorem mF_9 : ∀ y, mF ad cy 9 y = .inl (cy 0, 6, .inl y) := fun _ => rfl
theorem mF_10 : ∀ y, mF ad cy 10 y = .inl (cy 0, 6, .inl y) := fun _ => rfl
theorem mF_11 : ∀ y, mF ad cy 11 y = .inl (cy 0, 6, .inl y) := fun _ => rfl
theorem mF_12 : ∀ y, mF ad cy 12 y = .inl (cy 0, 20, .inl y) := fun _ => rfl
theorem mF_13 : ∀ y, mF ad cy 13 y = .inl (cy 0, 4, .inl y) := fun _ => rfl
theorem mF_14 : ∀ y, mF ad cy 14 y = .inl (cy 0, 8, .inl y) := fun _ => rfl
theorem mF_15 : ∀ y, mF ad cy 15 y = .inl (cy 0, 400, .inl y) := fun _ => rfl
theorem mF_16 : ∀ y, mF ad cy 16 y = .inl (cy 0, 24, .inl y) := fun _ => rfl
theorem mF_17 : ∀ y, mF ad cy 17 y = .inl (cy 0, 5, .inl y) := fun _ => rfl
end SM
end
section
def inR (v lo hi : Int32) : Int32 :=
  if v < lo then 0
  else if hi < v then 0
  else 1
set_option maxHeartbeats 4000000 in
set_option maxRecDepth 100000 in
theorem c_within (l : Launch) (v lo hi : Int32) : Met l yX6_within wsX6_within ({ frames := 0, cells := 0, slots := 0, locals := 0 }) (fun av _ => av = ([.int v, .int lo, .int hi] : List Value).toArray) (QcRead (inR v lo hi)) 0 0 (fun _ => False) := by
  refine g_metS (cc := cX6_within) (maxL := 3) (ret := (some .boolean)) (by decide) rfl (Nat.le_of_ble_eq_true rfl) ?_
  intro p e s m below meth c S hr hlocks ls hl
  obtain ⟨hx, hb, hml, hown, hts⟩ := S
  have hl : lv_has ls 3 [(0, .int v), (1, .int lo), (2, .int hi)] := hl
  refine lv_iload_n hx hb dX6_within_0 rfl (lv_at hl 0 rfl) ?_
  refine lv_iload_n hx hb dX6_within_1 rfl (lv_at hl 1 rfl) ?_
  refine lv_icmp_lt (tgt := 14) hx hb dX6_within_2 (by decide) (fun c_1 => ?_) (fun c_1 => ?_)
  · skip
    refine lv_iconst (v := 0) hx hb dX6_within_14 (by decide) ?_
    exact g_szret hx hb hr hlocks dX6_within_15 (by decide) (by unfold inR; rw [if_pos c_1])
  · skip
    refine lv_iload_n hx hb dX6_within_5 rfl (lv_at hl 0 rfl) ?_
    refine lv_iload_n hx hb dX6_within_6 rfl (lv_at hl 2 rfl) ?_
    refine lv_icmp_gt (tgt := 14) hx hb dX6_within_7 (by decide) (fun c_2 => ?_) (fun c_2 => ?_)
    · skip
      refine lv_iconst (v := 0) hx hb dX6_within_14 (by decide) ?_
      exact g_szret hx hb hr hlocks dX6_within_15 (by decide) (by unfold inR; rw [if_neg c_1, if_pos c_2])
    · skip
      refine lv_iconst (v := 1) hx hb dX6_within_10 (by decide) ?_
      refine lv_goto (tgt := 15) hx hb dX6_within_11 (by decide) ?_
      exact g_szret hx hb hr hlocks dX6_within_15 (by decide) (by unfold inR; rw [if_neg c_1, if_neg c_2])

def orN (v : Int32) : Int32 :=
  if v = (-1) then (-4)
  else v
set_option maxHeartbeats 4000000 in
set_option maxRecDepth 100000 in
theorem c_orNone (l : Launch) (v : Int32) : Met l yX6_orNone wsX6_orNone ({ frames := 0, cells := 0, slots := 0, locals := 0 }) (fun av _ => av = ([.int v] : List Value).toArray) (QcRead (orN v)) 0 0 (fun _ => False) := by
  refine g_metS (cc := cX6_orNone) (maxL := 1) (ret := (some .int)) (by decide) rfl (Nat.le_of_ble_eq_true rfl) ?_
  intro p e s m below meth c S hr hlocks ls hl
  obtain ⟨hx, hb, hml, hown, hts⟩ := S
  have hl : lv_has ls 1 [(0, .int v)] := hl
  refine lv_iload_n hx hb dX6_orNone_0 rfl (lv_at hl 0 rfl) ?_
  refine lv_iconst (v := (-1)) hx hb dX6_orNone_1 (by decide) ?_
  refine lv_icmp_ne (tgt := 10) hx hb dX6_orNone_2 (by decide) (fun c_1 => ?_) (fun c_1 => ?_)
  · skip
    refine lv_iload_n hx hb dX6_orNone_10 rfl (lv_at hl 0 rfl) ?_
    exact g_sret hx hb hr hlocks dX6_orNone_11 (by unfold orN; rw [if_neg c_1])
  · skip
    refine lv_bipush (v := (-4)) hx hb dX6_orNone_5 (by decide) ?_
    refine lv_goto (tgt := 11) hx hb dX6_orNone_7 (by decide) ?_
    exact g_sret hx hb hr hlocks dX6_orNone_11 (by unfold orN; rw [if_pos c_1])

def cMark (σ : Mem) (ev : Nat) : Mem :=
  if 400 ≤ σ 7 2 then mset (mset σ 8 ev ((σ 8 ev) + 1)) 7 2 ((σ 7 2) + 1)
  else mset (mset (mset σ 8 ev ((σ 8 ev) + 1)) 9 (ci (σ 7 2)) (nI ev)) 7 2 ((σ 7 2) + 1)
set_option maxHeartbeats 4000000 in
set_option maxRecDepth 100000 in
theorem c_mark (l : Launch) (D : va_G) (cy : Nat → ClassId) (ad wy : Nat → Nat) (mt : Nat) (hj : mJ 98 ad) (σ : Mem) (ev : Nat) (hev : ev < 7) (hec : ¬ (400 : Int32) ≤ σ 7 2 → vp_in (σ 7 2) 400) : Met l yX1_mark wsX1_mark ({ frames := 0, cells := 0, slots := 0, locals := 0 }) (va_Pc [.ref (ad 7), .int (nI ev)] (gPre 98 ad (cF ad cy) D cy wy mt σ)) (gQ 98 ad (cF ad cy) D none (cMark σ ev)) 0 0 (mA 98 ad) := by
  refine g_met (cc := cX1_mark) (maxL := 2) (ret := none) (by decide) rfl (Nat.le_of_ble_eq_true rfl) ?_
  intro p e s m below meth c S hr hlocks h0 ls hl
  obtain ⟨hx, hb, hml, hown, hts⟩ := S
  have hP := h0.1
  have hK := h0.2.1
  have hS : va_S (mA 98 ad) s.heap s.heap [] := va_S.rf
  have hl : lv_has ls 2 [(0, .ref (ad 7)), (1, .int (nI ev))] := hl
  have kf9 : (Cond.fieldLink RX1 9 "BenchRuns$Log" "countOf" "[I").before (#[.ref (ad 7), .int (nI ev)] : Array Value) s = true := hts _ (by decide +kernel)
  have hinX1 : ∀ w ∈ u_ws RX1 TX1 7, w ∈ wsX1_mark := by decide +kernel
  have kf18 : (Cond.fieldLink RX1 18 "BenchRuns$Log" "eventCount" "I").before (#[.ref (ad 7), .int (nI ev)] : Array Value) s = true := hts _ (by decide +kernel)
  have kf15 : (Cond.fieldLink RX1 15 "BenchRuns$Log" "events" "[I").before (#[.ref (ad 7), .int (nI ev)] : Array Value) s = true := hts _ (by decide +kernel)
  refine lv_aload_n hx hb dX1_mark_0 rfl (lv_at hl 0 rfl) ?_
  refine mw_get (ci := 1) (C := RX1) (T := TX1) (N := 7) (v := .ref (ad 8)) hx hb hts hinX1 hown hK hP 7 (by decide) cF_7 rfl 0 (by decide) kf9 (fun _ h9 => h9) rfl dX1_mark_1 ?_
  refine lv_iload_n hx hb dX1_mark_4 rfl (lv_at hl 1 rfl) ?_
  refine lv_dup2_11 hx hb dX1_mark_5 rfl rfl ?_
  refine mw_ild hx hb hK hP 8 (by decide) 0 cF_8 rfl ev (by omega) (by decide) rfl dX1_mark_6 ?_
  refine lv_iconst (v := 1) hx hb dX1_mark_7 (by decide) ?_
  refine lv_iadd hx hb dX1_mark_8 ?_
  refine mw_ist hx hb hK hj hP hS 8 (by decide) 0 cF_8 rfl ev (by omega) (by decide) rfl dX1_mark_9 (fun H locs hP hS => ?_)
  refine lv_aload_n hx hb dX1_mark_10 rfl (lv_at hl 0 rfl) ?_
  refine mw_get (ci := 1) (C := RX1) (T := TX1) (N := 7) (v := .int (σ 7 2)) hx hb hts hinX1 hown hK hP 7 (by decide) cF_7 rfl 2 (by decide) kf18 (fun _ h9 => h9) rfl dX1_mark_11 ?_
  refine lv_sipush (v := 400) hx hb dX1_mark_14 (by decide) ?_
  refine lv_icmp_ge (tgt := 30) hx hb dX1_mark_17 (by decide) (fun c_1 => ?_) (fun c_1 => ?_)
  · skip
    refine lv_aload_n hx hb dX1_mark_30 rfl (lv_at hl 0 rfl) ?_
    refine lv_dup hx hb dX1_mark_31 rfl ?_
    refine mw_get (ci := 1) (C := RX1) (T := TX1) (N := 7) (v := .int (σ 7 2)) hx hb hts hinX1 hown hK hP 7 (by decide) cF_7 rfl 2 (by decide) kf18 (fun _ h9 => h9) rfl dX1_mark_32 ?_
    refine lv_iconst (v := 1) hx hb dX1_mark_35 (by decide) ?_
    refine lv_iadd hx hb dX1_mark_36 ?_
    refine mw_put (ci := 1) (C := RX1) (T := TX1) (N := 7) (v := (σ 7 2) + 1) (ty := .int) hx hb hts hinX1 tyX1 tyX1_ok nmX1 hown hK hj hP hS 7 (by decide) cF_7 rfl 2 (by decide) kf18 (fun _ h9 => h9) rfl (by decide +kernel) rfl rfl (Nat.le_of_ble_eq_true rfl) rfl dX1_mark_37 (fun H locs hP hS => ?_)
    exact g_vret hx hb hr hlocks hP hS dX1_mark_40 (by unfold cMark; rw [if_pos c_1])
  · skip
    have ix : vp_in (σ 7 2) 400 := hec c_1
    refine lv_aload_n hx hb dX1_mark_20 rfl (lv_at hl 0 rfl) ?_
    refine mw_get (ci := 1) (C := RX1) (T := TX1) (N := 7) (v := .ref (ad 9)) hx hb hts hinX1 hown hK hP 7 (by decide) cF_7 rfl 1 (by decide) kf15 (fun _ h9 => h9) rfl dX1_mark_21 ?_
    refine lv_aload_n hx hb dX1_mark_24 rfl (lv_at hl 0 rfl) ?_
    refine mw_get (ci := 1) (C := RX1) (T := TX1) (N := 7) (v := .int (σ 7 2)) hx hb hts hinX1 hown hK hP 7 (by decide) cF_7 rfl 2 (by decide) kf18 (fun _ h9 => h9) rfl dX1_mark_25 ?_
    refine lv_iload_n hx hb dX1_mark_28 rfl (lv_at hl 1 rfl) ?_
    refine mw_ist hx hb hK hj hP hS 9 (by decide) 0 cF_9 rfl (ci (σ 7 2)) (ci_lt ix) (by decide) (ci_eq ix (by decide)) dX1_mark_29 (fun H locs hP hS => ?_)
    refine lv_aload_n hx hb dX1_mark_30 rfl (lv_at hl 0 rfl) ?_
    refine lv_dup hx hb dX1_mark_31 rfl ?_
    refine mw_get (ci := 1) (C := RX1) (T := TX1) (N := 7) (v := .int (σ 7 2)) hx hb hts hinX1 hown hK hP 7 (by decide) cF_7 rfl 2 (by decide) kf18 (fun _ h9 => h9) rfl dX1_mark_32 ?_
    refine lv_iconst (v := 1) hx hb dX1_mark_35 (by decide) ?_
    refine lv_iadd hx hb dX1_mark_36 ?_
    refine mw_put (ci := 1) (C := RX1) (T := TX1) (N := 7) (v := (σ 7 2) + 1) (ty := .int) hx hb hts hinX1 tyX1 tyX1_ok nmX1 hown hK hj hP hS 7 (by decide) cF_7 rfl 2 (by decide) kf18 (fun _ h9 => h9) rfl (by decide +kernel) rfl rfl (Nat.le_of_ble_eq_true rfl) rfl dX1_mark_37 (fun H locs hP hS => ?_)
    exact g_vret hx hb hr hlocks hP hS dX1_mark_40 (by unfold cMark; rw [if_neg c_1])

def cFail (σ : Mem) (n : Int32) : Nat × Mem :=
  if n < 3 then (5, mset (mset (mset σ 11 0 n) 11 1 n) 7 6 1)
  else if 8 < n then (5, mset (mset (mset σ 11 0 n) 11 1 n) 7 6 1)
  else (5, mset (mset (mset σ 11 0 (100 + n)) 11 1 n) 7 6 2)
set_option maxHeartbeats 4000000 in
set_option maxRecDepth 100000 in
theorem c_fail (l : Launch) (D : va_G) (cy : Nat → ClassId) (ad wy : Nat → Nat) (mt : Nat) (hj : mJ 98 ad) (σ : Mem) (n : Int32)  : Met l yX1_fail wsX1_fail ({ frames := 0, cells := 0, slots := 0, locals := 0 }) (va_Pc [.ref (ad 7), .int n] (gPre 98 ad (cF ad cy) D cy wy mt σ)) (gQ 98 ad (cF ad cy) D (some (.ref (wy (cFail σ n).1))) (cFail σ n).2) 0 0 (mA 98 ad) := by
  refine g_met (cc := cX1_fail) (maxL := 3) (ret := (some (.object "BenchRuns$Way"))) (by decide) rfl (Nat.le_of_ble_eq_true rfl) ?_
  intro p e s m below meth c S hr hlocks h0 ls hl
  obtain ⟨hx, hb, hml, hown, hts⟩ := S
  have hP := h0.1
  have hK := h0.2.1
  have hS : va_S (mA 98 ad) s.heap s.heap [] := va_S.rf
  have hl : lv_has ls 3 [(0, .ref (ad 7)), (1, .int n)] := hl
  have kf28 : (Cond.fieldLink RX1 28 "BenchRuns$Log" "chain" "[I").before (#[.ref (ad 7), .int n] : Array Value) s = true := hts _ (by decide +kernel)
  have hinX1 : ∀ w ∈ u_ws RX1 TX1 7, w ∈ wsX1_fail := by decide +kernel
  have kf31 : (Cond.fieldLink RX1 31 "BenchRuns$Log" "chainLength" "I").before (#[.ref (ad 7), .int n] : Array Value) s = true := hts _ (by decide +kernel)
  have kf34 : (Cond.fieldLink RX1 34 "BenchRuns$Way" "FAILURE" "LBenchRuns$Way;").before (#[.ref (ad 7), .int n] : Array Value) s = true := hts _ (by decide +kernel)
  refine lv_iload_n hx hb dX1_fail_0 rfl (lv_at hl 1 rfl) ?_
  refine lv_iconst (v := 3) hx hb dX1_fail_1 (by decide) ?_
  refine lv_icmp_lt (tgt := 15) hx hb dX1_fail_2 (by decide) (fun c_1 => ?_) (fun c_1 => ?_)
  · skip
    refine lv_iconst (v := 0) hx hb dX1_fail_15 (by decide) ?_
    refine lv_istore_n (lv' := [(2, .int 0), (0, .ref (ad 7)), (1, .int n)]) hx hb dX1_fail_16 rfl hl (by decide) rfl (fun ls hl => ?_)
    refine lv_aload_n hx hb dX1_fail_17 rfl (lv_at hl 1 rfl) ?_
    refine mw_get (ci := 1) (C := RX1) (T := TX1) (N := 7) (v := .ref (ad 11)) hx hb hts hinX1 hown hK hP 7 (by decide) cF_7 rfl 5 (by decide) kf28 (fun _ h9 => h9) rfl dX1_fail_18 ?_
    refine lv_iconst (v := 0) hx hb dX1_fail_21 (by decide) ?_
    refine lv_iload_n hx hb dX1_fail_22 rfl (lv_at hl 0 rfl) ?_
    refine lv_if_eq (tgt := 33) hx hb dX1_fail_23 (by decide) (fun _ => ?_) (fun c9 => absurd c9 (by decide))
    refine lv_iload_n hx hb dX1_fail_33 rfl (lv_at hl 2 rfl) ?_
    refine mw_ist hx hb hK hj hP hS 11 (by decide) 0 cF_11 rfl 0 (by decide) (by decide) rfl dX1_fail_34 (fun H locs hP hS => ?_)
    refine lv_aload_n hx hb dX1_fail_35 rfl (lv_at hl 1 rfl) ?_
    refine mw_get (ci := 1) (C := RX1) (T := TX1) (N := 7) (v := .ref (ad 11)) hx hb hts hinX1 hown hK hP 7 (by decide) cF_7 rfl 5 (by decide) kf28 (fun _ h9 => h9) rfl dX1_fail_36 ?_
    refine lv_iconst (v := 1) hx hb dX1_fail_39 (by decide) ?_
    refine lv_iload_n hx hb dX1_fail_40 rfl (lv_at hl 2 rfl) ?_
    refine mw_ist hx hb hK hj hP hS 11 (by decide) 0 cF_11 rfl 1 (by decide) (by decide) rfl dX1_fail_41 (fun H locs hP hS => ?_)
    refine lv_aload_n hx hb dX1_fail_42 rfl (lv_at hl 1 rfl) ?_
    refine lv_iload_n hx hb dX1_fail_43 rfl (lv_at hl 0 rfl) ?_
    refine lv_if_eq (tgt := 51) hx hb dX1_fail_44 (by decide) (fun _ => ?_) (fun c9 => absurd c9 (by decide))
    refine lv_iconst (v := 1) hx hb dX1_fail_51 (by decide) ?_
    refine mw_put (ci := 1) (C := RX1) (T := TX1) (N := 7) (v := 1) (ty := .int) hx hb hts hinX1 tyX1 tyX1_ok nmX1 hown hK hj hP hS 7 (by decide) cF_7 rfl 6 (by decide) kf31 (fun _ h9 => h9) rfl (by decide +kernel) rfl rfl (Nat.le_of_ble_eq_true rfl) rfl dX1_fail_52 (fun H locs hP hS => ?_)
    refine g_way hx hb h0 hS hown 5 (by decide) rfl kf34 dX1_fail_55 ?_
    exact g_aret hx hb hr hlocks hP hS dX1_fail_58 (by unfold cFail; rw [if_pos c_1])
  · skip
    refine lv_iload_n hx hb dX1_fail_5 rfl (lv_at hl 1 rfl) ?_
    refine lv_bipush (v := 8) hx hb dX1_fail_6 (by decide) ?_
    refine lv_icmp_gt (tgt := 15) hx hb dX1_fail_8 (by decide) (fun c_2 => ?_) (fun c_2 => ?_)
    · skip
      refine lv_iconst (v := 0) hx hb dX1_fail_15 (by decide) ?_
      refine lv_istore_n (lv' := [(2, .int 0), (0, .ref (ad 7)), (1, .int n)]) hx hb dX1_fail_16 rfl hl (by decide) rfl (fun ls hl => ?_)
      refine lv_aload_n hx hb dX1_fail_17 rfl (lv_at hl 1 rfl) ?_
      refine mw_get (ci := 1) (C := RX1) (T := TX1) (N := 7) (v := .ref (ad 11)) hx hb hts hinX1 hown hK hP 7 (by decide) cF_7 rfl 5 (by decide) kf28 (fun _ h9 => h9) rfl dX1_fail_18 ?_
      refine lv_iconst (v := 0) hx hb dX1_fail_21 (by decide) ?_
      refine lv_iload_n hx hb dX1_fail_22 rfl (lv_at hl 0 rfl) ?_
      refine lv_if_eq (tgt := 33) hx hb dX1_fail_23 (by decide) (fun _ => ?_) (fun c9 => absurd c9 (by decide))
      refine lv_iload_n hx hb dX1_fail_33 rfl (lv_at hl 2 rfl) ?_
      refine mw_ist hx hb hK hj hP hS 11 (by decide) 0 cF_11 rfl 0 (by decide) (by decide) rfl dX1_fail_34 (fun H locs hP hS => ?_)
      refine lv_aload_n hx hb dX1_fail_35 rfl (lv_at hl 1 rfl) ?_
      refine mw_get (ci := 1) (C := RX1) (T := TX1) (N := 7) (v := .ref (ad 11)) hx hb hts hinX1 hown hK hP 7 (by decide) cF_7 rfl 5 (by decide) kf28 (fun _ h9 => h9) rfl dX1_fail_36 ?_
      refine lv_iconst (v := 1) hx hb dX1_fail_39 (by decide) ?_
      refine lv_iload_n hx hb dX1_fail_40 rfl (lv_at hl 2 rfl) ?_
      refine mw_ist hx hb hK hj hP hS 11 (by decide) 0 cF_11 rfl 1 (by decide) (by decide) rfl dX1_fail_41 (fun H locs hP hS => ?_)
      refine lv_aload_n hx hb dX1_fail_42 rfl (lv_at hl 1 rfl) ?_
      refine lv_iload_n hx hb dX1_fail_43 rfl (lv_at hl 0 rfl) ?_
      refine lv_if_eq (tgt := 51) hx hb dX1_fail_44 (by decide) (fun _ => ?_) (fun c9 => absurd c9 (by decide))
      refine lv_iconst (v := 1) hx hb dX1_fail_51 (by decide) ?_
      refine mw_put (ci := 1) (C := RX1) (T := TX1) (N := 7) (v := 1) (ty := .int) hx hb hts hinX1 tyX1 tyX1_ok nmX1 hown hK hj hP hS 7 (by decide) cF_7 rfl 6 (by decide) kf31 (fun _ h9 => h9) rfl (by decide +kernel) rfl rfl (Nat.le_of_ble_eq_true rfl) rfl dX1_fail_52 (fun H locs hP hS => ?_)
      refine g_way hx hb h0 hS hown 5 (by decide) rfl kf34 dX1_fail_55 ?_
      exact g_aret hx hb hr hlocks hP hS dX1_fail_58 (by unfold cFail; rw [if_neg c_1, if_pos c_2])
    · skip
      refine lv_iconst (v := 1) hx hb dX1_fail_11 (by decide) ?_
      refine lv_goto (tgt := 16) hx hb dX1_fail_12 (by decide) ?_
      refine lv_istore_n (lv' := [(2, .int 1), (0, .ref (ad 7)), (1, .int n)]) hx hb dX1_fail_16 rfl hl (by decide) rfl (fun ls hl => ?_)
      refine lv_aload_n hx hb dX1_fail_17 rfl (lv_at hl 1 rfl) ?_
      refine mw_get (ci := 1) (C := RX1) (T := TX1) (N := 7) (v := .ref (ad 11)) hx hb hts hinX1 hown hK hP 7 (by decide) cF_7 rfl 5 (by decide) kf28 (fun _ h9 => h9) rfl dX1_fail_18 ?_
      refine lv_iconst (v := 0) hx hb dX1_fail_21 (by decide) ?_
      refine lv_iload_n hx hb dX1_fail_22 rfl (lv_at hl 0 rfl) ?_
      refine lv_if_eq (tgt := 33) hx hb dX1_fail_23 (by decide) (fun c9 => absurd c9 (by decide)) (fun _ => ?_)
      refine lv_bipush (v := 100) hx hb dX1_fail_26 (by decide) ?_
      refine lv_iload_n hx hb dX1_fail_28 rfl (lv_at hl 2 rfl) ?_
      refine lv_iadd hx hb dX1_fail_29 ?_
      refine lv_goto (tgt := 34) hx hb dX1_fail_30 (by decide) ?_
      refine mw_ist hx hb hK hj hP hS 11 (by decide) 0 cF_11 rfl 0 (by decide) (by decide) rfl dX1_fail_34 (fun H locs hP hS => ?_)
      refine lv_aload_n hx hb dX1_fail_35 rfl (lv_at hl 1 rfl) ?_
      refine mw_get (ci := 1) (C := RX1) (T := TX1) (N := 7) (v := .ref (ad 11)) hx hb hts hinX1 hown hK hP 7 (by decide) cF_7 rfl 5 (by decide) kf28 (fun _ h9 => h9) rfl dX1_fail_36 ?_
      refine lv_iconst (v := 1) hx hb dX1_fail_39 (by decide) ?_
      refine lv_iload_n hx hb dX1_fail_40 rfl (lv_at hl 2 rfl) ?_
      refine mw_ist hx hb hK hj hP hS 11 (by decide) 0 cF_11 rfl 1 (by decide) (by decide) rfl dX1_fail_41 (fun H locs hP hS => ?_)
      refine lv_aload_n hx hb dX1_fail_42 rfl (lv_at hl 1 rfl) ?_
      refine lv_iload_n hx hb dX1_fail_43 rfl (lv_at hl 0 rfl) ?_
      refine lv_if_eq (tgt := 51) hx hb dX1_fail_44 (by decide) (fun c9 => absurd c9 (by decide)) (fun _ => ?_)
      refine lv_iconst (v := 2) hx hb dX1_fail_47 (by decide) ?_
      refine lv_goto (tgt := 52) hx hb dX1_fail_48 (by decide) ?_
      refine mw_put (ci := 1) (C := RX1) (T := TX1) (N := 7) (v := 2) (ty := .int) hx hb hts hinX1 tyX1 tyX1_ok nmX1 hown hK hj hP hS 7 (by decide) cF_7 rfl 6 (by decide) kf31 (fun _ h9 => h9) rfl (by decide +kernel) rfl rfl (Nat.le_of_ble_eq_true rfl) rfl dX1_fail_52 (fun H locs hP hS => ?_)
      refine g_way hx hb h0 hS hown 5 (by decide) rfl kf34 dX1_fail_55 ?_
      exact g_aret hx hb hr hlocks hP hS dX1_fail_58 (by unfold cFail; rw [if_neg c_1, if_neg c_2])

def cFailLaid (σ : Mem) (n : Int32) : Nat × Mem :=
  (5, mset (mset σ 11 0 n) 7 6 1)
set_option maxHeartbeats 4000000 in
set_option maxRecDepth 100000 in
theorem c_failAsLaid (l : Launch) (D : va_G) (cy : Nat → ClassId) (ad wy : Nat → Nat) (mt : Nat) (hj : mJ 98 ad) (σ : Mem) (n : Int32)  : Met l yX1_failAsLaid wsX1_failAsLaid ({ frames := 0, cells := 0, slots := 0, locals := 0 }) (va_Pc [.ref (ad 7), .int n] (gPre 98 ad (cF ad cy) D cy wy mt σ)) (gQ 98 ad (cF ad cy) D (some (.ref (wy (cFailLaid σ n).1))) (cFailLaid σ n).2) 0 0 (mA 98 ad) := by
  refine g_met (cc := cX1_failAsLaid) (maxL := 2) (ret := (some (.object "BenchRuns$Way"))) (by decide) rfl (Nat.le_of_ble_eq_true rfl) ?_
  intro p e s m below meth c S hr hlocks h0 ls hl
  obtain ⟨hx, hb, hml, hown, hts⟩ := S
  have hP := h0.1
  have hK := h0.2.1
  have hS : va_S (mA 98 ad) s.heap s.heap [] := va_S.rf
  have hl : lv_has ls 2 [(0, .ref (ad 7)), (1, .int n)] := hl
  have kf28 : (Cond.fieldLink RX1 28 "BenchRuns$Log" "chain" "[I").before (#[.ref (ad 7), .int n] : Array Value) s = true := hts _ (by decide +kernel)
  have hinX1 : ∀ w ∈ u_ws RX1 TX1 7, w ∈ wsX1_failAsLaid := by decide +kernel
  have kf31 : (Cond.fieldLink RX1 31 "BenchRuns$Log" "chainLength" "I").before (#[.ref (ad 7), .int n] : Array Value) s = true := hts _ (by decide +kernel)
  have kf34 : (Cond.fieldLink RX1 34 "BenchRuns$Way" "FAILURE" "LBenchRuns$Way;").before (#[.ref (ad 7), .int n] : Array Value) s = true := hts _ (by decide +kernel)
  refine lv_aload_n hx hb dX1_failAsLaid_0 rfl (lv_at hl 0 rfl) ?_
  refine mw_get (ci := 1) (C := RX1) (T := TX1) (N := 7) (v := .ref (ad 11)) hx hb hts hinX1 hown hK hP 7 (by decide) cF_7 rfl 5 (by decide) kf28 (fun _ h9 => h9) rfl dX1_failAsLaid_1 ?_
  refine lv_iconst (v := 0) hx hb dX1_failAsLaid_4 (by decide) ?_
  refine lv_iload_n hx hb dX1_failAsLaid_5 rfl (lv_at hl 1 rfl) ?_
  refine mw_ist hx hb hK hj hP hS 11 (by decide) 0 cF_11 rfl 0 (by decide) (by decide) rfl dX1_failAsLaid_6 (fun H locs hP hS => ?_)
  refine lv_aload_n hx hb dX1_failAsLaid_7 rfl (lv_at hl 0 rfl) ?_
  refine lv_iconst (v := 1) hx hb dX1_failAsLaid_8 (by decide) ?_
  refine mw_put (ci := 1) (C := RX1) (T := TX1) (N := 7) (v := 1) (ty := .int) hx hb hts hinX1 tyX1 tyX1_ok nmX1 hown hK hj hP hS 7 (by decide) cF_7 rfl 6 (by decide) kf31 (fun _ h9 => h9) rfl (by decide +kernel) rfl rfl (Nat.le_of_ble_eq_true rfl) rfl dX1_failAsLaid_9 (fun H locs hP hS => ?_)
  refine g_way hx hb h0 hS hown 5 (by decide) rfl kf34 dX1_failAsLaid_12 ?_
  exact g_aret hx hb hr hlocks hP hS dX1_failAsLaid_15 (by unfold cFailLaid; rfl)

def cInStead (σ : Mem) (n : Int32) : Mem :=
  if 4 ≤ σ 7 6 then σ
  else mset (mset σ 11 (ci (σ 7 6)) n) 7 6 ((σ 7 6) + 1)
set_option maxHeartbeats 4000000 in
set_option maxRecDepth 100000 in
theorem c_failInStead (l : Launch) (D : va_G) (cy : Nat → ClassId) (ad wy : Nat → Nat) (mt : Nat) (hj : mJ 98 ad) (σ : Mem) (n : Int32) (hcl : ¬ (4 : Int32) ≤ σ 7 6 → vp_in (σ 7 6) 4) : Met l yX1_failInStead wsX1_failInStead ({ frames := 0, cells := 0, slots := 0, locals := 0 }) (va_Pc [.ref (ad 7), .int n] (gPre 98 ad (cF ad cy) D cy wy mt σ)) (gQ 98 ad (cF ad cy) D none (cInStead σ n)) 0 0 (mA 98 ad) := by
  refine g_met (cc := cX1_failInStead) (maxL := 2) (ret := none) (by decide) rfl (Nat.le_of_ble_eq_true rfl) ?_
  intro p e s m below meth c S hr hlocks h0 ls hl
  obtain ⟨hx, hb, hml, hown, hts⟩ := S
  have hP := h0.1
  have hK := h0.2.1
  have hS : va_S (mA 98 ad) s.heap s.heap [] := va_S.rf
  have hl : lv_has ls 2 [(0, .ref (ad 7)), (1, .int n)] := hl
  have kf31 : (Cond.fieldLink RX1 31 "BenchRuns$Log" "chainLength" "I").before (#[.ref (ad 7), .int n] : Array Value) s = true := hts _ (by decide +kernel)
  have hinX1 : ∀ w ∈ u_ws RX1 TX1 7, w ∈ wsX1_failInStead := by decide +kernel
  have kf28 : (Cond.fieldLink RX1 28 "BenchRuns$Log" "chain" "[I").before (#[.ref (ad 7), .int n] : Array Value) s = true := hts _ (by decide +kernel)
  refine lv_aload_n hx hb dX1_failInStead_0 rfl (lv_at hl 0 rfl) ?_
  refine mw_get (ci := 1) (C := RX1) (T := TX1) (N := 7) (v := .int (σ 7 6)) hx hb hts hinX1 hown hK hP 7 (by decide) cF_7 rfl 6 (by decide) kf31 (fun _ h9 => h9) rfl dX1_failInStead_1 ?_
  refine lv_iconst (v := 4) hx hb dX1_failInStead_4 (by decide) ?_
  refine lv_icmp_ge (tgt := 28) hx hb dX1_failInStead_5 (by decide) (fun c_1 => ?_) (fun c_1 => ?_)
  · skip
    exact g_vret hx hb hr hlocks hP hS dX1_failInStead_28 (by unfold cInStead; rw [if_pos c_1])
  · skip
    have ix : vp_in (σ 7 6) 4 := hcl c_1
    refine lv_aload_n hx hb dX1_failInStead_8 rfl (lv_at hl 0 rfl) ?_
    refine mw_get (ci := 1) (C := RX1) (T := TX1) (N := 7) (v := .ref (ad 11)) hx hb hts hinX1 hown hK hP 7 (by decide) cF_7 rfl 5 (by decide) kf28 (fun _ h9 => h9) rfl dX1_failInStead_9 ?_
    refine lv_aload_n hx hb dX1_failInStead_12 rfl (lv_at hl 0 rfl) ?_
    refine mw_get (ci := 1) (C := RX1) (T := TX1) (N := 7) (v := .int (σ 7 6)) hx hb hts hinX1 hown hK hP 7 (by decide) cF_7 rfl 6 (by decide) kf31 (fun _ h9 => h9) rfl dX1_failInStead_13 ?_
    refine lv_iload_n hx hb dX1_failInStead_16 rfl (lv_at hl 1 rfl) ?_
    refine mw_ist hx hb hK hj hP hS 11 (by decide) 0 cF_11 rfl (ci (σ 7 6)) (ci_lt ix) (by decide) (ci_eq ix (by decide)) dX1_failInStead_17 (fun H locs hP hS => ?_)
    refine lv_aload_n hx hb dX1_failInStead_18 rfl (lv_at hl 0 rfl) ?_
    refine lv_dup hx hb dX1_failInStead_19 rfl ?_
    refine mw_get (ci := 1) (C := RX1) (T := TX1) (N := 7) (v := .int (σ 7 6)) hx hb hts hinX1 hown hK hP 7 (by decide) cF_7 rfl 6 (by decide) kf31 (fun _ h9 => h9) rfl dX1_failInStead_20 ?_
    refine lv_iconst (v := 1) hx hb dX1_failInStead_23 (by decide) ?_
    refine lv_iadd hx hb dX1_failInStead_24 ?_
    refine mw_put (ci := 1) (C := RX1) (T := TX1) (N := 7) (v := (σ 7 6) + 1) (ty := .int) hx hb hts hinX1 tyX1 tyX1_ok nmX1 hown hK hj hP hS 7 (by decide) cF_7 rfl 6 (by decide) kf31 (fun _ h9 => h9) rfl (by decide +kernel) rfl rfl (Nat.le_of_ble_eq_true rfl) rfl dX1_failInStead_25 (fun H locs hP hS => ?_)
    exact g_vret hx hb hr hlocks hP hS dX1_failInStead_28 (by unfold cInStead; rw [if_neg c_1])

def cNote (σ : Mem)  : Mem :=
  if σ 7 6 ≤ 0 then mset σ 7 6 0
  else if 24 ≤ σ 7 4 then mset σ 7 6 0
  else mset (mset (mset σ 10 (ci (σ 7 4)) (σ 11 (ci ((σ 7 6) - 1)))) 7 4 ((σ 7 4) + 1)) 7 6 0
set_option maxHeartbeats 4000000 in
set_option maxRecDepth 100000 in
theorem c_noteFailure (l : Launch) (D : va_G) (cy : Nat → ClassId) (ad wy : Nat → Nat) (mt : Nat) (hj : mJ 98 ad) (σ : Mem)  (hcl : ¬ σ 7 6 ≤ 0 → vp_in (σ 7 6 - 1) 4) (hnc : ¬ (24 : Int32) ≤ σ 7 4 → vp_in (σ 7 4) 24) : Met l yX1_noteFailure wsX1_noteFailure ({ frames := 0, cells := 0, slots := 0, locals := 0 }) (va_Pc [.ref (ad 7)] (gPre 98 ad (cF ad cy) D cy wy mt σ)) (gQ 98 ad (cF ad cy) D none (cNote σ)) 0 0 (mA 98 ad) := by
  refine g_met (cc := cX1_noteFailure) (maxL := 1) (ret := none) (by decide) rfl (Nat.le_of_ble_eq_true rfl) ?_
  intro p e s m below meth c S hr hlocks h0 ls hl
  obtain ⟨hx, hb, hml, hown, hts⟩ := S
  have hP := h0.1
  have hK := h0.2.1
  have hS : va_S (mA 98 ad) s.heap s.heap [] := va_S.rf
  have hl : lv_has ls 1 [(0, .ref (ad 7))] := hl
  have kf31 : (Cond.fieldLink RX1 31 "BenchRuns$Log" "chainLength" "I").before (#[.ref (ad 7)] : Array Value) s = true := hts _ (by decide +kernel)
  have hinX1 : ∀ w ∈ u_ws RX1 TX1 7, w ∈ wsX1_noteFailure := by decide +kernel
  have kf25 : (Cond.fieldLink RX1 25 "BenchRuns$Log" "notedCount" "I").before (#[.ref (ad 7)] : Array Value) s = true := hts _ (by decide +kernel)
  have kf22 : (Cond.fieldLink RX1 22 "BenchRuns$Log" "notedNumbers" "[I").before (#[.ref (ad 7)] : Array Value) s = true := hts _ (by decide +kernel)
  have kf28 : (Cond.fieldLink RX1 28 "BenchRuns$Log" "chain" "[I").before (#[.ref (ad 7)] : Array Value) s = true := hts _ (by decide +kernel)
  refine lv_aload_n hx hb dX1_noteFailure_0 rfl (lv_at hl 0 rfl) ?_
  refine mw_get (ci := 1) (C := RX1) (T := TX1) (N := 7) (v := .int (σ 7 6)) hx hb hts hinX1 hown hK hP 7 (by decide) cF_7 rfl 6 (by decide) kf31 (fun _ h9 => h9) rfl dX1_noteFailure_1 ?_
  refine lv_if_le (tgt := 46) hx hb dX1_noteFailure_4 (by decide) (fun c_1 => ?_) (fun c_1 => ?_)
  · skip
    refine lv_aload_n hx hb dX1_noteFailure_46 rfl (lv_at hl 0 rfl) ?_
    refine lv_iconst (v := 0) hx hb dX1_noteFailure_47 (by decide) ?_
    refine mw_put (ci := 1) (C := RX1) (T := TX1) (N := 7) (v := 0) (ty := .int) hx hb hts hinX1 tyX1 tyX1_ok nmX1 hown hK hj hP hS 7 (by decide) cF_7 rfl 6 (by decide) kf31 (fun _ h9 => h9) rfl (by decide +kernel) rfl rfl (Nat.le_of_ble_eq_true rfl) rfl dX1_noteFailure_48 (fun H locs hP hS => ?_)
    exact g_vret hx hb hr hlocks hP hS dX1_noteFailure_51 (by unfold cNote; rw [if_pos c_1])
  · skip
    have ix : vp_in (σ 7 6 - 1) 4 := hcl c_1
    refine lv_aload_n hx hb dX1_noteFailure_7 rfl (lv_at hl 0 rfl) ?_
    refine mw_get (ci := 1) (C := RX1) (T := TX1) (N := 7) (v := .int (σ 7 4)) hx hb hts hinX1 hown hK hP 7 (by decide) cF_7 rfl 4 (by decide) kf25 (fun _ h9 => h9) rfl dX1_noteFailure_8 ?_
    refine lv_bipush (v := 24) hx hb dX1_noteFailure_11 (by decide) ?_
    refine lv_icmp_ge (tgt := 46) hx hb dX1_noteFailure_13 (by decide) (fun c_2 => ?_) (fun c_2 => ?_)
    · skip
      refine lv_aload_n hx hb dX1_noteFailure_46 rfl (lv_at hl 0 rfl) ?_
      refine lv_iconst (v := 0) hx hb dX1_noteFailure_47 (by decide) ?_
      refine mw_put (ci := 1) (C := RX1) (T := TX1) (N := 7) (v := 0) (ty := .int) hx hb hts hinX1 tyX1 tyX1_ok nmX1 hown hK hj hP hS 7 (by decide) cF_7 rfl 6 (by decide) kf31 (fun _ h9 => h9) rfl (by decide +kernel) rfl rfl (Nat.le_of_ble_eq_true rfl) rfl dX1_noteFailure_48 (fun H locs hP hS => ?_)
      exact g_vret hx hb hr hlocks hP hS dX1_noteFailure_51 (by unfold cNote; rw [if_neg c_1, if_pos c_2])
    · skip
      have ix2 : vp_in (σ 7 4) 24 := hnc c_2
      refine lv_aload_n hx hb dX1_noteFailure_16 rfl (lv_at hl 0 rfl) ?_
      refine mw_get (ci := 1) (C := RX1) (T := TX1) (N := 7) (v := .ref (ad 10)) hx hb hts hinX1 hown hK hP 7 (by decide) cF_7 rfl 3 (by decide) kf22 (fun _ h9 => h9) rfl dX1_noteFailure_17 ?_
      refine lv_aload_n hx hb dX1_noteFailure_20 rfl (lv_at hl 0 rfl) ?_
      refine mw_get (ci := 1) (C := RX1) (T := TX1) (N := 7) (v := .int (σ 7 4)) hx hb hts hinX1 hown hK hP 7 (by decide) cF_7 rfl 4 (by decide) kf25 (fun _ h9 => h9) rfl dX1_noteFailure_21 ?_
      refine lv_aload_n hx hb dX1_noteFailure_24 rfl (lv_at hl 0 rfl) ?_
      refine mw_get (ci := 1) (C := RX1) (T := TX1) (N := 7) (v := .ref (ad 11)) hx hb hts hinX1 hown hK hP 7 (by decide) cF_7 rfl 5 (by decide) kf28 (fun _ h9 => h9) rfl dX1_noteFailure_25 ?_
      refine lv_aload_n hx hb dX1_noteFailure_28 rfl (lv_at hl 0 rfl) ?_
      refine mw_get (ci := 1) (C := RX1) (T := TX1) (N := 7) (v := .int (σ 7 6)) hx hb hts hinX1 hown hK hP 7 (by decide) cF_7 rfl 6 (by decide) kf31 (fun _ h9 => h9) rfl dX1_noteFailure_29 ?_
      refine lv_iconst (v := 1) hx hb dX1_noteFailure_32 (by decide) ?_
      refine lv_isub hx hb dX1_noteFailure_33 ?_
      refine mw_ild hx hb hK hP 11 (by decide) 0 cF_11 rfl (ci ((σ 7 6) - 1)) (ci_lt ix) (by decide) (ci_eq ix (by decide)) dX1_noteFailure_34 ?_
      refine mw_ist hx hb hK hj hP hS 10 (by decide) 0 cF_10 rfl (ci (σ 7 4)) (ci_lt ix2) (by decide) (ci_eq ix2 (by decide)) dX1_noteFailure_35 (fun H locs hP hS => ?_)
      refine lv_aload_n hx hb dX1_noteFailure_36 rfl (lv_at hl 0 rfl) ?_
      refine lv_dup hx hb dX1_noteFailure_37 rfl ?_
      refine mw_get (ci := 1) (C := RX1) (T := TX1) (N := 7) (v := .int (σ 7 4)) hx hb hts hinX1 hown hK hP 7 (by decide) cF_7 rfl 4 (by decide) kf25 (fun _ h9 => h9) rfl dX1_noteFailure_38 ?_
      refine lv_iconst (v := 1) hx hb dX1_noteFailure_41 (by decide) ?_
      refine lv_iadd hx hb dX1_noteFailure_42 ?_
      refine mw_put (ci := 1) (C := RX1) (T := TX1) (N := 7) (v := (σ 7 4) + 1) (ty := .int) hx hb hts hinX1 tyX1 tyX1_ok nmX1 hown hK hj hP hS 7 (by decide) cF_7 rfl 4 (by decide) kf25 (fun _ h9 => h9) rfl (by decide +kernel) rfl rfl (Nat.le_of_ble_eq_true rfl) rfl dX1_noteFailure_43 (fun H locs hP hS => ?_)
      refine lv_aload_n hx hb dX1_noteFailure_46 rfl (lv_at hl 0 rfl) ?_
      refine lv_iconst (v := 0) hx hb dX1_noteFailure_47 (by decide) ?_
      refine mw_put (ci := 1) (C := RX1) (T := TX1) (N := 7) (v := 0) (ty := .int) hx hb hts hinX1 tyX1 tyX1_ok nmX1 hown hK hj hP hS 7 (by decide) cF_7 rfl 6 (by decide) kf31 (fun _ h9 => h9) rfl (by decide +kernel) rfl rfl (Nat.le_of_ble_eq_true rfl) rfl dX1_noteFailure_48 (fun H locs hP hS => ?_)
      exact g_vret hx hb hr hlocks hP hS dX1_noteFailure_51 (by unfold cNote; rw [if_neg c_1, if_neg c_2])
end
section
/-- the first k places of the box emptied -/
def cClr (σ : Mem) : Nat → Mem
  | 0 => σ
  | k + 1 => mset (cClr σ k) 6 k (-4)
def cRndBegin (σ : Mem) (q : Nat) (v : Int32) : Mem :=
  mset (mset σ (26 + q) 3 v) (26 + q) 2 0
set_option maxHeartbeats 4000000 in
set_option maxRecDepth 100000 in
theorem c_rndBegin (l : Launch) (D : va_G) (cy : Nat → ClassId) (ad wy : Nat → Nat) (mt : Nat) (hj : mJ 98 ad) (σ : Mem) (q : Nat) (hq : q < 24) (v : Int32)  : Met l yX2_beginAnew wsX2_beginAnew ({ frames := 0, cells := 0, slots := 0, locals := 0 }) (va_Pc [.ref (ad (26 + q)), .int v] (gPre 98 ad (cF ad cy) D cy wy mt σ)) (gQ 98 ad (cF ad cy) D none (cRndBegin σ q v)) 0 0 (mA 98 ad) := by
  refine g_met (cc := cX2_beginAnew) (maxL := 2) (ret := none) (by decide) rfl (Nat.le_of_ble_eq_true rfl) ?_
  intro p e s m below meth c S hr hlocks h0 ls hl
  obtain ⟨hx, hb, hml, hown, hts⟩ := S
  have hP := h0.1
  have hK := h0.2.1
  have hS : va_S (mA 98 ad) s.heap s.heap [] := va_S.rf
  have hl : lv_has ls 2 [(0, .ref (ad (26 + q))), (1, .int v)] := hl
  have kf22 : (Cond.fieldLink RX2 22 "BenchRuns$Round" "vial" "I").before (#[.ref (ad (26 + q)), .int v] : Array Value) s = true := hts _ (by decide +kernel)
  have hinX2 : ∀ w ∈ u_ws RX2 TX2 4, w ∈ wsX2_beginAnew := by decide +kernel
  have kf18 : (Cond.fieldLink RX2 18 "BenchRuns$Round" "stepCount" "I").before (#[.ref (ad (26 + q)), .int v] : Array Value) s = true := hts _ (by decide +kernel)
  refine lv_aload_n hx hb dX2_beginAnew_0 rfl (lv_at hl 0 rfl) ?_
  refine lv_iload_n hx hb dX2_beginAnew_1 rfl (lv_at hl 1 rfl) ?_
  refine mw_put (ci := 2) (C := RX2) (T := TX2) (N := 4) (v := v) (ty := .int) hx hb hts hinX2 tyX2 tyX2_ok nmX2 hown hK hj hP hS (26 + q) (cB_rnd hq) (cF_rnd hq) rfl 3 (by decide) kf22 (fun _ h9 => h9) rfl (by decide +kernel) rfl rfl (Nat.le_of_ble_eq_true rfl) rfl dX2_beginAnew_2 (fun H locs hP hS => ?_)
  refine lv_aload_n hx hb dX2_beginAnew_5 rfl (lv_at hl 0 rfl) ?_
  refine lv_iconst (v := 0) hx hb dX2_beginAnew_6 (by decide) ?_
  refine mw_put (ci := 2) (C := RX2) (T := TX2) (N := 4) (v := 0) (ty := .int) hx hb hts hinX2 tyX2 tyX2_ok nmX2 hown hK hj hP hS (26 + q) (cB_rnd hq) (cF_rnd hq) rfl 2 (by decide) kf18 (fun _ h9 => h9) rfl (by decide +kernel) rfl rfl (Nat.le_of_ble_eq_true rfl) rfl dX2_beginAnew_7 (fun H locs hP hS => ?_)
  exact g_vret hx hb hr hlocks hP hS dX2_beginAnew_10 (by unfold cRndBegin; rfl)

def cAddStep (σ : Mem) (q : Nat) (kd n : Int32) : Int32 × Mem :=
  if σ (26 + q) 2 < 8 then (σ (26 + q) 2, mset (mset (mset σ (50 + q) (ci (σ (26 + q) 2)) kd) (74 + q) (ci (σ (26 + q) 2)) n) (26 + q) 2 ((σ (26 + q) 2) + 1))
  else ((-2), σ)
set_option maxHeartbeats 4000000 in
set_option maxRecDepth 100000 in
theorem c_addStep (l : Launch) (D : va_G) (cy : Nat → ClassId) (ad wy : Nat → Nat) (mt : Nat) (hj : mJ 98 ad) (σ : Mem) (q : Nat) (hq : q < 24) (kd n : Int32) (hsc : σ (26 + q) 2 < 8 → vp_in (σ (26 + q) 2) 8) : Met l yX2_addStep wsX2_addStep ({ frames := 0, cells := 0, slots := 0, locals := 0 }) (va_Pc [.ref (ad (26 + q)), .int kd, .int n] (gPre 98 ad (cF ad cy) D cy wy mt σ)) (gQ 98 ad (cF ad cy) D (some (.int (cAddStep σ q kd n).1)) (cAddStep σ q kd n).2) 0 0 (mA 98 ad) := by
  refine g_met (cc := cX2_addStep) (maxL := 3) (ret := (some .int)) (by decide) rfl (Nat.le_of_ble_eq_true rfl) ?_
  intro p e s m below meth c S hr hlocks h0 ls hl
  obtain ⟨hx, hb, hml, hown, hts⟩ := S
  have hP := h0.1
  have hK := h0.2.1
  have hS : va_S (mA 98 ad) s.heap s.heap [] := va_S.rf
  have hl : lv_has ls 3 [(0, .ref (ad (26 + q))), (1, .int kd), (2, .int n)] := hl
  have kf18 : (Cond.fieldLink RX2 18 "BenchRuns$Round" "stepCount" "I").before (#[.ref (ad (26 + q)), .int kd, .int n] : Array Value) s = true := hts _ (by decide +kernel)
  have hinX2 : ∀ w ∈ u_ws RX2 TX2 4, w ∈ wsX2_addStep := by decide +kernel
  have kf9 : (Cond.fieldLink RX2 9 "BenchRuns$Round" "kinds" "[I").before (#[.ref (ad (26 + q)), .int kd, .int n] : Array Value) s = true := hts _ (by decide +kernel)
  have kf15 : (Cond.fieldLink RX2 15 "BenchRuns$Round" "numbers" "[I").before (#[.ref (ad (26 + q)), .int kd, .int n] : Array Value) s = true := hts _ (by decide +kernel)
  refine lv_aload_n hx hb dX2_addStep_0 rfl (lv_at hl 0 rfl) ?_
  refine mw_get (ci := 2) (C := RX2) (T := TX2) (N := 4) (v := .int (σ (26 + q) 2)) hx hb hts hinX2 hown hK hP (26 + q) (cB_rnd hq) (cF_rnd hq) rfl 2 (by decide) kf18 (fun _ h9 => h9) rfl dX2_addStep_1 ?_
  refine lv_bipush (v := 8) hx hb dX2_addStep_4 (by decide) ?_
  refine lv_icmp_lt (tgt := 12) hx hb dX2_addStep_6 (by decide) (fun c_1 => ?_) (fun c_1 => ?_)
  · skip
    have ix : vp_in (σ (26 + q) 2) 8 := hsc c_1
    refine lv_aload_n hx hb dX2_addStep_12 rfl (lv_at hl 0 rfl) ?_
    refine mw_get (ci := 2) (C := RX2) (T := TX2) (N := 4) (v := .ref (ad (50 + q))) hx hb hts hinX2 hown hK hP (26 + q) (cB_rnd hq) (cF_rnd hq) rfl 0 (by decide) kf9 (fun _ h9 => h9) rfl dX2_addStep_13 ?_
    refine lv_aload_n hx hb dX2_addStep_16 rfl (lv_at hl 0 rfl) ?_
    refine mw_get (ci := 2) (C := RX2) (T := TX2) (N := 4) (v := .int (σ (26 + q) 2)) hx hb hts hinX2 hown hK hP (26 + q) (cB_rnd hq) (cF_rnd hq) rfl 2 (by decide) kf18 (fun _ h9 => h9) rfl dX2_addStep_17 ?_
    refine lv_iload_n hx hb dX2_addStep_20 rfl (lv_at hl 1 rfl) ?_
    refine mw_ist hx hb hK hj hP hS (50 + q) (cB_kin hq) 0 (cF_kin hq) rfl (ci (σ (26 + q) 2)) (ci_lt ix) (by decide) (ci_eq ix (by decide)) dX2_addStep_21 (fun H locs hP hS => ?_)
    refine lv_aload_n hx hb dX2_addStep_22 rfl (lv_at hl 0 rfl) ?_
    refine mw_get (ci := 2) (C := RX2) (T := TX2) (N := 4) (v := .ref (ad (74 + q))) hx hb hts hinX2 hown hK hP (26 + q) (cB_rnd hq) (cF_rnd hq) rfl 1 (by decide) kf15 (fun _ h9 => h9) rfl dX2_addStep_23 ?_
    refine lv_aload_n hx hb dX2_addStep_26 rfl (lv_at hl 0 rfl) ?_
    refine mw_get (ci := 2) (C := RX2) (T := TX2) (N := 4) (v := .int ((mset σ (50 + q) (ci (σ (26 + q) 2)) kd) (26 + q) 2)) hx hb hts hinX2 hown hK hP (26 + q) (cB_rnd hq) (cF_rnd hq) rfl 2 (by decide) kf18 (fun _ h9 => h9) rfl dX2_addStep_27 ?_
    refine g_top (y := σ (26 + q) 2) (by rw [mset_nc (by omega)]) ?_
    refine lv_iload_n hx hb dX2_addStep_30 rfl (lv_at hl 2 rfl) ?_
    refine mw_ist hx hb hK hj hP hS (74 + q) (cB_num hq) 0 (cF_num hq) rfl (ci (σ (26 + q) 2)) (ci_lt ix) (by decide) (ci_eq ix (by decide)) dX2_addStep_31 (fun H locs hP hS => ?_)
    refine lv_aload_n hx hb dX2_addStep_32 rfl (lv_at hl 0 rfl) ?_
    refine lv_dup hx hb dX2_addStep_33 rfl ?_
    refine mw_get (ci := 2) (C := RX2) (T := TX2) (N := 4) (v := .int ((mset (mset σ (50 + q) (ci (σ (26 + q) 2)) kd) (74 + q) (ci (σ (26 + q) 2)) n) (26 + q) 2)) hx hb hts hinX2 hown hK hP (26 + q) (cB_rnd hq) (cF_rnd hq) rfl 2 (by decide) kf18 (fun _ h9 => h9) rfl dX2_addStep_34 ?_
    refine g_top (y := σ (26 + q) 2) (by rw [mset_nc (by omega), mset_nc (by omega)]) ?_
    refine lv_dup_x1 hx hb dX2_addStep_37 rfl rfl ?_
    refine lv_iconst (v := 1) hx hb dX2_addStep_38 (by decide) ?_
    refine lv_iadd hx hb dX2_addStep_39 ?_
    refine mw_put (ci := 2) (C := RX2) (T := TX2) (N := 4) (v := (σ (26 + q) 2) + 1) (ty := .int) hx hb hts hinX2 tyX2 tyX2_ok nmX2 hown hK hj hP hS (26 + q) (cB_rnd hq) (cF_rnd hq) rfl 2 (by decide) kf18 (fun _ h9 => h9) rfl (by decide +kernel) rfl rfl (Nat.le_of_ble_eq_true rfl) rfl dX2_addStep_40 (fun H locs hP hS => ?_)
    exact g_iret hx hb hr hlocks hP hS dX2_addStep_43 (by unfold cAddStep; rw [if_pos c_1])
  · skip
    refine lv_bipush (v := (-2)) hx hb dX2_addStep_9 (by decide) ?_
    exact g_iret hx hb hr hlocks hP hS dX2_addStep_11 (by unfold cAddStep; rw [if_neg c_1])

def cBatBegin (σ : Mem) (b : Nat) (v : Int32) : Mem :=
  mset (mset σ (12 + b) 2 v) (12 + b) 1 0
set_option maxHeartbeats 4000000 in
set_option maxRecDepth 100000 in
theorem c_batBegin (l : Launch) (D : va_G) (cy : Nat → ClassId) (ad wy : Nat → Nat) (mt : Nat) (hj : mJ 98 ad) (σ : Mem) (b : Nat) (hb4 : b < 4) (v : Int32)  : Met l yX0_beginAnew wsX0_beginAnew ({ frames := 0, cells := 0, slots := 0, locals := 0 }) (va_Pc [.ref (ad (12 + b)), .int v] (gPre 98 ad (cF ad cy) D cy wy mt σ)) (gQ 98 ad (cF ad cy) D none (cBatBegin σ b v)) 0 0 (mA 98 ad) := by
  refine g_met (cc := cX0_beginAnew) (maxL := 2) (ret := none) (by decide) rfl (Nat.le_of_ble_eq_true rfl) ?_
  intro p e s m below meth c S hr hlocks h0 ls hl
  obtain ⟨hx, hb, hml, hown, hts⟩ := S
  have hP := h0.1
  have hK := h0.2.1
  have hS : va_S (mA 98 ad) s.heap s.heap [] := va_S.rf
  have hl : lv_has ls 2 [(0, .ref (ad (12 + b))), (1, .int v)] := hl
  have kf21 : (Cond.fieldLink RX0 21 "BenchRuns$Batch" "mode" "I").before (#[.ref (ad (12 + b)), .int v] : Array Value) s = true := hts _ (by decide +kernel)
  have hinX0 : ∀ w ∈ u_ws RX0 TX0 3, w ∈ wsX0_beginAnew := by decide +kernel
  have kf17 : (Cond.fieldLink RX0 17 "BenchRuns$Batch" "roundCount" "I").before (#[.ref (ad (12 + b)), .int v] : Array Value) s = true := hts _ (by decide +kernel)
  refine lv_aload_n hx hb dX0_beginAnew_0 rfl (lv_at hl 0 rfl) ?_
  refine lv_iload_n hx hb dX0_beginAnew_1 rfl (lv_at hl 1 rfl) ?_
  refine mw_put (ci := 0) (C := RX0) (T := TX0) (N := 3) (v := v) (ty := .int) hx hb hts hinX0 tyX0 tyX0_ok nmX0 hown hK hj hP hS (12 + b) (cB_bat hb4) (cF_bat hb4) rfl 2 (by decide) kf21 (fun _ h9 => h9) rfl (by decide +kernel) rfl rfl (Nat.le_of_ble_eq_true rfl) rfl dX0_beginAnew_2 (fun H locs hP hS => ?_)
  refine lv_aload_n hx hb dX0_beginAnew_5 rfl (lv_at hl 0 rfl) ?_
  refine lv_iconst (v := 0) hx hb dX0_beginAnew_6 (by decide) ?_
  refine mw_put (ci := 0) (C := RX0) (T := TX0) (N := 3) (v := 0) (ty := .int) hx hb hts hinX0 tyX0 tyX0_ok nmX0 hown hK hj hP hS (12 + b) (cB_bat hb4) (cF_bat hb4) rfl 1 (by decide) kf17 (fun _ h9 => h9) rfl (by decide +kernel) rfl rfl (Nat.le_of_ble_eq_true rfl) rfl dX0_beginAnew_7 (fun H locs hP hS => ?_)
  exact g_vret hx hb hr hlocks hP hS dX0_beginAnew_10 (by unfold cBatBegin; rfl)

def cAddRound (σ : Mem) (b : Nat) (v : Int32) : Int32 × Mem :=
  if σ (12 + b) 1 < 6 then (σ (12 + b) 1, mset (cRndBegin σ (6 * b + (ci (σ (12 + b) 1))) v) (12 + b) 1 ((σ (12 + b) 1) + 1))
  else ((-2), σ)
set_option maxHeartbeats 4000000 in
set_option maxRecDepth 100000 in
theorem c_addRound (l : Launch) (D : va_G) (cy : Nat → ClassId) (ad wy : Nat → Nat) (mt : Nat) (hj : mJ 98 ad) (σ : Mem) (b : Nat) (hb4 : b < 4) (v : Int32) (hrc : σ (12 + b) 1 < 6 → vp_in (σ (12 + b) 1) 6) : Met l yX0_addRound wsX0_addRound ({ frames := 1, cells := 0, slots := 0, locals := 21 }) (va_Pc [.ref (ad (12 + b)), .int v] (gPre 98 ad (cF ad cy) D cy wy mt σ)) (gQ 98 ad (cF ad cy) D (some (.int (cAddRound σ b v).1)) (cAddRound σ b v).2) 0 0 (mA 98 ad) := by
  refine g_met (cc := cX0_addRound) (maxL := 2) (ret := (some .int)) (by decide) rfl (Nat.le_of_ble_eq_true rfl) ?_
  intro p e s m below meth c S hr hlocks h0 ls hl
  obtain ⟨hx, hb, hml, hown, hts⟩ := S
  have hP := h0.1
  have hK := h0.2.1
  have hS : va_S (mA 98 ad) s.heap s.heap [] := va_S.rf
  have hl : lv_has ls 2 [(0, .ref (ad (12 + b))), (1, .int v)] := hl
  have kf17 : (Cond.fieldLink RX0 17 "BenchRuns$Batch" "roundCount" "I").before (#[.ref (ad (12 + b)), .int v] : Array Value) s = true := hts _ (by decide +kernel)
  have hinX0 : ∀ w ∈ u_ws RX0 TX0 3, w ∈ wsX0_addRound := by decide +kernel
  have kf11 : (Cond.fieldLink RX0 11 "BenchRuns$Batch" "rounds" "[LBenchRuns$Round;").before (#[.ref (ad (12 + b)), .int v] : Array Value) s = true := hts _ (by decide +kernel)
  refine lv_aload_n hx hb dX0_addRound_0 rfl (lv_at hl 0 rfl) ?_
  refine mw_get (ci := 0) (C := RX0) (T := TX0) (N := 3) (v := .int (σ (12 + b) 1)) hx hb hts hinX0 hown hK hP (12 + b) (cB_bat hb4) (cF_bat hb4) rfl 1 (by decide) kf17 (fun _ h9 => h9) rfl dX0_addRound_1 ?_
  refine lv_bipush (v := 6) hx hb dX0_addRound_4 (by decide) ?_
  refine lv_icmp_lt (tgt := 12) hx hb dX0_addRound_6 (by decide) (fun c_1 => ?_) (fun c_1 => ?_)
  · skip
    have ix : vp_in (σ (12 + b) 1) 6 := hrc c_1
    refine lv_aload_n hx hb dX0_addRound_12 rfl (lv_at hl 0 rfl) ?_
    refine mw_get (ci := 0) (C := RX0) (T := TX0) (N := 3) (v := .ref (ad (16 + b))) hx hb hts hinX0 hown hK hP (12 + b) (cB_bat hb4) (cF_bat hb4) rfl 0 (by decide) kf11 (fun _ h9 => h9) rfl dX0_addRound_13 ?_
    refine lv_aload_n hx hb dX0_addRound_16 rfl (lv_at hl 0 rfl) ?_
    refine mw_get (ci := 0) (C := RX0) (T := TX0) (N := 3) (v := .int (σ (12 + b) 1)) hx hb hts hinX0 hown hK hP (12 + b) (cB_bat hb4) (cF_bat hb4) rfl 1 (by decide) kf17 (fun _ h9 => h9) rfl dX0_addRound_17 ?_
    have ha_2 : (ci (σ (12 + b) 1)) < 6 := (ci_lt ix)
    refine mw_ald (f := fun q => ad (26 + (6 * b + q))) hx hb hK hP (16 + b) (cB_row hb4) 3 (cF_row hb4) rfl (ci (σ (12 + b) 1)) ha_2 (by decide) (ci_eq ix (by decide)) dX0_addRound_20 ?_
    refine lv_iload_n hx hb dX0_addRound_21 rfl (lv_at hl 1 rfl) ?_
    refine g_callV (As := [.int v]) (rest := []) (N := 4) (T := TX2) (ci := 2) ⟨hx, hb, hml, hown, hts⟩ (26 + (6 * b + (ci (σ (12 + b) 1)))) (c_rndBegin l D cy ad wy mt hj σ (6 * b + (ci (σ (12 + b) 1))) (cB_q hb4 ha_2) v) (cwV 1 hts gX0_addRound_X2_beginAnew rfl rfl rfl (by decide +kernel) ⟨by decide, by decide⟩) h0 hP hS (cB_rnd (cB_q hb4 ha_2)) (cF_rnd (cB_q hb4 ha_2)) rfl rfl rfl hl.1 (Nat.le_of_ble_eq_true rfl) dX0_addRound_22 ⟨Nat.zero_le _, Nat.zero_le _⟩ (fun H locs hP hS => ?_)
    refine lv_aload_n hx hb dX0_addRound_25 rfl (lv_at hl 0 rfl) ?_
    refine lv_dup hx hb dX0_addRound_26 rfl ?_
    refine mw_get (ci := 0) (C := RX0) (T := TX0) (N := 3) (v := .int ((cRndBegin σ (6 * b + (ci (σ (12 + b) 1))) v) (12 + b) 1)) hx hb hts hinX0 hown hK hP (12 + b) (cB_bat hb4) (cF_bat hb4) rfl 1 (by decide) kf17 (fun _ h9 => h9) rfl dX0_addRound_27 ?_
    refine g_top (y := σ (12 + b) 1) (by unfold cRndBegin; rw [mset_nc (by omega), mset_nc (by omega)]) ?_
    refine lv_dup_x1 hx hb dX0_addRound_30 rfl rfl ?_
    refine lv_iconst (v := 1) hx hb dX0_addRound_31 (by decide) ?_
    refine lv_iadd hx hb dX0_addRound_32 ?_
    refine mw_put (ci := 0) (C := RX0) (T := TX0) (N := 3) (v := (σ (12 + b) 1) + 1) (ty := .int) hx hb hts hinX0 tyX0 tyX0_ok nmX0 hown hK hj hP hS (12 + b) (cB_bat hb4) (cF_bat hb4) rfl 1 (by decide) kf17 (fun _ h9 => h9) rfl (by decide +kernel) rfl rfl (Nat.le_of_ble_eq_true rfl) rfl dX0_addRound_33 (fun H locs hP hS => ?_)
    exact g_iret hx hb hr hlocks hP hS dX0_addRound_36 (by unfold cAddRound; rw [if_pos c_1])
  · skip
    refine lv_bipush (v := (-2)) hx hb dX0_addRound_9 (by decide) ?_
    exact g_iret hx hb hr hlocks hP hS dX0_addRound_11 (by unfold cAddRound; rw [if_neg c_1])

def cToolBegin (σ : Mem) (t : Nat) (v : Int32) : Mem :=
  mset (mset (mset σ (20 + t) 0 v) (20 + t) 1 0) (20 + t) 2 0
set_option maxHeartbeats 4000000 in
set_option maxRecDepth 100000 in
theorem c_toolBegin (l : Launch) (D : va_G) (cy : Nat → ClassId) (ad wy : Nat → Nat) (mt : Nat) (hj : mJ 98 ad) (σ : Mem) (t : Nat) (ht : t < 6) (v : Int32)  : Met l yX4_beginAnew wsX4_beginAnew ({ frames := 0, cells := 0, slots := 0, locals := 0 }) (va_Pc [.ref (ad (20 + t)), .int v] (gPre 98 ad (cF ad cy) D cy wy mt σ)) (gQ 98 ad (cF ad cy) D none (cToolBegin σ t v)) 0 0 (mA 98 ad) := by
  refine g_met (cc := cX4_beginAnew) (maxL := 2) (ret := none) (by decide) rfl (Nat.le_of_ble_eq_true rfl) ?_
  intro p e s m below meth c S hr hlocks h0 ls hl
  obtain ⟨hx, hb, hml, hown, hts⟩ := S
  have hP := h0.1
  have hK := h0.2.1
  have hS : va_S (mA 98 ad) s.heap s.heap [] := va_S.rf
  have hl : lv_has ls 2 [(0, .ref (ad (20 + t))), (1, .int v)] := hl
  have kf9 : (Cond.fieldLink RX4 9 "BenchRuns$Tool" "sort" "I").before (#[.ref (ad (20 + t)), .int v] : Array Value) s = true := hts _ (by decide +kernel)
  have hinX4 : ∀ w ∈ u_ws RX4 TX4 3, w ∈ wsX4_beginAnew := by decide +kernel
  have kf15 : (Cond.fieldLink RX4 15 "BenchRuns$Tool" "uses" "I").before (#[.ref (ad (20 + t)), .int v] : Array Value) s = true := hts _ (by decide +kernel)
  have kf18 : (Cond.fieldLink RX4 18 "BenchRuns$Tool" "grip" "I").before (#[.ref (ad (20 + t)), .int v] : Array Value) s = true := hts _ (by decide +kernel)
  refine lv_aload_n hx hb dX4_beginAnew_0 rfl (lv_at hl 0 rfl) ?_
  refine lv_iload_n hx hb dX4_beginAnew_1 rfl (lv_at hl 1 rfl) ?_
  refine mw_put (ci := 4) (C := RX4) (T := TX4) (N := 3) (v := v) (ty := .int) hx hb hts hinX4 tyX4 tyX4_ok nmX4 hown hK hj hP hS (20 + t) (cB_tool ht) (cF_tool ht) rfl 0 (by decide) kf9 (fun _ h9 => h9) rfl (by decide +kernel) rfl rfl (Nat.le_of_ble_eq_true rfl) rfl dX4_beginAnew_2 (fun H locs hP hS => ?_)
  refine lv_aload_n hx hb dX4_beginAnew_5 rfl (lv_at hl 0 rfl) ?_
  refine lv_iconst (v := 0) hx hb dX4_beginAnew_6 (by decide) ?_
  refine mw_put (ci := 4) (C := RX4) (T := TX4) (N := 3) (v := 0) (ty := .int) hx hb hts hinX4 tyX4 tyX4_ok nmX4 hown hK hj hP hS (20 + t) (cB_tool ht) (cF_tool ht) rfl 1 (by decide) kf15 (fun _ h9 => h9) rfl (by decide +kernel) rfl rfl (Nat.le_of_ble_eq_true rfl) rfl dX4_beginAnew_7 (fun H locs hP hS => ?_)
  refine lv_aload_n hx hb dX4_beginAnew_10 rfl (lv_at hl 0 rfl) ?_
  refine lv_iconst (v := 0) hx hb dX4_beginAnew_11 (by decide) ?_
  refine mw_put (ci := 4) (C := RX4) (T := TX4) (N := 3) (v := 0) (ty := .int) hx hb hts hinX4 tyX4 tyX4_ok nmX4 hown hK hj hP hS (20 + t) (cB_tool ht) (cF_tool ht) rfl 2 (by decide) kf18 (fun _ h9 => h9) rfl (by decide +kernel) rfl rfl (Nat.le_of_ble_eq_true rfl) rfl dX4_beginAnew_12 (fun H locs hP hS => ?_)
  exact g_vret hx hb hr hlocks hP hS dX4_beginAnew_15 (by unfold cToolBegin; rfl)

def cLogBegin (σ : Mem)  : Mem :=
  mset (mset (mset (mset (mset (mset (mset (mset (mset σ 8 1 0) 8 2 0) 8 3 0) 8 4 0) 8 5 0) 8 6 0) 7 2 0) 7 4 0) 7 6 0
set_option maxHeartbeats 4000000 in
set_option maxRecDepth 100000 in
theorem c_logBegin (l : Launch) (D : va_G) (cy : Nat → ClassId) (ad wy : Nat → Nat) (mt : Nat) (hj : mJ 98 ad) (σ : Mem)   : Met l yX1_beginAnew wsX1_beginAnew ({ frames := 0, cells := 0, slots := 0, locals := 0 }) (va_Pc [.ref (ad 7)] (gPre 98 ad (cF ad cy) D cy wy mt σ)) (gQ 98 ad (cF ad cy) D none (cLogBegin σ)) 0 0 (mA 98 ad) := by
  refine g_met (cc := cX1_beginAnew) (maxL := 2) (ret := none) (by decide) rfl (Nat.le_of_ble_eq_true rfl) ?_
  intro p e s m below meth c S hr hlocks h0 ls hl
  obtain ⟨hx, hb, hml, hown, hts⟩ := S
  have hP := h0.1
  have hK := h0.2.1
  have hS : va_S (mA 98 ad) s.heap s.heap [] := va_S.rf
  have hl : lv_has ls 2 [(0, .ref (ad 7))] := hl
  have kf9 : (Cond.fieldLink RX1 9 "BenchRuns$Log" "countOf" "[I").before (#[.ref (ad 7)] : Array Value) s = true := hts _ (by decide +kernel)
  have hinX1 : ∀ w ∈ u_ws RX1 TX1 7, w ∈ wsX1_beginAnew := by decide +kernel
  have kf18 : (Cond.fieldLink RX1 18 "BenchRuns$Log" "eventCount" "I").before (#[.ref (ad 7)] : Array Value) s = true := hts _ (by decide +kernel)
  have kf25 : (Cond.fieldLink RX1 25 "BenchRuns$Log" "notedCount" "I").before (#[.ref (ad 7)] : Array Value) s = true := hts _ (by decide +kernel)
  have kf31 : (Cond.fieldLink RX1 31 "BenchRuns$Log" "chainLength" "I").before (#[.ref (ad 7)] : Array Value) s = true := hts _ (by decide +kernel)
  refine lv_iconst (v := 1) hx hb dX1_beginAnew_0 (by decide) ?_
  refine lv_istore_n (lv' := [(1, .int 1), (0, .ref (ad 7))]) hx hb dX1_beginAnew_1 rfl hl (by decide) rfl (fun ls hl => ?_)
  refine lv_iload_n hx hb dX1_beginAnew_2 rfl (lv_at hl 0 rfl) ?_
  refine lv_bipush (v := 6) hx hb dX1_beginAnew_3 (by decide) ?_
  refine lv_icmp_gt (tgt := 21) hx hb dX1_beginAnew_5 (by decide) (fun c9 => absurd c9 (by decide)) (fun _ => ?_)
  refine lv_aload_n hx hb dX1_beginAnew_8 rfl (lv_at hl 1 rfl) ?_
  refine mw_get (ci := 1) (C := RX1) (T := TX1) (N := 7) (v := .ref (ad 8)) hx hb hts hinX1 hown hK hP 7 (by decide) cF_7 rfl 0 (by decide) kf9 (fun _ h9 => h9) rfl dX1_beginAnew_9 ?_
  refine lv_iload_n hx hb dX1_beginAnew_12 rfl (lv_at hl 0 rfl) ?_
  refine lv_iconst (v := 0) hx hb dX1_beginAnew_13 (by decide) ?_
  refine mw_ist hx hb hK hj hP hS 8 (by decide) 0 cF_8 rfl 1 (by decide) (by decide) rfl dX1_beginAnew_14 (fun H locs hP hS => ?_)
  refine lv_iinc (v := 2) (lv' := [(1, .int 2), (0, .ref (ad 7))]) hx hb dX1_beginAnew_15 hl (k := 0) rfl (by decide) (by decide) rfl (fun ls hl => ?_)
  refine lv_goto (tgt := 2) hx hb dX1_beginAnew_18 (by decide) ?_
  refine lv_iload_n hx hb dX1_beginAnew_2 rfl (lv_at hl 0 rfl) ?_
  refine lv_bipush (v := 6) hx hb dX1_beginAnew_3 (by decide) ?_
  refine lv_icmp_gt (tgt := 21) hx hb dX1_beginAnew_5 (by decide) (fun c9 => absurd c9 (by decide)) (fun _ => ?_)
  refine lv_aload_n hx hb dX1_beginAnew_8 rfl (lv_at hl 1 rfl) ?_
  refine mw_get (ci := 1) (C := RX1) (T := TX1) (N := 7) (v := .ref (ad 8)) hx hb hts hinX1 hown hK hP 7 (by decide) cF_7 rfl 0 (by decide) kf9 (fun _ h9 => h9) rfl dX1_beginAnew_9 ?_
  refine lv_iload_n hx hb dX1_beginAnew_12 rfl (lv_at hl 0 rfl) ?_
  refine lv_iconst (v := 0) hx hb dX1_beginAnew_13 (by decide) ?_
  refine mw_ist hx hb hK hj hP hS 8 (by decide) 0 cF_8 rfl 2 (by decide) (by decide) rfl dX1_beginAnew_14 (fun H locs hP hS => ?_)
  refine lv_iinc (v := 3) (lv' := [(1, .int 3), (0, .ref (ad 7))]) hx hb dX1_beginAnew_15 hl (k := 0) rfl (by decide) (by decide) rfl (fun ls hl => ?_)
  refine lv_goto (tgt := 2) hx hb dX1_beginAnew_18 (by decide) ?_
  refine lv_iload_n hx hb dX1_beginAnew_2 rfl (lv_at hl 0 rfl) ?_
  refine lv_bipush (v := 6) hx hb dX1_beginAnew_3 (by decide) ?_
  refine lv_icmp_gt (tgt := 21) hx hb dX1_beginAnew_5 (by decide) (fun c9 => absurd c9 (by decide)) (fun _ => ?_)
  refine lv_aload_n hx hb dX1_beginAnew_8 rfl (lv_at hl 1 rfl) ?_
  refine mw_get (ci := 1) (C := RX1) (T := TX1) (N := 7) (v := .ref (ad 8)) hx hb hts hinX1 hown hK hP 7 (by decide) cF_7 rfl 0 (by decide) kf9 (fun _ h9 => h9) rfl dX1_beginAnew_9 ?_
  refine lv_iload_n hx hb dX1_beginAnew_12 rfl (lv_at hl 0 rfl) ?_
  refine lv_iconst (v := 0) hx hb dX1_beginAnew_13 (by decide) ?_
  refine mw_ist hx hb hK hj hP hS 8 (by decide) 0 cF_8 rfl 3 (by decide) (by decide) rfl dX1_beginAnew_14 (fun H locs hP hS => ?_)
  refine lv_iinc (v := 4) (lv' := [(1, .int 4), (0, .ref (ad 7))]) hx hb dX1_beginAnew_15 hl (k := 0) rfl (by decide) (by decide) rfl (fun ls hl => ?_)
  refine lv_goto (tgt := 2) hx hb dX1_beginAnew_18 (by decide) ?_
  refine lv_iload_n hx hb dX1_beginAnew_2 rfl (lv_at hl 0 rfl) ?_
  refine lv_bipush (v := 6) hx hb dX1_beginAnew_3 (by decide) ?_
  refine lv_icmp_gt (tgt := 21) hx hb dX1_beginAnew_5 (by decide) (fun c9 => absurd c9 (by decide)) (fun _ => ?_)
  refine lv_aload_n hx hb dX1_beginAnew_8 rfl (lv_at hl 1 rfl) ?_
  refine mw_get (ci := 1) (C := RX1) (T := TX1) (N := 7) (v := .ref (ad 8)) hx hb hts hinX1 hown hK hP 7 (by decide) cF_7 rfl 0 (by decide) kf9 (fun _ h9 => h9) rfl dX1_beginAnew_9 ?_
  refine lv_iload_n hx hb dX1_beginAnew_12 rfl (lv_at hl 0 rfl) ?_
  refine lv_iconst (v := 0) hx hb dX1_beginAnew_13 (by decide) ?_
  refine mw_ist hx hb hK hj hP hS 8 (by decide) 0 cF_8 rfl 4 (by decide) (by decide) rfl dX1_beginAnew_14 (fun H locs hP hS => ?_)
  refine lv_iinc (v := 5) (lv' := [(1, .int 5), (0, .ref (ad 7))]) hx hb dX1_beginAnew_15 hl (k := 0) rfl (by decide) (by decide) rfl (fun ls hl => ?_)
  refine lv_goto (tgt := 2) hx hb dX1_beginAnew_18 (by decide) ?_
  refine lv_iload_n hx hb dX1_beginAnew_2 rfl (lv_at hl 0 rfl) ?_
  refine lv_bipush (v := 6) hx hb dX1_beginAnew_3 (by decide) ?_
  refine lv_icmp_gt (tgt := 21) hx hb dX1_beginAnew_5 (by decide) (fun c9 => absurd c9 (by decide)) (fun _ => ?_)
  refine lv_aload_n hx hb dX1_beginAnew_8 rfl (lv_at hl 1 rfl) ?_
  refine mw_get (ci := 1) (C := RX1) (T := TX1) (N := 7) (v := .ref (ad 8)) hx hb hts hinX1 hown hK hP 7 (by decide) cF_7 rfl 0 (by decide) kf9 (fun _ h9 => h9) rfl dX1_beginAnew_9 ?_
  refine lv_iload_n hx hb dX1_beginAnew_12 rfl (lv_at hl 0 rfl) ?_
  refine lv_iconst (v := 0) hx hb dX1_beginAnew_13 (by decide) ?_
  refine mw_ist hx hb hK hj hP hS 8 (by decide) 0 cF_8 rfl 5 (by decide) (by decide) rfl dX1_beginAnew_14 (fun H locs hP hS => ?_)
  refine lv_iinc (v := 6) (lv' := [(1, .int 6), (0, .ref (ad 7))]) hx hb dX1_beginAnew_15 hl (k := 0) rfl (by decide) (by decide) rfl (fun ls hl => ?_)
  refine lv_goto (tgt := 2) hx hb dX1_beginAnew_18 (by decide) ?_
  refine lv_iload_n hx hb dX1_beginAnew_2 rfl (lv_at hl 0 rfl) ?_
  refine lv_bipush (v := 6) hx hb dX1_beginAnew_3 (by decide) ?_
  refine lv_icmp_gt (tgt := 21) hx hb dX1_beginAnew_5 (by decide) (fun c9 => absurd c9 (by decide)) (fun _ => ?_)
  refine lv_aload_n hx hb dX1_beginAnew_8 rfl (lv_at hl 1 rfl) ?_
  refine mw_get (ci := 1) (C := RX1) (T := TX1) (N := 7) (v := .ref (ad 8)) hx hb hts hinX1 hown hK hP 7 (by decide) cF_7 rfl 0 (by decide) kf9 (fun _ h9 => h9) rfl dX1_beginAnew_9 ?_
  refine lv_iload_n hx hb dX1_beginAnew_12 rfl (lv_at hl 0 rfl) ?_
  refine lv_iconst (v := 0) hx hb dX1_beginAnew_13 (by decide) ?_
  refine mw_ist hx hb hK hj hP hS 8 (by decide) 0 cF_8 rfl 6 (by decide) (by decide) rfl dX1_beginAnew_14 (fun H locs hP hS => ?_)
  refine lv_iinc (v := 7) (lv' := [(1, .int 7), (0, .ref (ad 7))]) hx hb dX1_beginAnew_15 hl (k := 0) rfl (by decide) (by decide) rfl (fun ls hl => ?_)
  refine lv_goto (tgt := 2) hx hb dX1_beginAnew_18 (by decide) ?_
  refine lv_iload_n hx hb dX1_beginAnew_2 rfl (lv_at hl 0 rfl) ?_
  refine lv_bipush (v := 6) hx hb dX1_beginAnew_3 (by decide) ?_
  refine lv_icmp_gt (tgt := 21) hx hb dX1_beginAnew_5 (by decide) (fun _ => ?_) (fun c9 => absurd c9 (by decide))
  refine lv_aload_n hx hb dX1_beginAnew_21 rfl (lv_at hl 1 rfl) ?_
  refine lv_iconst (v := 0) hx hb dX1_beginAnew_22 (by decide) ?_
  refine mw_put (ci := 1) (C := RX1) (T := TX1) (N := 7) (v := 0) (ty := .int) hx hb hts hinX1 tyX1 tyX1_ok nmX1 hown hK hj hP hS 7 (by decide) cF_7 rfl 2 (by decide) kf18 (fun _ h9 => h9) rfl (by decide +kernel) rfl rfl (Nat.le_of_ble_eq_true rfl) rfl dX1_beginAnew_23 (fun H locs hP hS => ?_)
  refine lv_aload_n hx hb dX1_beginAnew_26 rfl (lv_at hl 1 rfl) ?_
  refine lv_iconst (v := 0) hx hb dX1_beginAnew_27 (by decide) ?_
  refine mw_put (ci := 1) (C := RX1) (T := TX1) (N := 7) (v := 0) (ty := .int) hx hb hts hinX1 tyX1 tyX1_ok nmX1 hown hK hj hP hS 7 (by decide) cF_7 rfl 4 (by decide) kf25 (fun _ h9 => h9) rfl (by decide +kernel) rfl rfl (Nat.le_of_ble_eq_true rfl) rfl dX1_beginAnew_28 (fun H locs hP hS => ?_)
  refine lv_aload_n hx hb dX1_beginAnew_31 rfl (lv_at hl 1 rfl) ?_
  refine lv_iconst (v := 0) hx hb dX1_beginAnew_32 (by decide) ?_
  refine mw_put (ci := 1) (C := RX1) (T := TX1) (N := 7) (v := 0) (ty := .int) hx hb hts hinX1 tyX1 tyX1_ok nmX1 hown hK hj hP hS 7 (by decide) cF_7 rfl 6 (by decide) kf31 (fun _ h9 => h9) rfl (by decide +kernel) rfl rfl (Nat.le_of_ble_eq_true rfl) rfl dX1_beginAnew_33 (fun H locs hP hS => ?_)
  exact g_vret hx hb hr hlocks hP hS dX1_beginAnew_36 (by unfold cLogBegin; rfl)

def cNewRack (σ : Mem) (z : Int32) : Int32 × Mem :=
  if 0 ≤ z then (1, mset σ 5 1 z)
  else (0, σ)
set_option maxHeartbeats 4000000 in
set_option maxRecDepth 100000 in
theorem c_newRack (l : Launch) (D : va_G) (cy : Nat → ClassId) (ad wy : Nat → Nat) (mt : Nat) (hj : mJ 98 ad) (σ : Mem) (z : Int32)  : Met l yX3_newRack wsX3_newRack ({ frames := 0, cells := 0, slots := 0, locals := 0 }) (va_Pc [.ref (ad 5), .int z] (gPre 98 ad (cF ad cy) D cy wy mt σ)) (gQ 98 ad (cF ad cy) D (some (.int (cNewRack σ z).1)) (cNewRack σ z).2) 0 0 (mA 98 ad) := by
  refine g_met (cc := cX3_newRack) (maxL := 2) (ret := (some .boolean)) (by decide) rfl (Nat.le_of_ble_eq_true rfl) ?_
  intro p e s m below meth c S hr hlocks h0 ls hl
  obtain ⟨hx, hb, hml, hown, hts⟩ := S
  have hP := h0.1
  have hK := h0.2.1
  have hS : va_S (mA 98 ad) s.heap s.heap [] := va_S.rf
  have hl : lv_has ls 2 [(0, .ref (ad 5)), (1, .int z)] := hl
  have kf15 : (Cond.fieldLink RX3 15 "BenchRuns$Stock" "rackSize" "I").before (#[.ref (ad 5), .int z] : Array Value) s = true := hts _ (by decide +kernel)
  have hinX3 : ∀ w ∈ u_ws RX3 TX3 6, w ∈ wsX3_newRack := by decide +kernel
  refine lv_iload_n hx hb dX3_newRack_0 rfl (lv_at hl 1 rfl) ?_
  refine lv_if_ge (tgt := 6) hx hb dX3_newRack_1 (by decide) (fun c_1 => ?_) (fun c_1 => ?_)
  · skip
    refine lv_aload_n hx hb dX3_newRack_6 rfl (lv_at hl 0 rfl) ?_
    refine lv_iload_n hx hb dX3_newRack_7 rfl (lv_at hl 1 rfl) ?_
    refine mw_put (ci := 3) (C := RX3) (T := TX3) (N := 6) (v := z) (ty := .int) hx hb hts hinX3 tyX3 tyX3_ok nmX3 hown hK hj hP hS 5 (by decide) cF_5 rfl 1 (by decide) kf15 (fun _ h9 => h9) rfl (by decide +kernel) rfl rfl (Nat.le_of_ble_eq_true rfl) rfl dX3_newRack_8 (fun H locs hP hS => ?_)
    refine lv_iconst (v := 1) hx hb dX3_newRack_11 (by decide) ?_
    exact g_zret hx hb hr hlocks hP hS dX3_newRack_12 (by decide) (by unfold cNewRack; rw [if_pos c_1])
  · skip
    refine lv_iconst (v := 0) hx hb dX3_newRack_4 (by decide) ?_
    exact g_zret hx hb hr hlocks hP hS dX3_newRack_5 (by decide) (by unfold cNewRack; rw [if_neg c_1])

def cNewGrid (σ : Mem) (z w : Int32) : Int32 × Mem :=
  if z < 0 then (0, σ)
  else if 0 ≤ w then (1, mset (mset σ 5 4 z) 5 5 w)
  else (0, σ)
set_option maxHeartbeats 4000000 in
set_option maxRecDepth 100000 in
theorem c_newGrid (l : Launch) (D : va_G) (cy : Nat → ClassId) (ad wy : Nat → Nat) (mt : Nat) (hj : mJ 98 ad) (σ : Mem) (z w : Int32)  : Met l yX3_newGrid wsX3_newGrid ({ frames := 0, cells := 0, slots := 0, locals := 0 }) (va_Pc [.ref (ad 5), .int z, .int w] (gPre 98 ad (cF ad cy) D cy wy mt σ)) (gQ 98 ad (cF ad cy) D (some (.int (cNewGrid σ z w).1)) (cNewGrid σ z w).2) 0 0 (mA 98 ad) := by
  refine g_met (cc := cX3_newGrid) (maxL := 3) (ret := (some .boolean)) (by decide) rfl (Nat.le_of_ble_eq_true rfl) ?_
  intro p e s m below meth c S hr hlocks h0 ls hl
  obtain ⟨hx, hb, hml, hown, hts⟩ := S
  have hP := h0.1
  have hK := h0.2.1
  have hS : va_S (mA 98 ad) s.heap s.heap [] := va_S.rf
  have hl : lv_has ls 3 [(0, .ref (ad 5)), (1, .int z), (2, .int w)] := hl
  have kf25 : (Cond.fieldLink RX3 25 "BenchRuns$Stock" "gridRows" "I").before (#[.ref (ad 5), .int z, .int w] : Array Value) s = true := hts _ (by decide +kernel)
  have hinX3 : ∀ w ∈ u_ws RX3 TX3 6, w ∈ wsX3_newGrid := by decide +kernel
  have kf28 : (Cond.fieldLink RX3 28 "BenchRuns$Stock" "gridRowSize" "I").before (#[.ref (ad 5), .int z, .int w] : Array Value) s = true := hts _ (by decide +kernel)
  refine lv_iload_n hx hb dX3_newGrid_0 rfl (lv_at hl 1 rfl) ?_
  refine lv_if_lt (tgt := 8) hx hb dX3_newGrid_1 (by decide) (fun c_1 => ?_) (fun c_1 => ?_)
  · skip
    refine lv_iconst (v := 0) hx hb dX3_newGrid_8 (by decide) ?_
    exact g_zret hx hb hr hlocks hP hS dX3_newGrid_9 (by decide) (by unfold cNewGrid; rw [if_pos c_1])
  · skip
    refine lv_iload_n hx hb dX3_newGrid_4 rfl (lv_at hl 2 rfl) ?_
    refine lv_if_ge (tgt := 10) hx hb dX3_newGrid_5 (by decide) (fun c_2 => ?_) (fun c_2 => ?_)
    · skip
      refine lv_aload_n hx hb dX3_newGrid_10 rfl (lv_at hl 0 rfl) ?_
      refine lv_iload_n hx hb dX3_newGrid_11 rfl (lv_at hl 1 rfl) ?_
      refine mw_put (ci := 3) (C := RX3) (T := TX3) (N := 6) (v := z) (ty := .int) hx hb hts hinX3 tyX3 tyX3_ok nmX3 hown hK hj hP hS 5 (by decide) cF_5 rfl 4 (by decide) kf25 (fun _ h9 => h9) rfl (by decide +kernel) rfl rfl (Nat.le_of_ble_eq_true rfl) rfl dX3_newGrid_12 (fun H locs hP hS => ?_)
      refine lv_aload_n hx hb dX3_newGrid_15 rfl (lv_at hl 0 rfl) ?_
      refine lv_iload_n hx hb dX3_newGrid_16 rfl (lv_at hl 2 rfl) ?_
      refine mw_put (ci := 3) (C := RX3) (T := TX3) (N := 6) (v := w) (ty := .int) hx hb hts hinX3 tyX3 tyX3_ok nmX3 hown hK hj hP hS 5 (by decide) cF_5 rfl 5 (by decide) kf28 (fun _ h9 => h9) rfl (by decide +kernel) rfl rfl (Nat.le_of_ble_eq_true rfl) rfl dX3_newGrid_17 (fun H locs hP hS => ?_)
      refine lv_iconst (v := 1) hx hb dX3_newGrid_20 (by decide) ?_
      exact g_zret hx hb hr hlocks hP hS dX3_newGrid_21 (by decide) (by unfold cNewGrid; rw [if_neg c_1, if_pos c_2])
    · skip
      refine lv_iconst (v := 0) hx hb dX3_newGrid_8 (by decide) ?_
      exact g_zret hx hb hr hlocks hP hS dX3_newGrid_9 (by decide) (by unfold cNewGrid; rw [if_neg c_1, if_neg c_2])

def cBoxTakes (σ : Mem) (z : Int32) : Int32 :=
  if z = (-1) then 1
  else if σ 5 3 = 2 then 1
  else if z = σ 5 3 then 1
  else 0
set_option maxHeartbeats 4000000 in
set_option maxRecDepth 100000 in
theorem c_boxTakes (l : Launch) (D : va_G) (cy : Nat → ClassId) (ad wy : Nat → Nat) (mt : Nat) (hj : mJ 98 ad) (σ : Mem) (z : Int32)  : Met l yX3_boxTakes wsX3_boxTakes ({ frames := 0, cells := 0, slots := 0, locals := 0 }) (va_Pc [.ref (ad 5), .int z] (gPre 98 ad (cF ad cy) D cy wy mt σ)) (gQ 98 ad (cF ad cy) D (some (.int (cBoxTakes σ z))) σ) 0 0 (mA 98 ad) := by
  refine g_met (cc := cX3_boxTakes) (maxL := 2) (ret := (some .boolean)) (by decide) rfl (Nat.le_of_ble_eq_true rfl) ?_
  intro p e s m below meth c S hr hlocks h0 ls hl
  obtain ⟨hx, hb, hml, hown, hts⟩ := S
  have hP := h0.1
  have hK := h0.2.1
  have hS : va_S (mA 98 ad) s.heap s.heap [] := va_S.rf
  have hl : lv_has ls 2 [(0, .ref (ad 5)), (1, .int z)] := hl
  have kf22 : (Cond.fieldLink RX3 22 "BenchRuns$Stock" "boxSort" "I").before (#[.ref (ad 5), .int z] : Array Value) s = true := hts _ (by decide +kernel)
  have hinX3 : ∀ w ∈ u_ws RX3 TX3 6, w ∈ wsX3_boxTakes := by decide +kernel
  refine lv_iload_n hx hb dX3_boxTakes_0 rfl (lv_at hl 1 rfl) ?_
  refine lv_iconst (v := (-1)) hx hb dX3_boxTakes_1 (by decide) ?_
  refine lv_icmp_eq (tgt := 21) hx hb dX3_boxTakes_2 (by decide) (fun c_1 => ?_) (fun c_1 => ?_)
  · skip
    refine lv_iconst (v := 1) hx hb dX3_boxTakes_21 (by decide) ?_
    refine lv_goto (tgt := 26) hx hb dX3_boxTakes_22 (by decide) ?_
    exact g_rzret hx hb hr hlocks hP hS dX3_boxTakes_26 (by decide) (by unfold cBoxTakes; rw [if_pos c_1])
  · skip
    refine lv_aload_n hx hb dX3_boxTakes_5 rfl (lv_at hl 0 rfl) ?_
    refine mw_get (ci := 3) (C := RX3) (T := TX3) (N := 6) (v := .int (σ 5 3)) hx hb hts hinX3 hown hK hP 5 (by decide) cF_5 rfl 3 (by decide) kf22 (fun _ h9 => h9) rfl dX3_boxTakes_6 ?_
    refine lv_iconst (v := 2) hx hb dX3_boxTakes_9 (by decide) ?_
    refine lv_icmp_eq (tgt := 21) hx hb dX3_boxTakes_10 (by decide) (fun c_2 => ?_) (fun c_2 => ?_)
    · skip
      refine lv_iconst (v := 1) hx hb dX3_boxTakes_21 (by decide) ?_
      refine lv_goto (tgt := 26) hx hb dX3_boxTakes_22 (by decide) ?_
      exact g_rzret hx hb hr hlocks hP hS dX3_boxTakes_26 (by decide) (by unfold cBoxTakes; rw [if_neg c_1, if_pos c_2])
    · skip
      refine lv_iload_n hx hb dX3_boxTakes_13 rfl (lv_at hl 1 rfl) ?_
      refine lv_aload_n hx hb dX3_boxTakes_14 rfl (lv_at hl 0 rfl) ?_
      refine mw_get (ci := 3) (C := RX3) (T := TX3) (N := 6) (v := .int (σ 5 3)) hx hb hts hinX3 hown hK hP 5 (by decide) cF_5 rfl 3 (by decide) kf22 (fun _ h9 => h9) rfl dX3_boxTakes_15 ?_
      refine lv_icmp_ne (tgt := 25) hx hb dX3_boxTakes_18 (by decide) (fun c_3 => ?_) (fun c_3 => ?_)
      · skip
        refine lv_iconst (v := 0) hx hb dX3_boxTakes_25 (by decide) ?_
        exact g_rzret hx hb hr hlocks hP hS dX3_boxTakes_26 (by decide) (by unfold cBoxTakes; rw [if_neg c_1, if_neg c_2, if_neg c_3])
      · skip
        refine lv_iconst (v := 1) hx hb dX3_boxTakes_21 (by decide) ?_
        refine lv_goto (tgt := 26) hx hb dX3_boxTakes_22 (by decide) ?_
        exact g_rzret hx hb hr hlocks hP hS dX3_boxTakes_26 (by decide) (by unfold cBoxTakes; rw [if_neg c_1, if_neg c_2, if_pos c_3])

def cSizeOf (σ : Mem) (w : Nat) : Int32 :=
  if w = 0 then σ 5 1
  else if w = 1 then σ 5 2
  else if w = 2 then σ 5 4
  else if σ 5 4 ≤ 0 then (-4)
  else σ 5 5
set_option maxHeartbeats 4000000 in
set_option maxRecDepth 100000 in
theorem c_sizeOf (l : Launch) (D : va_G) (cy : Nat → ClassId) (ad wy : Nat → Nat) (mt : Nat) (hj : mJ 98 ad) (σ : Mem) (w : Nat) (hw : w < 4)  : Met l yX3_sizeOf wsX3_sizeOf ({ frames := 0, cells := 0, slots := 0, locals := 0 }) (va_Pc [.ref (ad 5), .int (nI w)] (gPre 98 ad (cF ad cy) D cy wy mt σ)) (gQ 98 ad (cF ad cy) D (some (.int (cSizeOf σ w))) σ) 0 0 (mA 98 ad) := by
  refine g_met (cc := cX3_sizeOf) (maxL := 2) (ret := (some .int)) (by decide) rfl (Nat.le_of_ble_eq_true rfl) ?_
  intro p e s m below meth c S hr hlocks h0 ls hl
  obtain ⟨hx, hb, hml, hown, hts⟩ := S
  have hP := h0.1
  have hK := h0.2.1
  have hS : va_S (mA 98 ad) s.heap s.heap [] := va_S.rf
  have hl : lv_has ls 2 [(0, .ref (ad 5)), (1, .int (nI w))] := hl
  have kf15 : (Cond.fieldLink RX3 15 "BenchRuns$Stock" "rackSize" "I").before (#[.ref (ad 5), .int (nI w)] : Array Value) s = true := hts _ (by decide +kernel)
  have hinX3 : ∀ w ∈ u_ws RX3 TX3 6, w ∈ wsX3_sizeOf := by decide +kernel
  have kf19 : (Cond.fieldLink RX3 19 "BenchRuns$Stock" "boxSize" "I").before (#[.ref (ad 5), .int (nI w)] : Array Value) s = true := hts _ (by decide +kernel)
  have kf25 : (Cond.fieldLink RX3 25 "BenchRuns$Stock" "gridRows" "I").before (#[.ref (ad 5), .int (nI w)] : Array Value) s = true := hts _ (by decide +kernel)
  have kf28 : (Cond.fieldLink RX3 28 "BenchRuns$Stock" "gridRowSize" "I").before (#[.ref (ad 5), .int (nI w)] : Array Value) s = true := hts _ (by decide +kernel)
  refine lv_iload_n hx hb dX3_sizeOf_0 rfl (lv_at hl 1 rfl) ?_
  rcases (show w = 0 ∨ w = 1 ∨ w = 2 ∨ w = 3 by omega) with rfl | rfl | rfl | rfl
  · skip
    refine lv_tableIn (off := 31) (tgt := 32) hx hb dX3_sizeOf_1 (by decide) (by decide) (by decide) (by decide) ?_
    refine lv_aload_n hx hb dX3_sizeOf_32 rfl (lv_at hl 0 rfl) ?_
    refine mw_get (ci := 3) (C := RX3) (T := TX3) (N := 6) (v := .int (σ 5 1)) hx hb hts hinX3 hown hK hP 5 (by decide) cF_5 rfl 1 (by decide) kf15 (fun _ h9 => h9) rfl dX3_sizeOf_33 ?_
    exact g_riret hx hb hr hlocks hP hS dX3_sizeOf_36 (by unfold cSizeOf; rw [if_pos (rfl : (0 : Nat) = 0)])
  · skip
    refine lv_tableIn (off := 36) (tgt := 37) hx hb dX3_sizeOf_1 (by decide) (by decide) (by decide) (by decide) ?_
    refine lv_aload_n hx hb dX3_sizeOf_37 rfl (lv_at hl 0 rfl) ?_
    refine mw_get (ci := 3) (C := RX3) (T := TX3) (N := 6) (v := .int (σ 5 2)) hx hb hts hinX3 hown hK hP 5 (by decide) cF_5 rfl 2 (by decide) kf19 (fun _ h9 => h9) rfl dX3_sizeOf_38 ?_
    exact g_riret hx hb hr hlocks hP hS dX3_sizeOf_41 (by unfold cSizeOf; rw [if_neg (show ¬ (1 : Nat) = 0 by decide), if_pos (rfl : (1 : Nat) = 1)])
  · skip
    refine lv_tableIn (off := 41) (tgt := 42) hx hb dX3_sizeOf_1 (by decide) (by decide) (by decide) (by decide) ?_
    refine lv_aload_n hx hb dX3_sizeOf_42 rfl (lv_at hl 0 rfl) ?_
    refine mw_get (ci := 3) (C := RX3) (T := TX3) (N := 6) (v := .int (σ 5 4)) hx hb hts hinX3 hown hK hP 5 (by decide) cF_5 rfl 4 (by decide) kf25 (fun _ h9 => h9) rfl dX3_sizeOf_43 ?_
    exact g_riret hx hb hr hlocks hP hS dX3_sizeOf_46 (by unfold cSizeOf; rw [if_neg (show ¬ (2 : Nat) = 0 by decide), if_neg (show ¬ (2 : Nat) = 1 by decide), if_pos (rfl : (2 : Nat) = 2)])
  · skip
    refine lv_tableIn (off := 46) (tgt := 47) hx hb dX3_sizeOf_1 (by decide) (by decide) (by decide) (by decide) ?_
    refine lv_aload_n hx hb dX3_sizeOf_47 rfl (lv_at hl 0 rfl) ?_
    refine mw_get (ci := 3) (C := RX3) (T := TX3) (N := 6) (v := .int (σ 5 4)) hx hb hts hinX3 hown hK hP 5 (by decide) cF_5 rfl 4 (by decide) kf25 (fun _ h9 => h9) rfl dX3_sizeOf_48 ?_
    refine lv_if_le (tgt := 61) hx hb dX3_sizeOf_51 (by decide) (fun c_1 => ?_) (fun c_1 => ?_)
    · skip
      refine lv_bipush (v := (-4)) hx hb dX3_sizeOf_61 (by decide) ?_
      exact g_riret hx hb hr hlocks hP hS dX3_sizeOf_63 (by unfold cSizeOf; rw [if_neg (show ¬ (3 : Nat) = 0 by decide), if_neg (show ¬ (3 : Nat) = 1 by decide), if_neg (show ¬ (3 : Nat) = 2 by decide), if_pos c_1])
    · skip
      refine lv_aload_n hx hb dX3_sizeOf_54 rfl (lv_at hl 0 rfl) ?_
      refine mw_get (ci := 3) (C := RX3) (T := TX3) (N := 6) (v := .int (σ 5 5)) hx hb hts hinX3 hown hK hP 5 (by decide) cF_5 rfl 5 (by decide) kf28 (fun _ h9 => h9) rfl dX3_sizeOf_55 ?_
      refine lv_goto (tgt := 63) hx hb dX3_sizeOf_58 (by decide) ?_
      exact g_riret hx hb hr hlocks hP hS dX3_sizeOf_63 (by unfold cSizeOf; rw [if_neg (show ¬ (3 : Nat) = 0 by decide), if_neg (show ¬ (3 : Nat) = 1 by decide), if_neg (show ¬ (3 : Nat) = 2 by decide), if_neg c_1])

def cNewBox (σ : Mem) (z w : Int32) : Int32 × Mem :=
  if z < 0 then (0, σ)
  else if z ≤ 18 then (1, mset (mset (cClr σ (ci z)) 5 2 z) 5 3 w)
  else (0, σ)
set_option maxHeartbeats 4000000 in
set_option maxRecDepth 100000 in
theorem c_newBox (l : Launch) (D : va_G) (cy : Nat → ClassId) (ad wy : Nat → Nat) (mt : Nat) (hj : mJ 98 ad) (σ : Mem) (z w : Int32)  : Met l yX3_newBox wsX3_newBox ({ frames := 0, cells := 0, slots := 0, locals := 0 }) (va_Pc [.ref (ad 5), .int z, .int w] (gPre 98 ad (cF ad cy) D cy wy mt σ)) (gQ 98 ad (cF ad cy) D (some (.int (cNewBox σ z w).1)) (cNewBox σ z w).2) 0 0 (mA 98 ad) := by
  refine g_met (cc := cX3_newBox) (maxL := 4) (ret := (some .boolean)) (by decide) rfl (Nat.le_of_ble_eq_true rfl) ?_
  intro p e s m below meth c S hr hlocks h0 ls hl
  obtain ⟨hx, hb, hml, hown, hts⟩ := S
  have hP := h0.1
  have hK := h0.2.1
  have hS : va_S (mA 98 ad) s.heap s.heap [] := va_S.rf
  have hl : lv_has ls 4 [(0, .ref (ad 5)), (1, .int z), (2, .int w)] := hl
  have kf19 : (Cond.fieldLink RX3 19 "BenchRuns$Stock" "boxSize" "I").before (#[.ref (ad 5), .int z, .int w] : Array Value) s = true := hts _ (by decide +kernel)
  have hinX3 : ∀ w ∈ u_ws RX3 TX3 6, w ∈ wsX3_newBox := by decide +kernel
  have kf22 : (Cond.fieldLink RX3 22 "BenchRuns$Stock" "boxSort" "I").before (#[.ref (ad 5), .int z, .int w] : Array Value) s = true := hts _ (by decide +kernel)
  have kf9 : (Cond.fieldLink RX3 9 "BenchRuns$Stock" "boxTools" "[I").before (#[.ref (ad 5), .int z, .int w] : Array Value) s = true := hts _ (by decide +kernel)
  refine lv_iload_n hx hb dX3_newBox_0 rfl (lv_at hl 1 rfl) ?_
  refine lv_if_lt (tgt := 10) hx hb dX3_newBox_1 (by decide) (fun c_1 => ?_) (fun c_1 => ?_)
  · skip
    refine lv_iconst (v := 0) hx hb dX3_newBox_10 (by decide) ?_
    exact g_zret hx hb hr hlocks hP hS dX3_newBox_11 (by decide) (by unfold cNewBox; rw [if_pos c_1])
  · skip
    refine lv_iload_n hx hb dX3_newBox_4 rfl (lv_at hl 1 rfl) ?_
    refine lv_bipush (v := 18) hx hb dX3_newBox_5 (by decide) ?_
    refine lv_icmp_le (tgt := 12) hx hb dX3_newBox_7 (by decide) (fun c_2 => ?_) (fun c_2 => ?_)
    · skip
      refine lv_iconst (v := 0) hx hb dX3_newBox_12 (by decide) ?_
      refine lv_istore_n (lv' := [(3, .int 0), (0, .ref (ad 5)), (1, .int z), (2, .int w)]) hx hb dX3_newBox_13 rfl hl (by decide) rfl (fun ls hl => ?_)
      obtain ⟨z9, hz9, rfl⟩ : ∃ j : Nat, j ≤ 18 ∧ z = nI j := nI_of2 (M := 18) (by decide) c_1 c_2
      have loop : ∀ (n k : Nat) (H : Heap) (locs : List Loc) (ls : Array Slot), k + n = z9 → va_P D vwCl (mW 98 ad (cF ad cy) (cClr σ k)) H → va_S (mA 98 ad) s.heap H locs → lv_has ls 4 [(3, .int (nI k)), (0, .ref (ad 5)), (1, .int (nI z9)), (2, .int w)] → W p l e ({ frames := 0, cells := 0, slots := 0, locals := 0 }) s m ([.ref (ad 5), .int (nI z9), .int w] : List Value).toArray below meth c H locs 0 0 (MQ below (gQ 98 ad (cF ad cy) D (some (.int (cNewBox σ (nI z9) w).1)) (cNewBox σ (nI z9) w).2) ([.ref (ad 5), .int (nI z9), .int w] : List Value).toArray s 0 0 (mA 98 ad)) (F0 m 14 ls []) := by
        intro n
        induction n with
        | zero =>
          intro k H locs ls hkn hP hS hl
          have hkz : k = z9 := by omega
          subst hkz
          refine lv_iload_n hx hb dX3_newBox_14 rfl (lv_at hl 0 rfl) ?_
          refine lv_iload_n hx hb dX3_newBox_15 rfl (lv_at hl 2 rfl) ?_
          refine lv_icmp_ge (tgt := 33) hx hb dX3_newBox_16 (by decide) (fun _ => ?_) (fun c9 => absurd (Int32.le_refl _) c9)
          refine lv_aload_n hx hb dX3_newBox_33 rfl (lv_at hl 1 rfl) ?_
          refine lv_iload_n hx hb dX3_newBox_34 rfl (lv_at hl 2 rfl) ?_
          refine mw_put (ci := 3) (C := RX3) (T := TX3) (N := 6) (v := nI k) (ty := .int) hx hb hts hinX3 tyX3 tyX3_ok nmX3 hown hK hj hP hS 5 (by decide) cF_5 rfl 2 (by decide) kf19 (fun _ h9 => h9) rfl (by decide +kernel) rfl rfl (Nat.le_of_ble_eq_true rfl) rfl dX3_newBox_35 (fun H locs hP hS => ?_)
          refine lv_aload_n hx hb dX3_newBox_38 rfl (lv_at hl 1 rfl) ?_
          refine lv_iload_n hx hb dX3_newBox_39 rfl (lv_at hl 3 rfl) ?_
          refine mw_put (ci := 3) (C := RX3) (T := TX3) (N := 6) (v := w) (ty := .int) hx hb hts hinX3 tyX3 tyX3_ok nmX3 hown hK hj hP hS 5 (by decide) cF_5 rfl 3 (by decide) kf22 (fun _ h9 => h9) rfl (by decide +kernel) rfl rfl (Nat.le_of_ble_eq_true rfl) rfl dX3_newBox_40 (fun H locs hP hS => ?_)
          refine lv_iconst (v := 1) hx hb dX3_newBox_43 (by decide) ?_
          exact g_zret hx hb hr hlocks hP hS dX3_newBox_44 (by decide) (by unfold cNewBox; rw [if_neg c_1, if_pos c_2]; unfold ci; rw [nI_clamp (by omega)])
        | succ n ih =>
          intro k H locs ls hkn hP hS hl
          refine lv_iload_n hx hb dX3_newBox_14 rfl (lv_at hl 0 rfl) ?_
          refine lv_iload_n hx hb dX3_newBox_15 rfl (lv_at hl 2 rfl) ?_
          refine lv_icmp_ge (tgt := 33) hx hb dX3_newBox_16 (by decide) (fun c9 => absurd c9 (nI_ge (by omega) (by omega))) (fun _ => ?_)
          refine lv_aload_n hx hb dX3_newBox_19 rfl (lv_at hl 1 rfl) ?_
          refine mw_get (ci := 3) (C := RX3) (T := TX3) (N := 6) (v := .ref (ad 6)) hx hb hts hinX3 hown hK hP 5 (by decide) cF_5 rfl 0 (by decide) kf9 (fun _ h9 => h9) rfl dX3_newBox_20 ?_
          refine lv_iload_n hx hb dX3_newBox_23 rfl (lv_at hl 0 rfl) ?_
          refine lv_bipush (v := (-4)) hx hb dX3_newBox_24 (by decide) ?_
          refine mw_ist hx hb hK hj hP hS 6 (by decide) 0 cF_6 rfl k (by omega) (by decide) rfl dX3_newBox_26 (fun H locs hP hS => ?_)
          refine lv_iinc (v := nI (k + 1)) (lv' := [(3, .int (nI (k + 1))), (0, .ref (ad 5)), (1, .int (nI z9)), (2, .int w)]) hx hb dX3_newBox_27 hl (k := 0) rfl (nI_1 k) (by decide) rfl (fun ls hl => ?_)
          refine lv_goto (tgt := 14) hx hb dX3_newBox_30 (by decide) ?_
          exact ih (k + 1) H locs ls (by omega) hP hS hl
      exact loop z9 0 _ _ ls (by omega) hP hS hl
    · skip
      refine lv_iconst (v := 0) hx hb dX3_newBox_10 (by decide) ?_
      exact g_zret hx hb hr hlocks hP hS dX3_newBox_11 (by decide) (by unfold cNewBox; rw [if_neg c_1, if_neg c_2])
end
section
def cAdd (σ : Mem) (v : Nat) (n : Int32) : Nat × Mem :=
  if (σ 1 v) + n ≤ 1000 then (0, mset σ 1 v ((σ 1 v) + n))
  else cFail σ 1
set_option maxHeartbeats 4000000 in
set_option maxRecDepth 100000 in
theorem c_addDrops (l : Launch) (D : va_G) (cy : Nat → ClassId) (ad wy : Nat → Nat) (mt : Nat) (hj : mJ 98 ad) (σ : Mem) (v : Nat) (hv : v < 8) (n : Int32)  : Met l yX6_addDrops wsX6_addDrops ({ frames := 1, cells := 0, slots := 0, locals := 22 }) (va_Pc [.ref (ad 0), .int (nI v), .int n] (gPre 98 ad (cF ad cy) D cy wy mt σ)) (gQ 98 ad (cF ad cy) D (some (.ref (wy (cAdd σ v n).1))) (cAdd σ v n).2) 0 0 (mA 98 ad) := by
  refine g_met (cc := cX6_addDrops) (maxL := 3) (ret := (some (.object "BenchRuns$Way"))) (by decide) rfl (Nat.le_of_ble_eq_true rfl) ?_
  intro p e s m below meth c S hr hlocks h0 ls hl
  obtain ⟨hx, hb, hml, hown, hts⟩ := S
  have hP := h0.1
  have hK := h0.2.1
  have hS : va_S (mA 98 ad) s.heap s.heap [] := va_S.rf
  have hl : lv_has ls 3 [(0, .ref (ad 0)), (1, .int (nI v)), (2, .int n)] := hl
  have kf9 : (Cond.fieldLink RX6 9 "BenchRuns" "vialDrops" "[I").before (#[.ref (ad 0), .int (nI v), .int n] : Array Value) s = true := hts _ (by decide +kernel)
  have hinX6 : ∀ w ∈ u_ws RX6 TX6 7, w ∈ wsX6_addDrops := by decide +kernel
  have kf145 : (Cond.fieldLink RX6 145 "BenchRuns$Way" "ONWARD" "LBenchRuns$Way;").before (#[.ref (ad 0), .int (nI v), .int n] : Array Value) s = true := hts _ (by decide +kernel)
  have kf38 : (Cond.fieldLink RX6 38 "BenchRuns" "log" "LBenchRuns$Log;").before (#[.ref (ad 0), .int (nI v), .int n] : Array Value) s = true := hts _ (by decide +kernel)
  refine lv_aload_n hx hb dX6_addDrops_0 rfl (lv_at hl 0 rfl) ?_
  refine mw_get (ci := 5) (C := RX6) (T := TX6) (N := 7) (v := .ref (ad 1)) hx hb hts hinX6 hown hK hP 0 (by decide) cF_0 rfl 0 (by decide) kf9 (fun _ h9 => h9) rfl dX6_addDrops_1 ?_
  refine lv_iload_n hx hb dX6_addDrops_4 rfl (lv_at hl 1 rfl) ?_
  refine mw_ild hx hb hK hP 1 (by decide) 0 cF_1 rfl v (by omega) (by decide) rfl dX6_addDrops_5 ?_
  refine lv_iload_n hx hb dX6_addDrops_6 rfl (lv_at hl 2 rfl) ?_
  refine lv_iadd hx hb dX6_addDrops_7 ?_
  refine lv_sipush (v := 1000) hx hb dX6_addDrops_8 (by decide) ?_
  refine lv_icmp_le (tgt := 23) hx hb dX6_addDrops_11 (by decide) (fun c_1 => ?_) (fun c_1 => ?_)
  · skip
    refine lv_aload_n hx hb dX6_addDrops_23 rfl (lv_at hl 0 rfl) ?_
    refine mw_get (ci := 5) (C := RX6) (T := TX6) (N := 7) (v := .ref (ad 1)) hx hb hts hinX6 hown hK hP 0 (by decide) cF_0 rfl 0 (by decide) kf9 (fun _ h9 => h9) rfl dX6_addDrops_24 ?_
    refine lv_iload_n hx hb dX6_addDrops_27 rfl (lv_at hl 1 rfl) ?_
    refine lv_dup2_11 hx hb dX6_addDrops_28 rfl rfl ?_
    refine mw_ild hx hb hK hP 1 (by decide) 0 cF_1 rfl v (by omega) (by decide) rfl dX6_addDrops_29 ?_
    refine lv_iload_n hx hb dX6_addDrops_30 rfl (lv_at hl 2 rfl) ?_
    refine lv_iadd hx hb dX6_addDrops_31 ?_
    refine mw_ist hx hb hK hj hP hS 1 (by decide) 0 cF_1 rfl v (by omega) (by decide) rfl dX6_addDrops_32 (fun H locs hP hS => ?_)
    refine g_way hx hb h0 hS hown 0 (by decide) rfl kf145 dX6_addDrops_33 ?_
    exact g_aret hx hb hr hlocks hP hS dX6_addDrops_36 (by unfold cAdd; rw [if_pos c_1])
  · skip
    refine lv_aload_n hx hb dX6_addDrops_14 rfl (lv_at hl 0 rfl) ?_
    refine mw_get (ci := 5) (C := RX6) (T := TX6) (N := 7) (v := .ref (ad 7)) hx hb hts hinX6 hown hK hP 0 (by decide) cF_0 rfl 5 (by decide) kf38 (fun _ h9 => h9) rfl dX6_addDrops_15 ?_
    refine lv_iconst (v := 1) hx hb dX6_addDrops_18 (by decide) ?_
    refine g_callV (As := [.int 1]) (rest := []) (N := 7) (T := TX1) (ci := 1) ⟨hx, hb, hml, hown, hts⟩ 7 (c_fail l D cy ad wy mt hj σ 1) (cwV 1 hts gX6_addDrops_X1_fail rfl rfl rfl (by decide +kernel) ⟨by decide, by decide⟩) h0 hP hS (by decide) cF_7 rfl rfl rfl hl.1 (Nat.le_of_ble_eq_true rfl) dX6_addDrops_19 ⟨Nat.zero_le _, Nat.zero_le _⟩ (fun H locs hP hS => ?_)
    exact g_aret hx hb hr hlocks hP hS dX6_addDrops_22 (by unfold cAdd; rw [if_neg c_1])

def cDraw (σ : Mem) (v : Nat) (n : Int32) : Nat × Mem :=
  if n ≤ σ 1 v then (0, mset σ 1 v ((σ 1 v) - n))
  else cFail σ 2
set_option maxHeartbeats 4000000 in
set_option maxRecDepth 100000 in
theorem c_drawDrops (l : Launch) (D : va_G) (cy : Nat → ClassId) (ad wy : Nat → Nat) (mt : Nat) (hj : mJ 98 ad) (σ : Mem) (v : Nat) (hv : v < 8) (n : Int32)  : Met l yX6_drawDrops wsX6_drawDrops ({ frames := 1, cells := 0, slots := 0, locals := 22 }) (va_Pc [.ref (ad 0), .int (nI v), .int n] (gPre 98 ad (cF ad cy) D cy wy mt σ)) (gQ 98 ad (cF ad cy) D (some (.ref (wy (cDraw σ v n).1))) (cDraw σ v n).2) 0 0 (mA 98 ad) := by
  refine g_met (cc := cX6_drawDrops) (maxL := 3) (ret := (some (.object "BenchRuns$Way"))) (by decide) rfl (Nat.le_of_ble_eq_true rfl) ?_
  intro p e s m below meth c S hr hlocks h0 ls hl
  obtain ⟨hx, hb, hml, hown, hts⟩ := S
  have hP := h0.1
  have hK := h0.2.1
  have hS : va_S (mA 98 ad) s.heap s.heap [] := va_S.rf
  have hl : lv_has ls 3 [(0, .ref (ad 0)), (1, .int (nI v)), (2, .int n)] := hl
  have kf9 : (Cond.fieldLink RX6 9 "BenchRuns" "vialDrops" "[I").before (#[.ref (ad 0), .int (nI v), .int n] : Array Value) s = true := hts _ (by decide +kernel)
  have hinX6 : ∀ w ∈ u_ws RX6 TX6 7, w ∈ wsX6_drawDrops := by decide +kernel
  have kf145 : (Cond.fieldLink RX6 145 "BenchRuns$Way" "ONWARD" "LBenchRuns$Way;").before (#[.ref (ad 0), .int (nI v), .int n] : Array Value) s = true := hts _ (by decide +kernel)
  have kf38 : (Cond.fieldLink RX6 38 "BenchRuns" "log" "LBenchRuns$Log;").before (#[.ref (ad 0), .int (nI v), .int n] : Array Value) s = true := hts _ (by decide +kernel)
  refine lv_aload_n hx hb dX6_drawDrops_0 rfl (lv_at hl 0 rfl) ?_
  refine mw_get (ci := 5) (C := RX6) (T := TX6) (N := 7) (v := .ref (ad 1)) hx hb hts hinX6 hown hK hP 0 (by decide) cF_0 rfl 0 (by decide) kf9 (fun _ h9 => h9) rfl dX6_drawDrops_1 ?_
  refine lv_iload_n hx hb dX6_drawDrops_4 rfl (lv_at hl 1 rfl) ?_
  refine mw_ild hx hb hK hP 1 (by decide) 0 cF_1 rfl v (by omega) (by decide) rfl dX6_drawDrops_5 ?_
  refine lv_iload_n hx hb dX6_drawDrops_6 rfl (lv_at hl 2 rfl) ?_
  refine lv_icmp_ge (tgt := 19) hx hb dX6_drawDrops_7 (by decide) (fun c_1 => ?_) (fun c_1 => ?_)
  · skip
    refine lv_aload_n hx hb dX6_drawDrops_19 rfl (lv_at hl 0 rfl) ?_
    refine mw_get (ci := 5) (C := RX6) (T := TX6) (N := 7) (v := .ref (ad 1)) hx hb hts hinX6 hown hK hP 0 (by decide) cF_0 rfl 0 (by decide) kf9 (fun _ h9 => h9) rfl dX6_drawDrops_20 ?_
    refine lv_iload_n hx hb dX6_drawDrops_23 rfl (lv_at hl 1 rfl) ?_
    refine lv_dup2_11 hx hb dX6_drawDrops_24 rfl rfl ?_
    refine mw_ild hx hb hK hP 1 (by decide) 0 cF_1 rfl v (by omega) (by decide) rfl dX6_drawDrops_25 ?_
    refine lv_iload_n hx hb dX6_drawDrops_26 rfl (lv_at hl 2 rfl) ?_
    refine lv_isub hx hb dX6_drawDrops_27 ?_
    refine mw_ist hx hb hK hj hP hS 1 (by decide) 0 cF_1 rfl v (by omega) (by decide) rfl dX6_drawDrops_28 (fun H locs hP hS => ?_)
    refine g_way hx hb h0 hS hown 0 (by decide) rfl kf145 dX6_drawDrops_29 ?_
    exact g_aret hx hb hr hlocks hP hS dX6_drawDrops_32 (by unfold cDraw; rw [if_pos c_1])
  · skip
    refine lv_aload_n hx hb dX6_drawDrops_10 rfl (lv_at hl 0 rfl) ?_
    refine mw_get (ci := 5) (C := RX6) (T := TX6) (N := 7) (v := .ref (ad 7)) hx hb hts hinX6 hown hK hP 0 (by decide) cF_0 rfl 5 (by decide) kf38 (fun _ h9 => h9) rfl dX6_drawDrops_11 ?_
    refine lv_iconst (v := 2) hx hb dX6_drawDrops_14 (by decide) ?_
    refine g_callV (As := [.int 2]) (rest := []) (N := 7) (T := TX1) (ci := 1) ⟨hx, hb, hml, hown, hts⟩ 7 (c_fail l D cy ad wy mt hj σ 2) (cwV 1 hts gX6_drawDrops_X1_fail rfl rfl rfl (by decide +kernel) ⟨by decide, by decide⟩) h0 hP hS (by decide) cF_7 rfl rfl rfl hl.1 (Nat.le_of_ble_eq_true rfl) dX6_drawDrops_15 ⟨Nat.zero_le _, Nat.zero_le _⟩ (fun H locs hP hS => ?_)
    exact g_aret hx hb hr hlocks hP hS dX6_drawDrops_18 (by unfold cDraw; rw [if_neg c_1])

def cShare (σ : Mem) (v : Nat) (n : Int32) : Nat × Mem :=
  if n = 0 then cFail σ 3
  else (0, mset σ 1 v ((σ 1 v) / n))
set_option maxHeartbeats 4000000 in
set_option maxRecDepth 100000 in
theorem c_shareDrops (l : Launch) (D : va_G) (cy : Nat → ClassId) (ad wy : Nat → Nat) (mt : Nat) (hj : mJ 98 ad) (σ : Mem) (v : Nat) (hv : v < 8) (n : Int32)  : Met l yX6_shareDrops wsX6_shareDrops ({ frames := 1, cells := 0, slots := 0, locals := 22 }) (va_Pc [.ref (ad 0), .int (nI v), .int n] (gPre 98 ad (cF ad cy) D cy wy mt σ)) (gQ 98 ad (cF ad cy) D (some (.ref (wy (cShare σ v n).1))) (cShare σ v n).2) 0 0 (mA 98 ad) := by
  refine g_met (cc := cX6_shareDrops) (maxL := 3) (ret := (some (.object "BenchRuns$Way"))) (by decide) rfl (Nat.le_of_ble_eq_true rfl) ?_
  intro p e s m below meth c S hr hlocks h0 ls hl
  obtain ⟨hx, hb, hml, hown, hts⟩ := S
  have hP := h0.1
  have hK := h0.2.1
  have hS : va_S (mA 98 ad) s.heap s.heap [] := va_S.rf
  have hl : lv_has ls 3 [(0, .ref (ad 0)), (1, .int (nI v)), (2, .int n)] := hl
  have kf9 : (Cond.fieldLink RX6 9 "BenchRuns" "vialDrops" "[I").before (#[.ref (ad 0), .int (nI v), .int n] : Array Value) s = true := hts _ (by decide +kernel)
  have hinX6 : ∀ w ∈ u_ws RX6 TX6 7, w ∈ wsX6_shareDrops := by decide +kernel
  have kf145 : (Cond.fieldLink RX6 145 "BenchRuns$Way" "ONWARD" "LBenchRuns$Way;").before (#[.ref (ad 0), .int (nI v), .int n] : Array Value) s = true := hts _ (by decide +kernel)
  have kf38 : (Cond.fieldLink RX6 38 "BenchRuns" "log" "LBenchRuns$Log;").before (#[.ref (ad 0), .int (nI v), .int n] : Array Value) s = true := hts _ (by decide +kernel)
  refine lv_iload_n hx hb dX6_shareDrops_0 rfl (lv_at hl 2 rfl) ?_
  refine lv_if_ne (tgt := 13) hx hb dX6_shareDrops_1 (by decide) (fun c_1 => ?_) (fun c_1 => ?_)
  · skip
    refine lv_aload_n hx hb dX6_shareDrops_13 rfl (lv_at hl 0 rfl) ?_
    refine mw_get (ci := 5) (C := RX6) (T := TX6) (N := 7) (v := .ref (ad 1)) hx hb hts hinX6 hown hK hP 0 (by decide) cF_0 rfl 0 (by decide) kf9 (fun _ h9 => h9) rfl dX6_shareDrops_14 ?_
    refine lv_iload_n hx hb dX6_shareDrops_17 rfl (lv_at hl 1 rfl) ?_
    refine lv_dup2_11 hx hb dX6_shareDrops_18 rfl rfl ?_
    refine mw_ild hx hb hK hP 1 (by decide) 0 cF_1 rfl v (by omega) (by decide) rfl dX6_shareDrops_19 ?_
    refine lv_iload_n hx hb dX6_shareDrops_20 rfl (lv_at hl 2 rfl) ?_
    refine lv_idiv hx hb dX6_shareDrops_21 c_1 ?_
    refine mw_ist hx hb hK hj hP hS 1 (by decide) 0 cF_1 rfl v (by omega) (by decide) rfl dX6_shareDrops_22 (fun H locs hP hS => ?_)
    refine g_way hx hb h0 hS hown 0 (by decide) rfl kf145 dX6_shareDrops_23 ?_
    exact g_aret hx hb hr hlocks hP hS dX6_shareDrops_26 (by unfold cShare; rw [if_neg c_1])
  · skip
    refine lv_aload_n hx hb dX6_shareDrops_4 rfl (lv_at hl 0 rfl) ?_
    refine mw_get (ci := 5) (C := RX6) (T := TX6) (N := 7) (v := .ref (ad 7)) hx hb hts hinX6 hown hK hP 0 (by decide) cF_0 rfl 5 (by decide) kf38 (fun _ h9 => h9) rfl dX6_shareDrops_5 ?_
    refine lv_iconst (v := 3) hx hb dX6_shareDrops_8 (by decide) ?_
    refine g_callV (As := [.int 3]) (rest := []) (N := 7) (T := TX1) (ci := 1) ⟨hx, hb, hml, hown, hts⟩ 7 (c_fail l D cy ad wy mt hj σ 3) (cwV 1 hts gX6_shareDrops_X1_fail rfl rfl rfl (by decide +kernel) ⟨by decide, by decide⟩) h0 hP hS (by decide) cF_7 rfl rfl rfl hl.1 (Nat.le_of_ble_eq_true rfl) dX6_shareDrops_9 ⟨Nat.zero_le _, Nat.zero_le _⟩ (fun H locs hP hS => ?_)
    exact g_aret hx hb hr hlocks hP hS dX6_shareDrops_12 (by unfold cShare; rw [if_pos c_1])

def cPour (σ : Mem) (v t : Nat) : Nat × Mem :=
  if nI t < 8 then (if σ 1 t = (-1) then cFail σ 5
    else if nI t = nI v then (0, σ)
    else if (σ 1 t) + (σ 1 v) ≤ 1000 then (0, mset (mset σ 1 t ((σ 1 t) + (σ 1 v))) 1 v 0)
    else cFail σ 1)
  else cFail σ 4
set_option maxHeartbeats 4000000 in
set_option maxRecDepth 100000 in
theorem c_pourDrops (l : Launch) (D : va_G) (cy : Nat → ClassId) (ad wy : Nat → Nat) (mt : Nat) (hj : mJ 98 ad) (σ : Mem) (v t : Nat) (hv : v < 8) (ht : t ≤ 200)  : Met l yX6_pourDrops wsX6_pourDrops ({ frames := 1, cells := 0, slots := 0, locals := 22 }) (va_Pc [.ref (ad 0), .int (nI v), .int (nI t)] (gPre 98 ad (cF ad cy) D cy wy mt σ)) (gQ 98 ad (cF ad cy) D (some (.ref (wy (cPour σ v t).1))) (cPour σ v t).2) 0 0 (mA 98 ad) := by
  refine g_met (cc := cX6_pourDrops) (maxL := 3) (ret := (some (.object "BenchRuns$Way"))) (by decide) rfl (Nat.le_of_ble_eq_true rfl) ?_
  intro p e s m below meth c S hr hlocks h0 ls hl
  obtain ⟨hx, hb, hml, hown, hts⟩ := S
  have hP := h0.1
  have hK := h0.2.1
  have hS : va_S (mA 98 ad) s.heap s.heap [] := va_S.rf
  have hl : lv_has ls 3 [(0, .ref (ad 0)), (1, .int (nI v)), (2, .int (nI t))] := hl
  have kf9 : (Cond.fieldLink RX6 9 "BenchRuns" "vialDrops" "[I").before (#[.ref (ad 0), .int (nI v), .int (nI t)] : Array Value) s = true := hts _ (by decide +kernel)
  have hinX6 : ∀ w ∈ u_ws RX6 TX6 7, w ∈ wsX6_pourDrops := by decide +kernel
  have kf145 : (Cond.fieldLink RX6 145 "BenchRuns$Way" "ONWARD" "LBenchRuns$Way;").before (#[.ref (ad 0), .int (nI v), .int (nI t)] : Array Value) s = true := hts _ (by decide +kernel)
  have kf38 : (Cond.fieldLink RX6 38 "BenchRuns" "log" "LBenchRuns$Log;").before (#[.ref (ad 0), .int (nI v), .int (nI t)] : Array Value) s = true := hts _ (by decide +kernel)
  refine lv_iload_n hx hb dX6_pourDrops_0 rfl (lv_at hl 2 rfl) ?_
  refine lv_bipush (v := 8) hx hb dX6_pourDrops_1 (by decide) ?_
  refine lv_icmp_lt (tgt := 15) hx hb dX6_pourDrops_3 (by decide) (fun c_1 => ?_) (fun c_1 => ?_)
  · skip
    have ht8 : t < 8 := (nI_ltI (by omega) (by decide)).mp c_1
    refine lv_aload_n hx hb dX6_pourDrops_15 rfl (lv_at hl 0 rfl) ?_
    refine mw_get (ci := 5) (C := RX6) (T := TX6) (N := 7) (v := .ref (ad 1)) hx hb hts hinX6 hown hK hP 0 (by decide) cF_0 rfl 0 (by decide) kf9 (fun _ h9 => h9) rfl dX6_pourDrops_16 ?_
    refine lv_iload_n hx hb dX6_pourDrops_19 rfl (lv_at hl 2 rfl) ?_
    refine mw_ild hx hb hK hP 1 (by decide) 0 cF_1 rfl t (by omega) (by decide) rfl dX6_pourDrops_20 ?_
    refine lv_iconst (v := (-1)) hx hb dX6_pourDrops_21 (by decide) ?_
    refine lv_icmp_ne (tgt := 34) hx hb dX6_pourDrops_22 (by decide) (fun c_2 => ?_) (fun c_2 => ?_)
    · skip
      refine lv_iload_n hx hb dX6_pourDrops_34 rfl (lv_at hl 2 rfl) ?_
      refine lv_iload_n hx hb dX6_pourDrops_35 rfl (lv_at hl 1 rfl) ?_
      refine lv_icmp_ne (tgt := 43) hx hb dX6_pourDrops_36 (by decide) (fun c_3 => ?_) (fun c_3 => ?_)
      · skip
        refine lv_aload_n hx hb dX6_pourDrops_43 rfl (lv_at hl 0 rfl) ?_
        refine mw_get (ci := 5) (C := RX6) (T := TX6) (N := 7) (v := .ref (ad 1)) hx hb hts hinX6 hown hK hP 0 (by decide) cF_0 rfl 0 (by decide) kf9 (fun _ h9 => h9) rfl dX6_pourDrops_44 ?_
        refine lv_iload_n hx hb dX6_pourDrops_47 rfl (lv_at hl 2 rfl) ?_
        refine mw_ild hx hb hK hP 1 (by decide) 0 cF_1 rfl t (by omega) (by decide) rfl dX6_pourDrops_48 ?_
        refine lv_aload_n hx hb dX6_pourDrops_49 rfl (lv_at hl 0 rfl) ?_
        refine mw_get (ci := 5) (C := RX6) (T := TX6) (N := 7) (v := .ref (ad 1)) hx hb hts hinX6 hown hK hP 0 (by decide) cF_0 rfl 0 (by decide) kf9 (fun _ h9 => h9) rfl dX6_pourDrops_50 ?_
        refine lv_iload_n hx hb dX6_pourDrops_53 rfl (lv_at hl 1 rfl) ?_
        refine mw_ild hx hb hK hP 1 (by decide) 0 cF_1 rfl v (by omega) (by decide) rfl dX6_pourDrops_54 ?_
        refine lv_iadd hx hb dX6_pourDrops_55 ?_
        refine lv_sipush (v := 1000) hx hb dX6_pourDrops_56 (by decide) ?_
        refine lv_icmp_le (tgt := 71) hx hb dX6_pourDrops_59 (by decide) (fun c_4 => ?_) (fun c_4 => ?_)
        · skip
          refine lv_aload_n hx hb dX6_pourDrops_71 rfl (lv_at hl 0 rfl) ?_
          refine mw_get (ci := 5) (C := RX6) (T := TX6) (N := 7) (v := .ref (ad 1)) hx hb hts hinX6 hown hK hP 0 (by decide) cF_0 rfl 0 (by decide) kf9 (fun _ h9 => h9) rfl dX6_pourDrops_72 ?_
          refine lv_iload_n hx hb dX6_pourDrops_75 rfl (lv_at hl 2 rfl) ?_
          refine lv_dup2_11 hx hb dX6_pourDrops_76 rfl rfl ?_
          refine mw_ild hx hb hK hP 1 (by decide) 0 cF_1 rfl t (by omega) (by decide) rfl dX6_pourDrops_77 ?_
          refine lv_aload_n hx hb dX6_pourDrops_78 rfl (lv_at hl 0 rfl) ?_
          refine mw_get (ci := 5) (C := RX6) (T := TX6) (N := 7) (v := .ref (ad 1)) hx hb hts hinX6 hown hK hP 0 (by decide) cF_0 rfl 0 (by decide) kf9 (fun _ h9 => h9) rfl dX6_pourDrops_79 ?_
          refine lv_iload_n hx hb dX6_pourDrops_82 rfl (lv_at hl 1 rfl) ?_
          refine mw_ild hx hb hK hP 1 (by decide) 0 cF_1 rfl v (by omega) (by decide) rfl dX6_pourDrops_83 ?_
          refine lv_iadd hx hb dX6_pourDrops_84 ?_
          refine mw_ist hx hb hK hj hP hS 1 (by decide) 0 cF_1 rfl t (by omega) (by decide) rfl dX6_pourDrops_85 (fun H locs hP hS => ?_)
          refine lv_aload_n hx hb dX6_pourDrops_86 rfl (lv_at hl 0 rfl) ?_
          refine mw_get (ci := 5) (C := RX6) (T := TX6) (N := 7) (v := .ref (ad 1)) hx hb hts hinX6 hown hK hP 0 (by decide) cF_0 rfl 0 (by decide) kf9 (fun _ h9 => h9) rfl dX6_pourDrops_87 ?_
          refine lv_iload_n hx hb dX6_pourDrops_90 rfl (lv_at hl 1 rfl) ?_
          refine lv_iconst (v := 0) hx hb dX6_pourDrops_91 (by decide) ?_
          refine mw_ist hx hb hK hj hP hS 1 (by decide) 0 cF_1 rfl v (by omega) (by decide) rfl dX6_pourDrops_92 (fun H locs hP hS => ?_)
          refine g_way hx hb h0 hS hown 0 (by decide) rfl kf145 dX6_pourDrops_93 ?_
          exact g_aret hx hb hr hlocks hP hS dX6_pourDrops_96 (by unfold cPour; rw [if_pos c_1, if_neg c_2, if_neg c_3, if_pos c_4])
        · skip
          refine lv_aload_n hx hb dX6_pourDrops_62 rfl (lv_at hl 0 rfl) ?_
          refine mw_get (ci := 5) (C := RX6) (T := TX6) (N := 7) (v := .ref (ad 7)) hx hb hts hinX6 hown hK hP 0 (by decide) cF_0 rfl 5 (by decide) kf38 (fun _ h9 => h9) rfl dX6_pourDrops_63 ?_
          refine lv_iconst (v := 1) hx hb dX6_pourDrops_66 (by decide) ?_
          refine g_callV (As := [.int 1]) (rest := []) (N := 7) (T := TX1) (ci := 1) ⟨hx, hb, hml, hown, hts⟩ 7 (c_fail l D cy ad wy mt hj σ 1) (cwV 1 hts gX6_pourDrops_X1_fail rfl rfl rfl (by decide +kernel) ⟨by decide, by decide⟩) h0 hP hS (by decide) cF_7 rfl rfl rfl hl.1 (Nat.le_of_ble_eq_true rfl) dX6_pourDrops_67 ⟨Nat.zero_le _, Nat.zero_le _⟩ (fun H locs hP hS => ?_)
          exact g_aret hx hb hr hlocks hP hS dX6_pourDrops_70 (by unfold cPour; rw [if_pos c_1, if_neg c_2, if_neg c_3, if_neg c_4])
      · skip
        refine g_way hx hb h0 hS hown 0 (by decide) rfl kf145 dX6_pourDrops_39 ?_
        exact g_aret hx hb hr hlocks hP hS dX6_pourDrops_42 (by unfold cPour; rw [if_pos c_1, if_neg c_2, if_pos c_3])
    · skip
      refine lv_aload_n hx hb dX6_pourDrops_25 rfl (lv_at hl 0 rfl) ?_
      refine mw_get (ci := 5) (C := RX6) (T := TX6) (N := 7) (v := .ref (ad 7)) hx hb hts hinX6 hown hK hP 0 (by decide) cF_0 rfl 5 (by decide) kf38 (fun _ h9 => h9) rfl dX6_pourDrops_26 ?_
      refine lv_iconst (v := 5) hx hb dX6_pourDrops_29 (by decide) ?_
      refine g_callV (As := [.int 5]) (rest := []) (N := 7) (T := TX1) (ci := 1) ⟨hx, hb, hml, hown, hts⟩ 7 (c_fail l D cy ad wy mt hj σ 5) (cwV 1 hts gX6_pourDrops_X1_fail rfl rfl rfl (by decide +kernel) ⟨by decide, by decide⟩) h0 hP hS (by decide) cF_7 rfl rfl rfl hl.1 (Nat.le_of_ble_eq_true rfl) dX6_pourDrops_30 ⟨Nat.zero_le _, Nat.zero_le _⟩ (fun H locs hP hS => ?_)
      exact g_aret hx hb hr hlocks hP hS dX6_pourDrops_33 (by unfold cPour; rw [if_pos c_1, if_pos c_2])
  · skip
    refine lv_aload_n hx hb dX6_pourDrops_6 rfl (lv_at hl 0 rfl) ?_
    refine mw_get (ci := 5) (C := RX6) (T := TX6) (N := 7) (v := .ref (ad 7)) hx hb hts hinX6 hown hK hP 0 (by decide) cF_0 rfl 5 (by decide) kf38 (fun _ h9 => h9) rfl dX6_pourDrops_7 ?_
    refine lv_iconst (v := 4) hx hb dX6_pourDrops_10 (by decide) ?_
    refine g_callV (As := [.int 4]) (rest := []) (N := 7) (T := TX1) (ci := 1) ⟨hx, hb, hml, hown, hts⟩ 7 (c_fail l D cy ad wy mt hj σ 4) (cwV 1 hts gX6_pourDrops_X1_fail rfl rfl rfl (by decide +kernel) ⟨by decide, by decide⟩) h0 hP hS (by decide) cF_7 rfl rfl rfl hl.1 (Nat.le_of_ble_eq_true rfl) dX6_pourDrops_11 ⟨Nat.zero_le _, Nat.zero_le _⟩ (fun H locs hP hS => ?_)
    exact g_aret hx hb hr hlocks hP hS dX6_pourDrops_14 (by unfold cPour; rw [if_neg c_1])

def cUse (σ : Mem) (t : Nat) : Nat × Mem :=
  if nI t < 6 then (if σ (20 + t) 0 = (-1) then cFail σ 5
    else (0, mset σ (20 + t) 1 ((σ (20 + t) 1) + 1)))
  else cFail σ 4
set_option maxHeartbeats 4000000 in
set_option maxRecDepth 100000 in
theorem c_useTool (l : Launch) (D : va_G) (cy : Nat → ClassId) (ad wy : Nat → Nat) (mt : Nat) (hj : mJ 98 ad) (σ : Mem) (t : Nat) (ht : t ≤ 200)  : Met l yX6_useTool wsX6_useTool ({ frames := 1, cells := 0, slots := 0, locals := 22 }) (va_Pc [.ref (ad 0), .int (nI t)] (gPre 98 ad (cF ad cy) D cy wy mt σ)) (gQ 98 ad (cF ad cy) D (some (.ref (wy (cUse σ t).1))) (cUse σ t).2) 0 0 (mA 98 ad) := by
  refine g_met (cc := cX6_useTool) (maxL := 2) (ret := (some (.object "BenchRuns$Way"))) (by decide) rfl (Nat.le_of_ble_eq_true rfl) ?_
  intro p e s m below meth c S hr hlocks h0 ls hl
  obtain ⟨hx, hb, hml, hown, hts⟩ := S
  have hP := h0.1
  have hK := h0.2.1
  have hS : va_S (mA 98 ad) s.heap s.heap [] := va_S.rf
  have hl : lv_has ls 2 [(0, .ref (ad 0)), (1, .int (nI t))] := hl
  have kf21 : (Cond.fieldLink RX6 21 "BenchRuns" "tools" "[LBenchRuns$Tool;").before (#[.ref (ad 0), .int (nI t)] : Array Value) s = true := hts _ (by decide +kernel)
  have hinX6 : ∀ w ∈ u_ws RX6 TX6 7, w ∈ wsX6_useTool := by decide +kernel
  have kf79 : (Cond.fieldLink RX6 79 "BenchRuns$Tool" "sort" "I").before (#[.ref (ad 0), .int (nI t)] : Array Value) s = true := hts _ (by decide +kernel)
  have hinX4 : ∀ w ∈ u_ws RX4 TX4 3, w ∈ wsX6_useTool := by decide +kernel
  have kf86 : (Cond.fieldLink RX6 86 "BenchRuns$Tool" "uses" "I").before (#[.ref (ad 0), .int (nI t)] : Array Value) s = true := hts _ (by decide +kernel)
  have kf145 : (Cond.fieldLink RX6 145 "BenchRuns$Way" "ONWARD" "LBenchRuns$Way;").before (#[.ref (ad 0), .int (nI t)] : Array Value) s = true := hts _ (by decide +kernel)
  have kf38 : (Cond.fieldLink RX6 38 "BenchRuns" "log" "LBenchRuns$Log;").before (#[.ref (ad 0), .int (nI t)] : Array Value) s = true := hts _ (by decide +kernel)
  refine lv_iload_n hx hb dX6_useTool_0 rfl (lv_at hl 1 rfl) ?_
  refine lv_bipush (v := 6) hx hb dX6_useTool_1 (by decide) ?_
  refine lv_icmp_lt (tgt := 15) hx hb dX6_useTool_3 (by decide) (fun c_1 => ?_) (fun c_1 => ?_)
  · skip
    have ht6 : t < 6 := (nI_ltI (by omega) (by decide)).mp c_1
    refine lv_aload_n hx hb dX6_useTool_15 rfl (lv_at hl 0 rfl) ?_
    refine mw_get (ci := 5) (C := RX6) (T := TX6) (N := 7) (v := .ref (ad 3)) hx hb hts hinX6 hown hK hP 0 (by decide) cF_0 rfl 2 (by decide) kf21 (fun _ h9 => h9) rfl dX6_useTool_16 ?_
    refine lv_iload_n hx hb dX6_useTool_19 rfl (lv_at hl 1 rfl) ?_
    have ha_2 : t < 6 := (by omega)
    refine mw_ald (f := fun q => ad (20 + q)) hx hb hK hP 3 (by decide) 4 cF_3 rfl t ha_2 (by decide) rfl dX6_useTool_20 ?_
    refine mw_get (ci := 4) (C := RX4) (T := TX4) (N := 3) (v := .int (σ (20 + t) 0)) hx hb hts hinX4 hown hK hP (20 + t) (cB_tool ha_2) (cF_tool ha_2) rfl 0 (by decide) kf79 (fun _ h9 => h9) rfl dX6_useTool_21 ?_
    refine lv_iconst (v := (-1)) hx hb dX6_useTool_24 (by decide) ?_
    refine lv_icmp_ne (tgt := 37) hx hb dX6_useTool_25 (by decide) (fun c_3 => ?_) (fun c_3 => ?_)
    · skip
      refine lv_aload_n hx hb dX6_useTool_37 rfl (lv_at hl 0 rfl) ?_
      refine mw_get (ci := 5) (C := RX6) (T := TX6) (N := 7) (v := .ref (ad 3)) hx hb hts hinX6 hown hK hP 0 (by decide) cF_0 rfl 2 (by decide) kf21 (fun _ h9 => h9) rfl dX6_useTool_38 ?_
      refine lv_iload_n hx hb dX6_useTool_41 rfl (lv_at hl 1 rfl) ?_
      have ha_4 : t < 6 := (by omega)
      refine mw_ald (f := fun q => ad (20 + q)) hx hb hK hP 3 (by decide) 4 cF_3 rfl t ha_4 (by decide) rfl dX6_useTool_42 ?_
      refine lv_dup hx hb dX6_useTool_43 rfl ?_
      refine mw_get (ci := 4) (C := RX4) (T := TX4) (N := 3) (v := .int (σ (20 + t) 1)) hx hb hts hinX4 hown hK hP (20 + t) (cB_tool ha_4) (cF_tool ha_4) rfl 1 (by decide) kf86 (fun _ h9 => h9) rfl dX6_useTool_44 ?_
      refine lv_iconst (v := 1) hx hb dX6_useTool_47 (by decide) ?_
      refine lv_iadd hx hb dX6_useTool_48 ?_
      refine mw_put (ci := 4) (C := RX4) (T := TX4) (N := 3) (v := (σ (20 + t) 1) + 1) (ty := .int) hx hb hts hinX4 tyX4 tyX4_ok nmX4 hown hK hj hP hS (20 + t) (cB_tool ha_4) (cF_tool ha_4) rfl 1 (by decide) kf86 (fun _ h9 => h9) rfl (by decide +kernel) rfl rfl (Nat.le_of_ble_eq_true rfl) rfl dX6_useTool_49 (fun H locs hP hS => ?_)
      refine g_way hx hb h0 hS hown 0 (by decide) rfl kf145 dX6_useTool_52 ?_
      exact g_aret hx hb hr hlocks hP hS dX6_useTool_55 (by unfold cUse; rw [if_pos c_1, if_neg c_3])
    · skip
      refine lv_aload_n hx hb dX6_useTool_28 rfl (lv_at hl 0 rfl) ?_
      refine mw_get (ci := 5) (C := RX6) (T := TX6) (N := 7) (v := .ref (ad 7)) hx hb hts hinX6 hown hK hP 0 (by decide) cF_0 rfl 5 (by decide) kf38 (fun _ h9 => h9) rfl dX6_useTool_29 ?_
      refine lv_iconst (v := 5) hx hb dX6_useTool_32 (by decide) ?_
      refine g_callV (As := [.int 5]) (rest := []) (N := 7) (T := TX1) (ci := 1) ⟨hx, hb, hml, hown, hts⟩ 7 (c_fail l D cy ad wy mt hj σ 5) (cwV 1 hts gX6_useTool_X1_fail rfl rfl rfl (by decide +kernel) ⟨by decide, by decide⟩) h0 hP hS (by decide) cF_7 rfl rfl rfl hl.1 (Nat.le_of_ble_eq_true rfl) dX6_useTool_33 ⟨Nat.zero_le _, Nat.zero_le _⟩ (fun H locs hP hS => ?_)
      exact g_aret hx hb hr hlocks hP hS dX6_useTool_36 (by unfold cUse; rw [if_pos c_1, if_pos c_3])
  · skip
    refine lv_aload_n hx hb dX6_useTool_6 rfl (lv_at hl 0 rfl) ?_
    refine mw_get (ci := 5) (C := RX6) (T := TX6) (N := 7) (v := .ref (ad 7)) hx hb hts hinX6 hown hK hP 0 (by decide) cF_0 rfl 5 (by decide) kf38 (fun _ h9 => h9) rfl dX6_useTool_7 ?_
    refine lv_iconst (v := 4) hx hb dX6_useTool_10 (by decide) ?_
    refine g_callV (As := [.int 4]) (rest := []) (N := 7) (T := TX1) (ci := 1) ⟨hx, hb, hml, hown, hts⟩ 7 (c_fail l D cy ad wy mt hj σ 4) (cwV 1 hts gX6_useTool_X1_fail rfl rfl rfl (by decide +kernel) ⟨by decide, by decide⟩) h0 hP hS (by decide) cF_7 rfl rfl rfl hl.1 (Nat.le_of_ble_eq_true rfl) dX6_useTool_11 ⟨Nat.zero_le _, Nat.zero_le _⟩ (fun H locs hP hS => ?_)
    exact g_aret hx hb hr hlocks hP hS dX6_useTool_14 (by unfold cUse; rw [if_neg c_1])

def cGrip (σ : Mem) (t : Nat) (n : Int32) : Nat × Mem :=
  if nI t < 6 then (if σ (20 + t) 0 = 1 then cFail σ 7
    else if σ (20 + t) 0 = (-1) then cFail σ 5
    else (0, mset σ (20 + t) 2 ((σ (20 + t) 2) + n)))
  else cFail σ 4
set_option maxHeartbeats 4000000 in
set_option maxRecDepth 100000 in
theorem c_gripTool (l : Launch) (D : va_G) (cy : Nat → ClassId) (ad wy : Nat → Nat) (mt : Nat) (hj : mJ 98 ad) (σ : Mem) (t : Nat) (ht : t ≤ 200) (n : Int32)  : Met l yX6_gripTool wsX6_gripTool ({ frames := 1, cells := 0, slots := 0, locals := 22 }) (va_Pc [.ref (ad 0), .int (nI t), .int n] (gPre 98 ad (cF ad cy) D cy wy mt σ)) (gQ 98 ad (cF ad cy) D (some (.ref (wy (cGrip σ t n).1))) (cGrip σ t n).2) 0 0 (mA 98 ad) := by
  refine g_met (cc := cX6_gripTool) (maxL := 3) (ret := (some (.object "BenchRuns$Way"))) (by decide) rfl (Nat.le_of_ble_eq_true rfl) ?_
  intro p e s m below meth c S hr hlocks h0 ls hl
  obtain ⟨hx, hb, hml, hown, hts⟩ := S
  have hP := h0.1
  have hK := h0.2.1
  have hS : va_S (mA 98 ad) s.heap s.heap [] := va_S.rf
  have hl : lv_has ls 3 [(0, .ref (ad 0)), (1, .int (nI t)), (2, .int n)] := hl
  have kf21 : (Cond.fieldLink RX6 21 "BenchRuns" "tools" "[LBenchRuns$Tool;").before (#[.ref (ad 0), .int (nI t), .int n] : Array Value) s = true := hts _ (by decide +kernel)
  have hinX6 : ∀ w ∈ u_ws RX6 TX6 7, w ∈ wsX6_gripTool := by decide +kernel
  have kf79 : (Cond.fieldLink RX6 79 "BenchRuns$Tool" "sort" "I").before (#[.ref (ad 0), .int (nI t), .int n] : Array Value) s = true := hts _ (by decide +kernel)
  have hinX4 : ∀ w ∈ u_ws RX4 TX4 3, w ∈ wsX6_gripTool := by decide +kernel
  have kf83 : (Cond.fieldLink RX6 83 "BenchRuns$Tool" "grip" "I").before (#[.ref (ad 0), .int (nI t), .int n] : Array Value) s = true := hts _ (by decide +kernel)
  have kf145 : (Cond.fieldLink RX6 145 "BenchRuns$Way" "ONWARD" "LBenchRuns$Way;").before (#[.ref (ad 0), .int (nI t), .int n] : Array Value) s = true := hts _ (by decide +kernel)
  have kf38 : (Cond.fieldLink RX6 38 "BenchRuns" "log" "LBenchRuns$Log;").before (#[.ref (ad 0), .int (nI t), .int n] : Array Value) s = true := hts _ (by decide +kernel)
  refine lv_iload_n hx hb dX6_gripTool_0 rfl (lv_at hl 1 rfl) ?_
  refine lv_bipush (v := 6) hx hb dX6_gripTool_1 (by decide) ?_
  refine lv_icmp_lt (tgt := 15) hx hb dX6_gripTool_3 (by decide) (fun c_1 => ?_) (fun c_1 => ?_)
  · skip
    have ht6 : t < 6 := (nI_ltI (by omega) (by decide)).mp c_1
    refine lv_aload_n hx hb dX6_gripTool_15 rfl (lv_at hl 0 rfl) ?_
    refine mw_get (ci := 5) (C := RX6) (T := TX6) (N := 7) (v := .ref (ad 3)) hx hb hts hinX6 hown hK hP 0 (by decide) cF_0 rfl 2 (by decide) kf21 (fun _ h9 => h9) rfl dX6_gripTool_16 ?_
    refine lv_iload_n hx hb dX6_gripTool_19 rfl (lv_at hl 1 rfl) ?_
    have ha_2 : t < 6 := (by omega)
    refine mw_ald (f := fun q => ad (20 + q)) hx hb hK hP 3 (by decide) 4 cF_3 rfl t ha_2 (by decide) rfl dX6_gripTool_20 ?_
    refine mw_get (ci := 4) (C := RX4) (T := TX4) (N := 3) (v := .int (σ (20 + t) 0)) hx hb hts hinX4 hown hK hP (20 + t) (cB_tool ha_2) (cF_tool ha_2) rfl 0 (by decide) kf79 (fun _ h9 => h9) rfl dX6_gripTool_21 ?_
    refine lv_iconst (v := 1) hx hb dX6_gripTool_24 (by decide) ?_
    refine lv_icmp_ne (tgt := 38) hx hb dX6_gripTool_25 (by decide) (fun c_3 => ?_) (fun c_3 => ?_)
    · skip
      refine lv_aload_n hx hb dX6_gripTool_38 rfl (lv_at hl 0 rfl) ?_
      refine mw_get (ci := 5) (C := RX6) (T := TX6) (N := 7) (v := .ref (ad 3)) hx hb hts hinX6 hown hK hP 0 (by decide) cF_0 rfl 2 (by decide) kf21 (fun _ h9 => h9) rfl dX6_gripTool_39 ?_
      refine lv_iload_n hx hb dX6_gripTool_42 rfl (lv_at hl 1 rfl) ?_
      have ha_4 : t < 6 := (by omega)
      refine mw_ald (f := fun q => ad (20 + q)) hx hb hK hP 3 (by decide) 4 cF_3 rfl t ha_4 (by decide) rfl dX6_gripTool_43 ?_
      refine mw_get (ci := 4) (C := RX4) (T := TX4) (N := 3) (v := .int (σ (20 + t) 0)) hx hb hts hinX4 hown hK hP (20 + t) (cB_tool ha_4) (cF_tool ha_4) rfl 0 (by decide) kf79 (fun _ h9 => h9) rfl dX6_gripTool_44 ?_
      refine lv_iconst (v := (-1)) hx hb dX6_gripTool_47 (by decide) ?_
      refine lv_icmp_ne (tgt := 60) hx hb dX6_gripTool_48 (by decide) (fun c_5 => ?_) (fun c_5 => ?_)
      · skip
        refine lv_aload_n hx hb dX6_gripTool_60 rfl (lv_at hl 0 rfl) ?_
        refine mw_get (ci := 5) (C := RX6) (T := TX6) (N := 7) (v := .ref (ad 3)) hx hb hts hinX6 hown hK hP 0 (by decide) cF_0 rfl 2 (by decide) kf21 (fun _ h9 => h9) rfl dX6_gripTool_61 ?_
        refine lv_iload_n hx hb dX6_gripTool_64 rfl (lv_at hl 1 rfl) ?_
        have ha_6 : t < 6 := (by omega)
        refine mw_ald (f := fun q => ad (20 + q)) hx hb hK hP 3 (by decide) 4 cF_3 rfl t ha_6 (by decide) rfl dX6_gripTool_65 ?_
        refine lv_dup hx hb dX6_gripTool_66 rfl ?_
        refine mw_get (ci := 4) (C := RX4) (T := TX4) (N := 3) (v := .int (σ (20 + t) 2)) hx hb hts hinX4 hown hK hP (20 + t) (cB_tool ha_6) (cF_tool ha_6) rfl 2 (by decide) kf83 (fun _ h9 => h9) rfl dX6_gripTool_67 ?_
        refine lv_iload_n hx hb dX6_gripTool_70 rfl (lv_at hl 2 rfl) ?_
        refine lv_iadd hx hb dX6_gripTool_71 ?_
        refine mw_put (ci := 4) (C := RX4) (T := TX4) (N := 3) (v := (σ (20 + t) 2) + n) (ty := .int) hx hb hts hinX4 tyX4 tyX4_ok nmX4 hown hK hj hP hS (20 + t) (cB_tool ha_6) (cF_tool ha_6) rfl 2 (by decide) kf83 (fun _ h9 => h9) rfl (by decide +kernel) rfl rfl (Nat.le_of_ble_eq_true rfl) rfl dX6_gripTool_72 (fun H locs hP hS => ?_)
        refine g_way hx hb h0 hS hown 0 (by decide) rfl kf145 dX6_gripTool_75 ?_
        exact g_aret hx hb hr hlocks hP hS dX6_gripTool_78 (by unfold cGrip; rw [if_pos c_1, if_neg c_3, if_neg c_5])
      · skip
        refine lv_aload_n hx hb dX6_gripTool_51 rfl (lv_at hl 0 rfl) ?_
        refine mw_get (ci := 5) (C := RX6) (T := TX6) (N := 7) (v := .ref (ad 7)) hx hb hts hinX6 hown hK hP 0 (by decide) cF_0 rfl 5 (by decide) kf38 (fun _ h9 => h9) rfl dX6_gripTool_52 ?_
        refine lv_iconst (v := 5) hx hb dX6_gripTool_55 (by decide) ?_
        refine g_callV (As := [.int 5]) (rest := []) (N := 7) (T := TX1) (ci := 1) ⟨hx, hb, hml, hown, hts⟩ 7 (c_fail l D cy ad wy mt hj σ 5) (cwV 1 hts gX6_gripTool_X1_fail rfl rfl rfl (by decide +kernel) ⟨by decide, by decide⟩) h0 hP hS (by decide) cF_7 rfl rfl rfl hl.1 (Nat.le_of_ble_eq_true rfl) dX6_gripTool_56 ⟨Nat.zero_le _, Nat.zero_le _⟩ (fun H locs hP hS => ?_)
        exact g_aret hx hb hr hlocks hP hS dX6_gripTool_59 (by unfold cGrip; rw [if_pos c_1, if_neg c_3, if_pos c_5])
    · skip
      refine lv_aload_n hx hb dX6_gripTool_28 rfl (lv_at hl 0 rfl) ?_
      refine mw_get (ci := 5) (C := RX6) (T := TX6) (N := 7) (v := .ref (ad 7)) hx hb hts hinX6 hown hK hP 0 (by decide) cF_0 rfl 5 (by decide) kf38 (fun _ h9 => h9) rfl dX6_gripTool_29 ?_
      refine lv_bipush (v := 7) hx hb dX6_gripTool_32 (by decide) ?_
      refine g_callV (As := [.int 7]) (rest := []) (N := 7) (T := TX1) (ci := 1) ⟨hx, hb, hml, hown, hts⟩ 7 (c_fail l D cy ad wy mt hj σ 7) (cwV 1 hts gX6_gripTool_X1_fail rfl rfl rfl (by decide +kernel) ⟨by decide, by decide⟩) h0 hP hS (by decide) cF_7 rfl rfl rfl hl.1 (Nat.le_of_ble_eq_true rfl) dX6_gripTool_34 ⟨Nat.zero_le _, Nat.zero_le _⟩ (fun H locs hP hS => ?_)
      exact g_aret hx hb hr hlocks hP hS dX6_gripTool_37 (by unfold cGrip; rw [if_pos c_1, if_pos c_3])
  · skip
    refine lv_aload_n hx hb dX6_gripTool_6 rfl (lv_at hl 0 rfl) ?_
    refine mw_get (ci := 5) (C := RX6) (T := TX6) (N := 7) (v := .ref (ad 7)) hx hb hts hinX6 hown hK hP 0 (by decide) cF_0 rfl 5 (by decide) kf38 (fun _ h9 => h9) rfl dX6_gripTool_7 ?_
    refine lv_iconst (v := 4) hx hb dX6_gripTool_10 (by decide) ?_
    refine g_callV (As := [.int 4]) (rest := []) (N := 7) (T := TX1) (ci := 1) ⟨hx, hb, hml, hown, hts⟩ 7 (c_fail l D cy ad wy mt hj σ 4) (cwV 1 hts gX6_gripTool_X1_fail rfl rfl rfl (by decide +kernel) ⟨by decide, by decide⟩) h0 hP hS (by decide) cF_7 rfl rfl rfl hl.1 (Nat.le_of_ble_eq_true rfl) dX6_gripTool_11 ⟨Nat.zero_le _, Nat.zero_le _⟩ (fun H locs hP hS => ?_)
    exact g_aret hx hb hr hlocks hP hS dX6_gripTool_14 (by unfold cGrip; rw [if_neg c_1])

def cPut (σ : Mem) (t pl : Nat) : Nat × Mem :=
  if nI t < 6 then (if σ 5 2 = (-4) then cFail σ 5
    else if nI pl < σ 5 2 then (if cBoxTakes σ (σ (20 + t) 0) = 0 then cFail σ 8
      else if σ (20 + t) 0 = (-1) then (0, mset σ 6 pl (-4))
      else (0, mset σ 6 pl (nI t)))
    else cFail σ 4)
  else cFail σ 4
set_option maxHeartbeats 4000000 in
set_option maxRecDepth 100000 in
theorem c_putTool (l : Launch) (D : va_G) (cy : Nat → ClassId) (ad wy : Nat → Nat) (mt : Nat) (hj : mJ 98 ad) (σ : Mem) (t pl : Nat) (ht : t ≤ 200) (hpl : pl ≤ 200) (hbx : nI pl < σ 5 2 → pl < 18) : Met l yX6_putTool wsX6_putTool ({ frames := 1, cells := 0, slots := 0, locals := 22 }) (va_Pc [.ref (ad 0), .int (nI t), .int (nI pl)] (gPre 98 ad (cF ad cy) D cy wy mt σ)) (gQ 98 ad (cF ad cy) D (some (.ref (wy (cPut σ t pl).1))) (cPut σ t pl).2) 0 0 (mA 98 ad) := by
  refine g_met (cc := cX6_putTool) (maxL := 4) (ret := (some (.object "BenchRuns$Way"))) (by decide) rfl (Nat.le_of_ble_eq_true rfl) ?_
  intro p e s m below meth c S hr hlocks h0 ls hl
  obtain ⟨hx, hb, hml, hown, hts⟩ := S
  have hP := h0.1
  have hK := h0.2.1
  have hS : va_S (mA 98 ad) s.heap s.heap [] := va_S.rf
  have hl : lv_has ls 4 [(0, .ref (ad 0)), (1, .int (nI t)), (2, .int (nI pl))] := hl
  have kf31 : (Cond.fieldLink RX6 31 "BenchRuns" "stock" "LBenchRuns$Stock;").before (#[.ref (ad 0), .int (nI t), .int (nI pl)] : Array Value) s = true := hts _ (by decide +kernel)
  have hinX6 : ∀ w ∈ u_ws RX6 TX6 7, w ∈ wsX6_putTool := by decide +kernel
  have kf92 : (Cond.fieldLink RX6 92 "BenchRuns$Stock" "boxSize" "I").before (#[.ref (ad 0), .int (nI t), .int (nI pl)] : Array Value) s = true := hts _ (by decide +kernel)
  have hinX3 : ∀ w ∈ u_ws RX3 TX3 6, w ∈ wsX6_putTool := by decide +kernel
  have kf21 : (Cond.fieldLink RX6 21 "BenchRuns" "tools" "[LBenchRuns$Tool;").before (#[.ref (ad 0), .int (nI t), .int (nI pl)] : Array Value) s = true := hts _ (by decide +kernel)
  have kf79 : (Cond.fieldLink RX6 79 "BenchRuns$Tool" "sort" "I").before (#[.ref (ad 0), .int (nI t), .int (nI pl)] : Array Value) s = true := hts _ (by decide +kernel)
  have hinX4 : ∀ w ∈ u_ws RX4 TX4 3, w ∈ wsX6_putTool := by decide +kernel
  have kf95 : (Cond.fieldLink RX6 95 "BenchRuns$Stock" "boxTools" "[I").before (#[.ref (ad 0), .int (nI t), .int (nI pl)] : Array Value) s = true := hts _ (by decide +kernel)
  have kf145 : (Cond.fieldLink RX6 145 "BenchRuns$Way" "ONWARD" "LBenchRuns$Way;").before (#[.ref (ad 0), .int (nI t), .int (nI pl)] : Array Value) s = true := hts _ (by decide +kernel)
  have kf38 : (Cond.fieldLink RX6 38 "BenchRuns" "log" "LBenchRuns$Log;").before (#[.ref (ad 0), .int (nI t), .int (nI pl)] : Array Value) s = true := hts _ (by decide +kernel)
  refine lv_iload_n hx hb dX6_putTool_0 rfl (lv_at hl 1 rfl) ?_
  refine lv_bipush (v := 6) hx hb dX6_putTool_1 (by decide) ?_
  refine lv_icmp_lt (tgt := 15) hx hb dX6_putTool_3 (by decide) (fun c_1 => ?_) (fun c_1 => ?_)
  · skip
    have ht6 : t < 6 := (nI_ltI (by omega) (by decide)).mp c_1
    refine lv_aload_n hx hb dX6_putTool_15 rfl (lv_at hl 0 rfl) ?_
    refine mw_get (ci := 5) (C := RX6) (T := TX6) (N := 7) (v := .ref (ad 5)) hx hb hts hinX6 hown hK hP 0 (by decide) cF_0 rfl 4 (by decide) kf31 (fun _ h9 => h9) rfl dX6_putTool_16 ?_
    refine mw_get (ci := 3) (C := RX3) (T := TX3) (N := 6) (v := .int (σ 5 2)) hx hb hts hinX3 hown hK hP 5 (by decide) cF_5 rfl 2 (by decide) kf92 (fun _ h9 => h9) rfl dX6_putTool_19 ?_
    refine lv_bipush (v := (-4)) hx hb dX6_putTool_22 (by decide) ?_
    refine lv_icmp_ne (tgt := 36) hx hb dX6_putTool_24 (by decide) (fun c_2 => ?_) (fun c_2 => ?_)
    · skip
      refine lv_iload_n hx hb dX6_putTool_36 rfl (lv_at hl 2 rfl) ?_
      refine lv_aload_n hx hb dX6_putTool_37 rfl (lv_at hl 0 rfl) ?_
      refine mw_get (ci := 5) (C := RX6) (T := TX6) (N := 7) (v := .ref (ad 5)) hx hb hts hinX6 hown hK hP 0 (by decide) cF_0 rfl 4 (by decide) kf31 (fun _ h9 => h9) rfl dX6_putTool_38 ?_
      refine mw_get (ci := 3) (C := RX3) (T := TX3) (N := 6) (v := .int (σ 5 2)) hx hb hts hinX3 hown hK hP 5 (by decide) cF_5 rfl 2 (by decide) kf92 (fun _ h9 => h9) rfl dX6_putTool_41 ?_
      refine lv_icmp_lt (tgt := 56) hx hb dX6_putTool_44 (by decide) (fun c_3 => ?_) (fun c_3 => ?_)
      · skip
        have hp18 : pl < 18 := hbx c_3
        refine lv_aload_n hx hb dX6_putTool_56 rfl (lv_at hl 0 rfl) ?_
        refine mw_get (ci := 5) (C := RX6) (T := TX6) (N := 7) (v := .ref (ad 3)) hx hb hts hinX6 hown hK hP 0 (by decide) cF_0 rfl 2 (by decide) kf21 (fun _ h9 => h9) rfl dX6_putTool_57 ?_
        refine lv_iload_n hx hb dX6_putTool_60 rfl (lv_at hl 1 rfl) ?_
        have ha_4 : t < 6 := (by omega)
        refine mw_ald (f := fun q => ad (20 + q)) hx hb hK hP 3 (by decide) 4 cF_3 rfl t ha_4 (by decide) rfl dX6_putTool_61 ?_
        refine mw_get (ci := 4) (C := RX4) (T := TX4) (N := 3) (v := .int (σ (20 + t) 0)) hx hb hts hinX4 hown hK hP (20 + t) (cB_tool ha_4) (cF_tool ha_4) rfl 0 (by decide) kf79 (fun _ h9 => h9) rfl dX6_putTool_62 ?_
        refine lv_istore_n (lv' := [(3, .int (σ (20 + t) 0)), (0, .ref (ad 0)), (1, .int (nI t)), (2, .int (nI pl))]) hx hb dX6_putTool_65 rfl hl (by decide) rfl (fun ls hl => ?_)
        refine lv_aload_n hx hb dX6_putTool_66 rfl (lv_at hl 1 rfl) ?_
        refine mw_get (ci := 5) (C := RX6) (T := TX6) (N := 7) (v := .ref (ad 5)) hx hb hts hinX6 hown hK hP 0 (by decide) cF_0 rfl 4 (by decide) kf31 (fun _ h9 => h9) rfl dX6_putTool_67 ?_
        refine lv_iload_n hx hb dX6_putTool_70 rfl (lv_at hl 0 rfl) ?_
        refine g_callV (As := [.int (σ (20 + t) 0)]) (rest := []) (N := 6) (T := TX3) (ci := 3) ⟨hx, hb, hml, hown, hts⟩ 5 (c_boxTakes l D cy ad wy mt hj σ (σ (20 + t) 0)) (cwV 1 hts gX6_putTool_X3_boxTakes rfl rfl rfl (by decide +kernel) ⟨by decide, by decide⟩) h0 hP hS (by decide) cF_5 rfl rfl rfl hl.1 (Nat.le_of_ble_eq_true rfl) dX6_putTool_71 ⟨Nat.zero_le _, Nat.zero_le _⟩ (fun H locs hP hS => ?_)
        refine lv_if_ne (tgt := 87) hx hb dX6_putTool_74 (by decide) (fun c_5 => ?_) (fun c_5 => ?_)
        · skip
          refine lv_aload_n hx hb dX6_putTool_87 rfl (lv_at hl 1 rfl) ?_
          refine mw_get (ci := 5) (C := RX6) (T := TX6) (N := 7) (v := .ref (ad 5)) hx hb hts hinX6 hown hK hP 0 (by decide) cF_0 rfl 4 (by decide) kf31 (fun _ h9 => h9) rfl dX6_putTool_88 ?_
          refine mw_get (ci := 3) (C := RX3) (T := TX3) (N := 6) (v := .ref (ad 6)) hx hb hts hinX3 hown hK hP 5 (by decide) cF_5 rfl 0 (by decide) kf95 (fun _ h9 => h9) rfl dX6_putTool_91 ?_
          refine lv_iload_n hx hb dX6_putTool_94 rfl (lv_at hl 3 rfl) ?_
          refine lv_iload_n hx hb dX6_putTool_95 rfl (lv_at hl 0 rfl) ?_
          refine lv_iconst (v := (-1)) hx hb dX6_putTool_96 (by decide) ?_
          refine lv_icmp_ne (tgt := 105) hx hb dX6_putTool_97 (by decide) (fun c_6 => ?_) (fun c_6 => ?_)
          · skip
            refine lv_iload_n hx hb dX6_putTool_105 rfl (lv_at hl 2 rfl) ?_
            refine mw_ist hx hb hK hj hP hS 6 (by decide) 0 cF_6 rfl pl (by omega) (by decide) rfl dX6_putTool_106 (fun H locs hP hS => ?_)
            refine g_way hx hb h0 hS hown 0 (by decide) rfl kf145 dX6_putTool_107 ?_
            exact g_aret hx hb hr hlocks hP hS dX6_putTool_110 (by unfold cPut; rw [if_pos c_1, if_neg c_2, if_pos c_3, if_neg c_5, if_neg c_6])
          · skip
            refine lv_bipush (v := (-4)) hx hb dX6_putTool_100 (by decide) ?_
            refine lv_goto (tgt := 106) hx hb dX6_putTool_102 (by decide) ?_
            refine mw_ist hx hb hK hj hP hS 6 (by decide) 0 cF_6 rfl pl (by omega) (by decide) rfl dX6_putTool_106 (fun H locs hP hS => ?_)
            refine g_way hx hb h0 hS hown 0 (by decide) rfl kf145 dX6_putTool_107 ?_
            exact g_aret hx hb hr hlocks hP hS dX6_putTool_110 (by unfold cPut; rw [if_pos c_1, if_neg c_2, if_pos c_3, if_neg c_5, if_pos c_6])
        · skip
          refine lv_aload_n hx hb dX6_putTool_77 rfl (lv_at hl 1 rfl) ?_
          refine mw_get (ci := 5) (C := RX6) (T := TX6) (N := 7) (v := .ref (ad 7)) hx hb hts hinX6 hown hK hP 0 (by decide) cF_0 rfl 5 (by decide) kf38 (fun _ h9 => h9) rfl dX6_putTool_78 ?_
          refine lv_bipush (v := 8) hx hb dX6_putTool_81 (by decide) ?_
          refine g_callV (As := [.int 8]) (rest := []) (N := 7) (T := TX1) (ci := 1) ⟨hx, hb, hml, hown, hts⟩ 7 (c_fail l D cy ad wy mt hj σ 8) (cwV 1 hts gX6_putTool_X1_fail rfl rfl rfl (by decide +kernel) ⟨by decide, by decide⟩) h0 hP hS (by decide) cF_7 rfl rfl rfl hl.1 (Nat.le_of_ble_eq_true rfl) dX6_putTool_83 ⟨Nat.zero_le _, Nat.zero_le _⟩ (fun H locs hP hS => ?_)
          exact g_aret hx hb hr hlocks hP hS dX6_putTool_86 (by unfold cPut; rw [if_pos c_1, if_neg c_2, if_pos c_3, if_pos c_5])
      · skip
        refine lv_aload_n hx hb dX6_putTool_47 rfl (lv_at hl 0 rfl) ?_
        refine mw_get (ci := 5) (C := RX6) (T := TX6) (N := 7) (v := .ref (ad 7)) hx hb hts hinX6 hown hK hP 0 (by decide) cF_0 rfl 5 (by decide) kf38 (fun _ h9 => h9) rfl dX6_putTool_48 ?_
        refine lv_iconst (v := 4) hx hb dX6_putTool_51 (by decide) ?_
        refine g_callV (As := [.int 4]) (rest := []) (N := 7) (T := TX1) (ci := 1) ⟨hx, hb, hml, hown, hts⟩ 7 (c_fail l D cy ad wy mt hj σ 4) (cwV 1 hts gX6_putTool_X1_fail rfl rfl rfl (by decide +kernel) ⟨by decide, by decide⟩) h0 hP hS (by decide) cF_7 rfl rfl rfl hl.1 (Nat.le_of_ble_eq_true rfl) dX6_putTool_52 ⟨Nat.zero_le _, Nat.zero_le _⟩ (fun H locs hP hS => ?_)
        exact g_aret hx hb hr hlocks hP hS dX6_putTool_55 (by unfold cPut; rw [if_pos c_1, if_neg c_2, if_neg c_3])
    · skip
      refine lv_aload_n hx hb dX6_putTool_27 rfl (lv_at hl 0 rfl) ?_
      refine mw_get (ci := 5) (C := RX6) (T := TX6) (N := 7) (v := .ref (ad 7)) hx hb hts hinX6 hown hK hP 0 (by decide) cF_0 rfl 5 (by decide) kf38 (fun _ h9 => h9) rfl dX6_putTool_28 ?_
      refine lv_iconst (v := 5) hx hb dX6_putTool_31 (by decide) ?_
      refine g_callV (As := [.int 5]) (rest := []) (N := 7) (T := TX1) (ci := 1) ⟨hx, hb, hml, hown, hts⟩ 7 (c_fail l D cy ad wy mt hj σ 5) (cwV 1 hts gX6_putTool_X1_fail rfl rfl rfl (by decide +kernel) ⟨by decide, by decide⟩) h0 hP hS (by decide) cF_7 rfl rfl rfl hl.1 (Nat.le_of_ble_eq_true rfl) dX6_putTool_32 ⟨Nat.zero_le _, Nat.zero_le _⟩ (fun H locs hP hS => ?_)
      exact g_aret hx hb hr hlocks hP hS dX6_putTool_35 (by unfold cPut; rw [if_pos c_1, if_pos c_2])
  · skip
    refine lv_aload_n hx hb dX6_putTool_6 rfl (lv_at hl 0 rfl) ?_
    refine mw_get (ci := 5) (C := RX6) (T := TX6) (N := 7) (v := .ref (ad 7)) hx hb hts hinX6 hown hK hP 0 (by decide) cF_0 rfl 5 (by decide) kf38 (fun _ h9 => h9) rfl dX6_putTool_7 ?_
    refine lv_iconst (v := 4) hx hb dX6_putTool_10 (by decide) ?_
    refine g_callV (As := [.int 4]) (rest := []) (N := 7) (T := TX1) (ci := 1) ⟨hx, hb, hml, hown, hts⟩ 7 (c_fail l D cy ad wy mt hj σ 4) (cwV 1 hts gX6_putTool_X1_fail rfl rfl rfl (by decide +kernel) ⟨by decide, by decide⟩) h0 hP hS (by decide) cF_7 rfl rfl rfl hl.1 (Nat.le_of_ble_eq_true rfl) dX6_putTool_11 ⟨Nat.zero_le _, Nat.zero_le _⟩ (fun H locs hP hS => ?_)
    exact g_aret hx hb hr hlocks hP hS dX6_putTool_14 (by unfold cPut; rw [if_neg c_1])
end
section
def cVial (σ : Mem) (kd j v : Nat) (ag : Int32) : Nat × Mem :=
  if kd = 0 then cAdd σ v (nI j)
  else if kd = 1 then cDraw σ v (nI j)
  else if kd = 2 then cShare σ v (nI j)
  else if kd = 3 then cPour σ v j
  else if kd = 4 then (1, σ)
  else if kd = 5 then (3, σ)
  else if kd = 6 then (4, mset σ 0 6 (nI j))
  else if kd = 7 then cFail σ (10 + (nI j))
  else if kd = 8 then (if nI j ≤ σ 1 v then (0, σ)
    else (1, σ))
  else if nI j ≤ ag then (0, σ)
  else (2, σ)
set_option maxHeartbeats 4000000 in
set_option maxRecDepth 100000 in
theorem c_doVialStep (l : Launch) (D : va_G) (cy : Nat → ClassId) (ad wy : Nat → Nat) (mt : Nat) (hj : mJ 98 ad) (σ : Mem) (kd j v : Nat) (ag : Int32) (hkd : kd < 10) (hj200 : j ≤ 200) (hv : v < 8)  : Met l yX6_doVialStep wsX6_doVialStep ({ frames := 2, cells := 0, slots := 0, locals := 44 }) (va_Pc [.ref (ad 0), .int (nI kd), .int (nI j), .int (nI v), .int ag] (gPre 98 ad (cF ad cy) D cy wy mt σ)) (gQ 98 ad (cF ad cy) D (some (.ref (wy (cVial σ kd j v ag).1))) (cVial σ kd j v ag).2) 0 0 (mA 98 ad) := by
  refine g_met (cc := cX6_doVialStep) (maxL := 5) (ret := (some (.object "BenchRuns$Way"))) (by decide) rfl (Nat.le_of_ble_eq_true rfl) ?_
  intro p e s m below meth c S hr hlocks h0 ls hl
  obtain ⟨hx, hb, hml, hown, hts⟩ := S
  have hP := h0.1
  have hK := h0.2.1
  have hS : va_S (mA 98 ad) s.heap s.heap [] := va_S.rf
  have hl : lv_has ls 5 [(0, .ref (ad 0)), (1, .int (nI kd)), (2, .int (nI j)), (3, .int (nI v)), (4, .int ag)] := hl
  have kf155 : (Cond.fieldLink RX6 155 "BenchRuns$Way" "SKIP" "LBenchRuns$Way;").before (#[.ref (ad 0), .int (nI kd), .int (nI j), .int (nI v), .int ag] : Array Value) s = true := hts _ (by decide +kernel)
  have kf165 : (Cond.fieldLink RX6 165 "BenchRuns$Way" "BREAK" "LBenchRuns$Way;").before (#[.ref (ad 0), .int (nI kd), .int (nI j), .int (nI v), .int ag] : Array Value) s = true := hts _ (by decide +kernel)
  have kf42 : (Cond.fieldLink RX6 42 "BenchRuns" "stoppedBy" "I").before (#[.ref (ad 0), .int (nI kd), .int (nI j), .int (nI v), .int ag] : Array Value) s = true := hts _ (by decide +kernel)
  have hinX6 : ∀ w ∈ u_ws RX6 TX6 7, w ∈ wsX6_doVialStep := by decide +kernel
  have kf113 : (Cond.fieldLink RX6 113 "BenchRuns$Way" "STOP" "LBenchRuns$Way;").before (#[.ref (ad 0), .int (nI kd), .int (nI j), .int (nI v), .int ag] : Array Value) s = true := hts _ (by decide +kernel)
  have kf38 : (Cond.fieldLink RX6 38 "BenchRuns" "log" "LBenchRuns$Log;").before (#[.ref (ad 0), .int (nI kd), .int (nI j), .int (nI v), .int ag] : Array Value) s = true := hts _ (by decide +kernel)
  have kf9 : (Cond.fieldLink RX6 9 "BenchRuns" "vialDrops" "[I").before (#[.ref (ad 0), .int (nI kd), .int (nI j), .int (nI v), .int ag] : Array Value) s = true := hts _ (by decide +kernel)
  have kf145 : (Cond.fieldLink RX6 145 "BenchRuns$Way" "ONWARD" "LBenchRuns$Way;").before (#[.ref (ad 0), .int (nI kd), .int (nI j), .int (nI v), .int ag] : Array Value) s = true := hts _ (by decide +kernel)
  have kf198 : (Cond.fieldLink RX6 198 "BenchRuns$Way" "ANEW" "LBenchRuns$Way;").before (#[.ref (ad 0), .int (nI kd), .int (nI j), .int (nI v), .int ag] : Array Value) s = true := hts _ (by decide +kernel)
  refine lv_iload_n hx hb dX6_doVialStep_0 rfl (lv_at hl 1 rfl) ?_
  rcases (show kd = 0 ∨ kd = 1 ∨ kd = 2 ∨ kd = 3 ∨ kd = 4 ∨ kd = 5 ∨ kd = 6 ∨ kd = 7 ∨ kd = 8 ∨ kd = 9 by omega) with rfl | rfl | rfl | rfl | rfl | rfl | rfl | rfl | rfl | rfl
  · skip
    refine lv_tableIn (off := 55) (tgt := 56) hx hb dX6_doVialStep_1 (by decide) (by decide) (by decide) (by decide) ?_
    refine lv_aload_n hx hb dX6_doVialStep_56 rfl (lv_at hl 0 rfl) ?_
    refine lv_iload_n hx hb dX6_doVialStep_57 rfl (lv_at hl 3 rfl) ?_
    refine lv_iload_n hx hb dX6_doVialStep_58 rfl (lv_at hl 2 rfl) ?_
    refine g_callV (As := [.int (nI v), .int (nI j)]) (rest := []) (N := 7) (T := TX6) (ci := 5) ⟨hx, hb, hml, hown, hts⟩ 0 (c_addDrops l D cy ad wy mt hj σ v (by omega) (nI j)) (cwV 2 hts gX6_doVialStep_X6_addDrops rfl rfl rfl (by decide +kernel) ⟨by decide, by decide⟩) h0 hP hS (by decide) cF_0 rfl rfl rfl hl.1 (Nat.le_of_ble_eq_true rfl) dX6_doVialStep_59 ⟨Nat.zero_le _, Nat.zero_le _⟩ (fun H locs hP hS => ?_)
    exact g_aret hx hb hr hlocks hP hS dX6_doVialStep_62 (by unfold cVial; rw [if_pos (rfl : (0 : Nat) = 0)])
  · skip
    refine lv_tableIn (off := 62) (tgt := 63) hx hb dX6_doVialStep_1 (by decide) (by decide) (by decide) (by decide) ?_
    refine lv_aload_n hx hb dX6_doVialStep_63 rfl (lv_at hl 0 rfl) ?_
    refine lv_iload_n hx hb dX6_doVialStep_64 rfl (lv_at hl 3 rfl) ?_
    refine lv_iload_n hx hb dX6_doVialStep_65 rfl (lv_at hl 2 rfl) ?_
    refine g_callV (As := [.int (nI v), .int (nI j)]) (rest := []) (N := 7) (T := TX6) (ci := 5) ⟨hx, hb, hml, hown, hts⟩ 0 (c_drawDrops l D cy ad wy mt hj σ v (by omega) (nI j)) (cwV 2 hts gX6_doVialStep_X6_drawDrops rfl rfl rfl (by decide +kernel) ⟨by decide, by decide⟩) h0 hP hS (by decide) cF_0 rfl rfl rfl hl.1 (Nat.le_of_ble_eq_true rfl) dX6_doVialStep_66 ⟨Nat.zero_le _, Nat.zero_le _⟩ (fun H locs hP hS => ?_)
    exact g_aret hx hb hr hlocks hP hS dX6_doVialStep_69 (by unfold cVial; rw [if_neg (show ¬ (1 : Nat) = 0 by decide), if_pos (rfl : (1 : Nat) = 1)])
  · skip
    refine lv_tableIn (off := 69) (tgt := 70) hx hb dX6_doVialStep_1 (by decide) (by decide) (by decide) (by decide) ?_
    refine lv_aload_n hx hb dX6_doVialStep_70 rfl (lv_at hl 0 rfl) ?_
    refine lv_iload_n hx hb dX6_doVialStep_71 rfl (lv_at hl 3 rfl) ?_
    refine lv_iload_n hx hb dX6_doVialStep_72 rfl (lv_at hl 2 rfl) ?_
    refine g_callV (As := [.int (nI v), .int (nI j)]) (rest := []) (N := 7) (T := TX6) (ci := 5) ⟨hx, hb, hml, hown, hts⟩ 0 (c_shareDrops l D cy ad wy mt hj σ v (by omega) (nI j)) (cwV 2 hts gX6_doVialStep_X6_shareDrops rfl rfl rfl (by decide +kernel) ⟨by decide, by decide⟩) h0 hP hS (by decide) cF_0 rfl rfl rfl hl.1 (Nat.le_of_ble_eq_true rfl) dX6_doVialStep_73 ⟨Nat.zero_le _, Nat.zero_le _⟩ (fun H locs hP hS => ?_)
    exact g_aret hx hb hr hlocks hP hS dX6_doVialStep_76 (by unfold cVial; rw [if_neg (show ¬ (2 : Nat) = 0 by decide), if_neg (show ¬ (2 : Nat) = 1 by decide), if_pos (rfl : (2 : Nat) = 2)])
  · skip
    refine lv_tableIn (off := 76) (tgt := 77) hx hb dX6_doVialStep_1 (by decide) (by decide) (by decide) (by decide) ?_
    refine lv_aload_n hx hb dX6_doVialStep_77 rfl (lv_at hl 0 rfl) ?_
    refine lv_iload_n hx hb dX6_doVialStep_78 rfl (lv_at hl 3 rfl) ?_
    refine lv_iload_n hx hb dX6_doVialStep_79 rfl (lv_at hl 2 rfl) ?_
    refine g_callV (As := [.int (nI v), .int (nI j)]) (rest := []) (N := 7) (T := TX6) (ci := 5) ⟨hx, hb, hml, hown, hts⟩ 0 (c_pourDrops l D cy ad wy mt hj σ v j (by omega) (by omega)) (cwV 2 hts gX6_doVialStep_X6_pourDrops rfl rfl rfl (by decide +kernel) ⟨by decide, by decide⟩) h0 hP hS (by decide) cF_0 rfl rfl rfl hl.1 (Nat.le_of_ble_eq_true rfl) dX6_doVialStep_80 ⟨Nat.zero_le _, Nat.zero_le _⟩ (fun H locs hP hS => ?_)
    exact g_aret hx hb hr hlocks hP hS dX6_doVialStep_83 (by unfold cVial; rw [if_neg (show ¬ (3 : Nat) = 0 by decide), if_neg (show ¬ (3 : Nat) = 1 by decide), if_neg (show ¬ (3 : Nat) = 2 by decide), if_pos (rfl : (3 : Nat) = 3)])
  · skip
    refine lv_tableIn (off := 83) (tgt := 84) hx hb dX6_doVialStep_1 (by decide) (by decide) (by decide) (by decide) ?_
    refine g_way hx hb h0 hS hown 1 (by decide) rfl kf155 dX6_doVialStep_84 ?_
    exact g_aret hx hb hr hlocks hP hS dX6_doVialStep_87 (by unfold cVial; rw [if_neg (show ¬ (4 : Nat) = 0 by decide), if_neg (show ¬ (4 : Nat) = 1 by decide), if_neg (show ¬ (4 : Nat) = 2 by decide), if_neg (show ¬ (4 : Nat) = 3 by decide), if_pos (rfl : (4 : Nat) = 4)])
  · skip
    refine lv_tableIn (off := 87) (tgt := 88) hx hb dX6_doVialStep_1 (by decide) (by decide) (by decide) (by decide) ?_
    refine g_way hx hb h0 hS hown 3 (by decide) rfl kf165 dX6_doVialStep_88 ?_
    exact g_aret hx hb hr hlocks hP hS dX6_doVialStep_91 (by unfold cVial; rw [if_neg (show ¬ (5 : Nat) = 0 by decide), if_neg (show ¬ (5 : Nat) = 1 by decide), if_neg (show ¬ (5 : Nat) = 2 by decide), if_neg (show ¬ (5 : Nat) = 3 by decide), if_neg (show ¬ (5 : Nat) = 4 by decide), if_pos (rfl : (5 : Nat) = 5)])
  · skip
    refine lv_tableIn (off := 91) (tgt := 92) hx hb dX6_doVialStep_1 (by decide) (by decide) (by decide) (by decide) ?_
    refine lv_aload_n hx hb dX6_doVialStep_92 rfl (lv_at hl 0 rfl) ?_
    refine lv_iload_n hx hb dX6_doVialStep_93 rfl (lv_at hl 2 rfl) ?_
    refine mw_put (ci := 5) (C := RX6) (T := TX6) (N := 7) (v := nI j) (ty := .int) hx hb hts hinX6 tyX6 tyX6_ok nmX6 hown hK hj hP hS 0 (by decide) cF_0 rfl 6 (by decide) kf42 (fun _ h9 => h9) rfl (by decide +kernel) rfl rfl (Nat.le_of_ble_eq_true rfl) rfl dX6_doVialStep_94 (fun H locs hP hS => ?_)
    refine g_way hx hb h0 hS hown 4 (by decide) rfl kf113 dX6_doVialStep_97 ?_
    exact g_aret hx hb hr hlocks hP hS dX6_doVialStep_100 (by unfold cVial; rw [if_neg (show ¬ (6 : Nat) = 0 by decide), if_neg (show ¬ (6 : Nat) = 1 by decide), if_neg (show ¬ (6 : Nat) = 2 by decide), if_neg (show ¬ (6 : Nat) = 3 by decide), if_neg (show ¬ (6 : Nat) = 4 by decide), if_neg (show ¬ (6 : Nat) = 5 by decide), if_pos (rfl : (6 : Nat) = 6)])
  · skip
    refine lv_tableIn (off := 100) (tgt := 101) hx hb dX6_doVialStep_1 (by decide) (by decide) (by decide) (by decide) ?_
    refine lv_aload_n hx hb dX6_doVialStep_101 rfl (lv_at hl 0 rfl) ?_
    refine mw_get (ci := 5) (C := RX6) (T := TX6) (N := 7) (v := .ref (ad 7)) hx hb hts hinX6 hown hK hP 0 (by decide) cF_0 rfl 5 (by decide) kf38 (fun _ h9 => h9) rfl dX6_doVialStep_102 ?_
    refine lv_bipush (v := 10) hx hb dX6_doVialStep_105 (by decide) ?_
    refine lv_iload_n hx hb dX6_doVialStep_107 rfl (lv_at hl 2 rfl) ?_
    refine lv_iadd hx hb dX6_doVialStep_108 ?_
    refine g_callV (As := [.int (10 + (nI j))]) (rest := []) (N := 7) (T := TX1) (ci := 1) ⟨hx, hb, hml, hown, hts⟩ 7 (c_fail l D cy ad wy mt hj σ (10 + (nI j))) (cwV 1 hts gX6_doVialStep_X1_fail rfl rfl rfl (by decide +kernel) ⟨by decide, by decide⟩) h0 hP hS (by decide) cF_7 rfl rfl rfl hl.1 (Nat.le_of_ble_eq_true rfl) dX6_doVialStep_109 ⟨Nat.zero_le _, Nat.zero_le _⟩ (fun H locs hP hS => ?_)
    exact g_aret hx hb hr hlocks hP hS dX6_doVialStep_112 (by unfold cVial; rw [if_neg (show ¬ (7 : Nat) = 0 by decide), if_neg (show ¬ (7 : Nat) = 1 by decide), if_neg (show ¬ (7 : Nat) = 2 by decide), if_neg (show ¬ (7 : Nat) = 3 by decide), if_neg (show ¬ (7 : Nat) = 4 by decide), if_neg (show ¬ (7 : Nat) = 5 by decide), if_neg (show ¬ (7 : Nat) = 6 by decide), if_pos (rfl : (7 : Nat) = 7)])
  · skip
    refine lv_tableIn (off := 112) (tgt := 113) hx hb dX6_doVialStep_1 (by decide) (by decide) (by decide) (by decide) ?_
    refine lv_aload_n hx hb dX6_doVialStep_113 rfl (lv_at hl 0 rfl) ?_
    refine mw_get (ci := 5) (C := RX6) (T := TX6) (N := 7) (v := .ref (ad 1)) hx hb hts hinX6 hown hK hP 0 (by decide) cF_0 rfl 0 (by decide) kf9 (fun _ h9 => h9) rfl dX6_doVialStep_114 ?_
    refine lv_iload_n hx hb dX6_doVialStep_117 rfl (lv_at hl 3 rfl) ?_
    refine mw_ild hx hb hK hP 1 (by decide) 0 cF_1 rfl v (by omega) (by decide) rfl dX6_doVialStep_118 ?_
    refine lv_iload_n hx hb dX6_doVialStep_119 rfl (lv_at hl 2 rfl) ?_
    refine lv_icmp_ge (tgt := 129) hx hb dX6_doVialStep_120 (by decide) (fun c_1 => ?_) (fun c_1 => ?_)
    · skip
      refine g_way hx hb h0 hS hown 0 (by decide) rfl kf145 dX6_doVialStep_129 ?_
      exact g_aret hx hb hr hlocks hP hS dX6_doVialStep_132 (by unfold cVial; rw [if_neg (show ¬ (8 : Nat) = 0 by decide), if_neg (show ¬ (8 : Nat) = 1 by decide), if_neg (show ¬ (8 : Nat) = 2 by decide), if_neg (show ¬ (8 : Nat) = 3 by decide), if_neg (show ¬ (8 : Nat) = 4 by decide), if_neg (show ¬ (8 : Nat) = 5 by decide), if_neg (show ¬ (8 : Nat) = 6 by decide), if_neg (show ¬ (8 : Nat) = 7 by decide), if_pos (rfl : (8 : Nat) = 8), if_pos c_1])
    · skip
      refine g_way hx hb h0 hS hown 1 (by decide) rfl kf155 dX6_doVialStep_123 ?_
      refine lv_goto (tgt := 132) hx hb dX6_doVialStep_126 (by decide) ?_
      exact g_aret hx hb hr hlocks hP hS dX6_doVialStep_132 (by unfold cVial; rw [if_neg (show ¬ (8 : Nat) = 0 by decide), if_neg (show ¬ (8 : Nat) = 1 by decide), if_neg (show ¬ (8 : Nat) = 2 by decide), if_neg (show ¬ (8 : Nat) = 3 by decide), if_neg (show ¬ (8 : Nat) = 4 by decide), if_neg (show ¬ (8 : Nat) = 5 by decide), if_neg (show ¬ (8 : Nat) = 6 by decide), if_neg (show ¬ (8 : Nat) = 7 by decide), if_pos (rfl : (8 : Nat) = 8), if_neg c_1])
  · skip
    refine lv_tableIn (off := 132) (tgt := 133) hx hb dX6_doVialStep_1 (by decide) (by decide) (by decide) (by decide) ?_
    refine lv_iload hx hb dX6_doVialStep_133 (lv_at hl 4 rfl) ?_
    refine lv_iload_n hx hb dX6_doVialStep_135 rfl (lv_at hl 2 rfl) ?_
    refine lv_icmp_ge (tgt := 145) hx hb dX6_doVialStep_136 (by decide) (fun c_2 => ?_) (fun c_2 => ?_)
    · skip
      refine g_way hx hb h0 hS hown 0 (by decide) rfl kf145 dX6_doVialStep_145 ?_
      exact g_aret hx hb hr hlocks hP hS dX6_doVialStep_148 (by unfold cVial; rw [if_neg (show ¬ (9 : Nat) = 0 by decide), if_neg (show ¬ (9 : Nat) = 1 by decide), if_neg (show ¬ (9 : Nat) = 2 by decide), if_neg (show ¬ (9 : Nat) = 3 by decide), if_neg (show ¬ (9 : Nat) = 4 by decide), if_neg (show ¬ (9 : Nat) = 5 by decide), if_neg (show ¬ (9 : Nat) = 6 by decide), if_neg (show ¬ (9 : Nat) = 7 by decide), if_neg (show ¬ (9 : Nat) = 8 by decide), if_pos c_2])
    · skip
      refine g_way hx hb h0 hS hown 2 (by decide) rfl kf198 dX6_doVialStep_139 ?_
      refine lv_goto (tgt := 148) hx hb dX6_doVialStep_142 (by decide) ?_
      exact g_aret hx hb hr hlocks hP hS dX6_doVialStep_148 (by unfold cVial; rw [if_neg (show ¬ (9 : Nat) = 0 by decide), if_neg (show ¬ (9 : Nat) = 1 by decide), if_neg (show ¬ (9 : Nat) = 2 by decide), if_neg (show ¬ (9 : Nat) = 3 by decide), if_neg (show ¬ (9 : Nat) = 4 by decide), if_neg (show ¬ (9 : Nat) = 5 by decide), if_neg (show ¬ (9 : Nat) = 6 by decide), if_neg (show ¬ (9 : Nat) = 7 by decide), if_neg (show ¬ (9 : Nat) = 8 by decide), if_neg c_2])

def cBench (σ : Mem) (kd j v : Nat) : Nat × Mem :=
  if kd = 10 then cUse σ j
  else if kd = 11 then cGrip σ j (σ 1 v)
  else if kd = 12 then (if (cNewRack σ ((nI j) - 10)).1 = 0 then cFail ((cNewRack σ ((nI j) - 10)).2) 6
    else (0, (cNewRack σ ((nI j) - 10)).2))
  else if kd = 13 then (if (cNewBox σ (((nI j) / 3) - 2) ((nI j) - (nI j) / 3 * 3)).1 = 0 then cFail ((cNewBox σ (((nI j) / 3) - 2) ((nI j) - (nI j) / 3 * 3)).2) 6
    else (0, (cNewBox σ (((nI j) / 3) - 2) ((nI j) - (nI j) / 3 * 3)).2))
  else if kd = 14 then (if (cNewGrid σ (((nI j) / 6) - 1) (((nI j) - (nI j) / 6 * 6) - 1)).1 = 0 then cFail ((cNewGrid σ (((nI j) / 6) - 1) (((nI j) - (nI j) / 6 * 6) - 1)).2) 6
    else (0, (cNewGrid σ (((nI j) / 6) - 1) (((nI j) - (nI j) / 6 * 6) - 1)).2))
  else if kd = 15 then cPut σ (j % 10) (j / 10)
  else if kd = 16 then (if cSizeOf σ j = (-4) then cFail σ 5
    else cAdd σ v (cSizeOf σ j))
  else if σ 4 j = 0 then cFail σ 5
  else cFailLaid σ (σ 4 j)
set_option maxHeartbeats 4000000 in
set_option maxRecDepth 100000 in
theorem c_doBenchStep (l : Launch) (D : va_G) (cy : Nat → ClassId) (ad wy : Nat → Nat) (mt : Nat) (hj : mJ 98 ad) (σ : Mem) (kd j v : Nat) (hk1 : 10 ≤ kd) (hkd : kd < 18) (hj200 : j ≤ 200) (hv : v < 8) (hj4 : 16 ≤ kd → j < 4) (hbx : ∀ pl : Nat, pl ≤ 200 → nI pl < σ 5 2 → pl < 18) : Met l yX6_doBenchStep wsX6_doBenchStep ({ frames := 2, cells := 0, slots := 0, locals := 45 }) (va_Pc [.ref (ad 0), .int (nI kd), .int (nI j), .int (nI v)] (gPre 98 ad (cF ad cy) D cy wy mt σ)) (gQ 98 ad (cF ad cy) D (some (.ref (wy (cBench σ kd j v).1))) (cBench σ kd j v).2) 0 0 (mA 98 ad) := by
  refine g_met (cc := cX6_doBenchStep) (maxL := 4) (ret := (some (.object "BenchRuns$Way"))) (by decide) rfl (Nat.le_of_ble_eq_true rfl) ?_
  intro p e s m below meth c S hr hlocks h0 ls hl
  obtain ⟨hx, hb, hml, hown, hts⟩ := S
  have hP := h0.1
  have hK := h0.2.1
  have hS : va_S (mA 98 ad) s.heap s.heap [] := va_S.rf
  have hl : lv_has ls 4 [(0, .ref (ad 0)), (1, .int (nI kd)), (2, .int (nI j)), (3, .int (nI v))] := hl
  have kf9 : (Cond.fieldLink RX6 9 "BenchRuns" "vialDrops" "[I").before (#[.ref (ad 0), .int (nI kd), .int (nI j), .int (nI v)] : Array Value) s = true := hts _ (by decide +kernel)
  have hinX6 : ∀ w ∈ u_ws RX6 TX6 7, w ∈ wsX6_doBenchStep := by decide +kernel
  have kf31 : (Cond.fieldLink RX6 31 "BenchRuns" "stock" "LBenchRuns$Stock;").before (#[.ref (ad 0), .int (nI kd), .int (nI j), .int (nI v)] : Array Value) s = true := hts _ (by decide +kernel)
  have kf38 : (Cond.fieldLink RX6 38 "BenchRuns" "log" "LBenchRuns$Log;").before (#[.ref (ad 0), .int (nI kd), .int (nI j), .int (nI v)] : Array Value) s = true := hts _ (by decide +kernel)
  have kf145 : (Cond.fieldLink RX6 145 "BenchRuns$Way" "ONWARD" "LBenchRuns$Way;").before (#[.ref (ad 0), .int (nI kd), .int (nI j), .int (nI v)] : Array Value) s = true := hts _ (by decide +kernel)
  have kf25 : (Cond.fieldLink RX6 25 "BenchRuns" "laid" "[I").before (#[.ref (ad 0), .int (nI kd), .int (nI j), .int (nI v)] : Array Value) s = true := hts _ (by decide +kernel)
  refine lv_iload_n hx hb dX6_doBenchStep_0 rfl (lv_at hl 1 rfl) ?_
  rcases (show kd = 10 ∨ kd = 11 ∨ kd = 12 ∨ kd = 13 ∨ kd = 14 ∨ kd = 15 ∨ kd = 16 ∨ kd = 17 by omega) with rfl | rfl | rfl | rfl | rfl | rfl | rfl | rfl
  · skip
    refine lv_tableIn (off := 47) (tgt := 48) hx hb dX6_doBenchStep_1 (by decide) (by decide) (by decide) (by decide) ?_
    refine lv_aload_n hx hb dX6_doBenchStep_48 rfl (lv_at hl 0 rfl) ?_
    refine lv_iload_n hx hb dX6_doBenchStep_49 rfl (lv_at hl 2 rfl) ?_
    refine g_callV (As := [.int (nI j)]) (rest := []) (N := 7) (T := TX6) (ci := 5) ⟨hx, hb, hml, hown, hts⟩ 0 (c_useTool l D cy ad wy mt hj σ j (by omega)) (cwV 1 hts gX6_doBenchStep_X6_useTool rfl rfl rfl (by decide +kernel) ⟨by decide, by decide⟩) h0 hP hS (by decide) cF_0 rfl rfl rfl hl.1 (Nat.le_of_ble_eq_true rfl) dX6_doBenchStep_50 ⟨Nat.zero_le _, Nat.zero_le _⟩ (fun H locs hP hS => ?_)
    exact g_aret hx hb hr hlocks hP hS dX6_doBenchStep_53 (by unfold cBench; rw [if_pos (rfl : (10 : Nat) = 10)])
  · skip
    refine lv_tableIn (off := 53) (tgt := 54) hx hb dX6_doBenchStep_1 (by decide) (by decide) (by decide) (by decide) ?_
    refine lv_aload_n hx hb dX6_doBenchStep_54 rfl (lv_at hl 0 rfl) ?_
    refine lv_iload_n hx hb dX6_doBenchStep_55 rfl (lv_at hl 2 rfl) ?_
    refine lv_aload_n hx hb dX6_doBenchStep_56 rfl (lv_at hl 0 rfl) ?_
    refine mw_get (ci := 5) (C := RX6) (T := TX6) (N := 7) (v := .ref (ad 1)) hx hb hts hinX6 hown hK hP 0 (by decide) cF_0 rfl 0 (by decide) kf9 (fun _ h9 => h9) rfl dX6_doBenchStep_57 ?_
    refine lv_iload_n hx hb dX6_doBenchStep_60 rfl (lv_at hl 3 rfl) ?_
    refine mw_ild hx hb hK hP 1 (by decide) 0 cF_1 rfl v (by omega) (by decide) rfl dX6_doBenchStep_61 ?_
    refine g_callV (As := [.int (nI j), .int (σ 1 v)]) (rest := []) (N := 7) (T := TX6) (ci := 5) ⟨hx, hb, hml, hown, hts⟩ 0 (c_gripTool l D cy ad wy mt hj σ j (by omega) (σ 1 v)) (cwV 2 hts gX6_doBenchStep_X6_gripTool rfl rfl rfl (by decide +kernel) ⟨by decide, by decide⟩) h0 hP hS (by decide) cF_0 rfl rfl rfl hl.1 (Nat.le_of_ble_eq_true rfl) dX6_doBenchStep_62 ⟨Nat.zero_le _, Nat.zero_le _⟩ (fun H locs hP hS => ?_)
    exact g_aret hx hb hr hlocks hP hS dX6_doBenchStep_65 (by unfold cBench; rw [if_neg (show ¬ (11 : Nat) = 10 by decide), if_pos (rfl : (11 : Nat) = 11)])
  · skip
    refine lv_tableIn (off := 65) (tgt := 66) hx hb dX6_doBenchStep_1 (by decide) (by decide) (by decide) (by decide) ?_
    refine lv_aload_n hx hb dX6_doBenchStep_66 rfl (lv_at hl 0 rfl) ?_
    refine mw_get (ci := 5) (C := RX6) (T := TX6) (N := 7) (v := .ref (ad 5)) hx hb hts hinX6 hown hK hP 0 (by decide) cF_0 rfl 4 (by decide) kf31 (fun _ h9 => h9) rfl dX6_doBenchStep_67 ?_
    refine lv_iload_n hx hb dX6_doBenchStep_70 rfl (lv_at hl 2 rfl) ?_
    refine lv_bipush (v := 10) hx hb dX6_doBenchStep_71 (by decide) ?_
    refine lv_isub hx hb dX6_doBenchStep_73 ?_
    refine g_callV (As := [.int ((nI j) - 10)]) (rest := []) (N := 6) (T := TX3) (ci := 3) ⟨hx, hb, hml, hown, hts⟩ 5 (c_newRack l D cy ad wy mt hj σ ((nI j) - 10)) (cwV 1 hts gX6_doBenchStep_X3_newRack rfl rfl rfl (by decide +kernel) ⟨by decide, by decide⟩) h0 hP hS (by decide) cF_5 rfl rfl rfl hl.1 (Nat.le_of_ble_eq_true rfl) dX6_doBenchStep_74 ⟨Nat.zero_le _, Nat.zero_le _⟩ (fun H locs hP hS => ?_)
    refine lv_if_eq (tgt := 86) hx hb dX6_doBenchStep_77 (by decide) (fun c_1 => ?_) (fun c_1 => ?_)
    · skip
      refine lv_aload_n hx hb dX6_doBenchStep_86 rfl (lv_at hl 0 rfl) ?_
      refine mw_get (ci := 5) (C := RX6) (T := TX6) (N := 7) (v := .ref (ad 7)) hx hb hts hinX6 hown hK hP 0 (by decide) cF_0 rfl 5 (by decide) kf38 (fun _ h9 => h9) rfl dX6_doBenchStep_87 ?_
      refine lv_bipush (v := 6) hx hb dX6_doBenchStep_90 (by decide) ?_
      refine g_callV (As := [.int 6]) (rest := []) (N := 7) (T := TX1) (ci := 1) ⟨hx, hb, hml, hown, hts⟩ 7 (c_fail l D cy ad wy mt hj ((cNewRack σ ((nI j) - 10)).2) 6) (cwV 1 hts gX6_doBenchStep_X1_fail rfl rfl rfl (by decide +kernel) ⟨by decide, by decide⟩) h0 hP hS (by decide) cF_7 rfl rfl rfl hl.1 (Nat.le_of_ble_eq_true rfl) dX6_doBenchStep_92 ⟨Nat.zero_le _, Nat.zero_le _⟩ (fun H locs hP hS => ?_)
      exact g_aret hx hb hr hlocks hP hS dX6_doBenchStep_95 (by unfold cBench; rw [if_neg (show ¬ (12 : Nat) = 10 by decide), if_neg (show ¬ (12 : Nat) = 11 by decide), if_pos (rfl : (12 : Nat) = 12), if_pos c_1])
    · skip
      refine g_way hx hb h0 hS hown 0 (by decide) rfl kf145 dX6_doBenchStep_80 ?_
      refine lv_goto (tgt := 95) hx hb dX6_doBenchStep_83 (by decide) ?_
      exact g_aret hx hb hr hlocks hP hS dX6_doBenchStep_95 (by unfold cBench; rw [if_neg (show ¬ (12 : Nat) = 10 by decide), if_neg (show ¬ (12 : Nat) = 11 by decide), if_pos (rfl : (12 : Nat) = 12), if_neg c_1])
  · skip
    refine lv_tableIn (off := 95) (tgt := 96) hx hb dX6_doBenchStep_1 (by decide) (by decide) (by decide) (by decide) ?_
    refine lv_aload_n hx hb dX6_doBenchStep_96 rfl (lv_at hl 0 rfl) ?_
    refine mw_get (ci := 5) (C := RX6) (T := TX6) (N := 7) (v := .ref (ad 5)) hx hb hts hinX6 hown hK hP 0 (by decide) cF_0 rfl 4 (by decide) kf31 (fun _ h9 => h9) rfl dX6_doBenchStep_97 ?_
    refine lv_iload_n hx hb dX6_doBenchStep_100 rfl (lv_at hl 2 rfl) ?_
    refine lv_iconst (v := 3) hx hb dX6_doBenchStep_101 (by decide) ?_
    refine lv_idiv hx hb dX6_doBenchStep_102 (by decide) ?_
    refine lv_iconst (v := 2) hx hb dX6_doBenchStep_103 (by decide) ?_
    refine lv_isub hx hb dX6_doBenchStep_104 ?_
    refine lv_iload_n hx hb dX6_doBenchStep_105 rfl (lv_at hl 2 rfl) ?_
    refine lv_iconst (v := 3) hx hb dX6_doBenchStep_106 (by decide) ?_
    refine lv_irem hx hb dX6_doBenchStep_107 (by decide) ?_
    refine g_callV (As := [.int (((nI j) / 3) - 2), .int ((nI j) - (nI j) / 3 * 3)]) (rest := []) (N := 6) (T := TX3) (ci := 3) ⟨hx, hb, hml, hown, hts⟩ 5 (c_newBox l D cy ad wy mt hj σ (((nI j) / 3) - 2) ((nI j) - (nI j) / 3 * 3)) (cwV 2 hts gX6_doBenchStep_X3_newBox rfl rfl rfl (by decide +kernel) ⟨by decide, by decide⟩) h0 hP hS (by decide) cF_5 rfl rfl rfl hl.1 (Nat.le_of_ble_eq_true rfl) dX6_doBenchStep_108 ⟨Nat.zero_le _, Nat.zero_le _⟩ (fun H locs hP hS => ?_)
    refine lv_if_eq (tgt := 120) hx hb dX6_doBenchStep_111 (by decide) (fun c_2 => ?_) (fun c_2 => ?_)
    · skip
      refine lv_aload_n hx hb dX6_doBenchStep_120 rfl (lv_at hl 0 rfl) ?_
      refine mw_get (ci := 5) (C := RX6) (T := TX6) (N := 7) (v := .ref (ad 7)) hx hb hts hinX6 hown hK hP 0 (by decide) cF_0 rfl 5 (by decide) kf38 (fun _ h9 => h9) rfl dX6_doBenchStep_121 ?_
      refine lv_bipush (v := 6) hx hb dX6_doBenchStep_124 (by decide) ?_
      refine g_callV (As := [.int 6]) (rest := []) (N := 7) (T := TX1) (ci := 1) ⟨hx, hb, hml, hown, hts⟩ 7 (c_fail l D cy ad wy mt hj ((cNewBox σ (((nI j) / 3) - 2) ((nI j) - (nI j) / 3 * 3)).2) 6) (cwV 1 hts gX6_doBenchStep_X1_fail rfl rfl rfl (by decide +kernel) ⟨by decide, by decide⟩) h0 hP hS (by decide) cF_7 rfl rfl rfl hl.1 (Nat.le_of_ble_eq_true rfl) dX6_doBenchStep_126 ⟨Nat.zero_le _, Nat.zero_le _⟩ (fun H locs hP hS => ?_)
      exact g_aret hx hb hr hlocks hP hS dX6_doBenchStep_129 (by unfold cBench; rw [if_neg (show ¬ (13 : Nat) = 10 by decide), if_neg (show ¬ (13 : Nat) = 11 by decide), if_neg (show ¬ (13 : Nat) = 12 by decide), if_pos (rfl : (13 : Nat) = 13), if_pos c_2])
    · skip
      refine g_way hx hb h0 hS hown 0 (by decide) rfl kf145 dX6_doBenchStep_114 ?_
      refine lv_goto (tgt := 129) hx hb dX6_doBenchStep_117 (by decide) ?_
      exact g_aret hx hb hr hlocks hP hS dX6_doBenchStep_129 (by unfold cBench; rw [if_neg (show ¬ (13 : Nat) = 10 by decide), if_neg (show ¬ (13 : Nat) = 11 by decide), if_neg (show ¬ (13 : Nat) = 12 by decide), if_pos (rfl : (13 : Nat) = 13), if_neg c_2])
  · skip
    refine lv_tableIn (off := 129) (tgt := 130) hx hb dX6_doBenchStep_1 (by decide) (by decide) (by decide) (by decide) ?_
    refine lv_aload_n hx hb dX6_doBenchStep_130 rfl (lv_at hl 0 rfl) ?_
    refine mw_get (ci := 5) (C := RX6) (T := TX6) (N := 7) (v := .ref (ad 5)) hx hb hts hinX6 hown hK hP 0 (by decide) cF_0 rfl 4 (by decide) kf31 (fun _ h9 => h9) rfl dX6_doBenchStep_131 ?_
    refine lv_iload_n hx hb dX6_doBenchStep_134 rfl (lv_at hl 2 rfl) ?_
    refine lv_bipush (v := 6) hx hb dX6_doBenchStep_135 (by decide) ?_
    refine lv_idiv hx hb dX6_doBenchStep_137 (by decide) ?_
    refine lv_iconst (v := 1) hx hb dX6_doBenchStep_138 (by decide) ?_
    refine lv_isub hx hb dX6_doBenchStep_139 ?_
    refine lv_iload_n hx hb dX6_doBenchStep_140 rfl (lv_at hl 2 rfl) ?_
    refine lv_bipush (v := 6) hx hb dX6_doBenchStep_141 (by decide) ?_
    refine lv_irem hx hb dX6_doBenchStep_143 (by decide) ?_
    refine lv_iconst (v := 1) hx hb dX6_doBenchStep_144 (by decide) ?_
    refine lv_isub hx hb dX6_doBenchStep_145 ?_
    refine g_callV (As := [.int (((nI j) / 6) - 1), .int (((nI j) - (nI j) / 6 * 6) - 1)]) (rest := []) (N := 6) (T := TX3) (ci := 3) ⟨hx, hb, hml, hown, hts⟩ 5 (c_newGrid l D cy ad wy mt hj σ (((nI j) / 6) - 1) (((nI j) - (nI j) / 6 * 6) - 1)) (cwV 2 hts gX6_doBenchStep_X3_newGrid rfl rfl rfl (by decide +kernel) ⟨by decide, by decide⟩) h0 hP hS (by decide) cF_5 rfl rfl rfl hl.1 (Nat.le_of_ble_eq_true rfl) dX6_doBenchStep_146 ⟨Nat.zero_le _, Nat.zero_le _⟩ (fun H locs hP hS => ?_)
    refine lv_if_eq (tgt := 158) hx hb dX6_doBenchStep_149 (by decide) (fun c_3 => ?_) (fun c_3 => ?_)
    · skip
      refine lv_aload_n hx hb dX6_doBenchStep_158 rfl (lv_at hl 0 rfl) ?_
      refine mw_get (ci := 5) (C := RX6) (T := TX6) (N := 7) (v := .ref (ad 7)) hx hb hts hinX6 hown hK hP 0 (by decide) cF_0 rfl 5 (by decide) kf38 (fun _ h9 => h9) rfl dX6_doBenchStep_159 ?_
      refine lv_bipush (v := 6) hx hb dX6_doBenchStep_162 (by decide) ?_
      refine g_callV (As := [.int 6]) (rest := []) (N := 7) (T := TX1) (ci := 1) ⟨hx, hb, hml, hown, hts⟩ 7 (c_fail l D cy ad wy mt hj ((cNewGrid σ (((nI j) / 6) - 1) (((nI j) - (nI j) / 6 * 6) - 1)).2) 6) (cwV 1 hts gX6_doBenchStep_X1_fail rfl rfl rfl (by decide +kernel) ⟨by decide, by decide⟩) h0 hP hS (by decide) cF_7 rfl rfl rfl hl.1 (Nat.le_of_ble_eq_true rfl) dX6_doBenchStep_164 ⟨Nat.zero_le _, Nat.zero_le _⟩ (fun H locs hP hS => ?_)
      exact g_aret hx hb hr hlocks hP hS dX6_doBenchStep_167 (by unfold cBench; rw [if_neg (show ¬ (14 : Nat) = 10 by decide), if_neg (show ¬ (14 : Nat) = 11 by decide), if_neg (show ¬ (14 : Nat) = 12 by decide), if_neg (show ¬ (14 : Nat) = 13 by decide), if_pos (rfl : (14 : Nat) = 14), if_pos c_3])
    · skip
      refine g_way hx hb h0 hS hown 0 (by decide) rfl kf145 dX6_doBenchStep_152 ?_
      refine lv_goto (tgt := 167) hx hb dX6_doBenchStep_155 (by decide) ?_
      exact g_aret hx hb hr hlocks hP hS dX6_doBenchStep_167 (by unfold cBench; rw [if_neg (show ¬ (14 : Nat) = 10 by decide), if_neg (show ¬ (14 : Nat) = 11 by decide), if_neg (show ¬ (14 : Nat) = 12 by decide), if_neg (show ¬ (14 : Nat) = 13 by decide), if_pos (rfl : (14 : Nat) = 14), if_neg c_3])
  · skip
    refine lv_tableIn (off := 167) (tgt := 168) hx hb dX6_doBenchStep_1 (by decide) (by decide) (by decide) (by decide) ?_
    refine lv_aload_n hx hb dX6_doBenchStep_168 rfl (lv_at hl 0 rfl) ?_
    refine lv_iload_n hx hb dX6_doBenchStep_169 rfl (lv_at hl 2 rfl) ?_
    refine lv_bipush (v := 10) hx hb dX6_doBenchStep_170 (by decide) ?_
    refine lv_irem hx hb dX6_doBenchStep_172 (by decide) ?_
    refine g_top (y := nI (j % 10)) (pk_rem (d := 10) (by omega) (by decide) (by decide)) ?_
    refine lv_iload_n hx hb dX6_doBenchStep_173 rfl (lv_at hl 2 rfl) ?_
    refine lv_bipush (v := 10) hx hb dX6_doBenchStep_174 (by decide) ?_
    refine lv_idiv hx hb dX6_doBenchStep_176 (by decide) ?_
    have hbx := hbx (j / 10) (by omega)
    refine g_top (y := nI (j / 10)) (pk_div (d := 10) (by omega) (by decide) (by decide)) ?_
    refine g_callV (As := [.int (nI (j % 10)), .int (nI (j / 10))]) (rest := []) (N := 7) (T := TX6) (ci := 5) ⟨hx, hb, hml, hown, hts⟩ 0 (c_putTool l D cy ad wy mt hj σ (j % 10) (j / 10) (by omega) (by omega) hbx) (cwV 2 hts gX6_doBenchStep_X6_putTool rfl rfl rfl (by decide +kernel) ⟨by decide, by decide⟩) h0 hP hS (by decide) cF_0 rfl rfl rfl hl.1 (Nat.le_of_ble_eq_true rfl) dX6_doBenchStep_177 ⟨Nat.zero_le _, Nat.zero_le _⟩ (fun H locs hP hS => ?_)
    exact g_aret hx hb hr hlocks hP hS dX6_doBenchStep_180 (by unfold cBench; rw [if_neg (show ¬ (15 : Nat) = 10 by decide), if_neg (show ¬ (15 : Nat) = 11 by decide), if_neg (show ¬ (15 : Nat) = 12 by decide), if_neg (show ¬ (15 : Nat) = 13 by decide), if_neg (show ¬ (15 : Nat) = 14 by decide), if_pos (rfl : (15 : Nat) = 15)])
  · skip
    refine lv_tableIn (off := 180) (tgt := 181) hx hb dX6_doBenchStep_1 (by decide) (by decide) (by decide) (by decide) ?_
    have hj4 := hj4 (by decide)
    refine lv_aload_n hx hb dX6_doBenchStep_181 rfl (lv_at hl 0 rfl) ?_
    refine mw_get (ci := 5) (C := RX6) (T := TX6) (N := 7) (v := .ref (ad 5)) hx hb hts hinX6 hown hK hP 0 (by decide) cF_0 rfl 4 (by decide) kf31 (fun _ h9 => h9) rfl dX6_doBenchStep_182 ?_
    refine lv_iload_n hx hb dX6_doBenchStep_185 rfl (lv_at hl 2 rfl) ?_
    refine g_callV (As := [.int (nI j)]) (rest := []) (N := 6) (T := TX3) (ci := 3) ⟨hx, hb, hml, hown, hts⟩ 5 (c_sizeOf l D cy ad wy mt hj σ j (by omega)) (cwV 1 hts gX6_doBenchStep_X3_sizeOf rfl rfl rfl (by decide +kernel) ⟨by decide, by decide⟩) h0 hP hS (by decide) cF_5 rfl rfl rfl hl.1 (Nat.le_of_ble_eq_true rfl) dX6_doBenchStep_186 ⟨Nat.zero_le _, Nat.zero_le _⟩ (fun H locs hP hS => ?_)
    refine lv_bipush (v := (-4)) hx hb dX6_doBenchStep_189 (by decide) ?_
    refine lv_icmp_ne (tgt := 205) hx hb dX6_doBenchStep_191 (by decide) (fun c_4 => ?_) (fun c_4 => ?_)
    · skip
      refine lv_aload_n hx hb dX6_doBenchStep_205 rfl (lv_at hl 0 rfl) ?_
      refine lv_iload_n hx hb dX6_doBenchStep_206 rfl (lv_at hl 3 rfl) ?_
      refine lv_aload_n hx hb dX6_doBenchStep_207 rfl (lv_at hl 0 rfl) ?_
      refine mw_get (ci := 5) (C := RX6) (T := TX6) (N := 7) (v := .ref (ad 5)) hx hb hts hinX6 hown hK hP 0 (by decide) cF_0 rfl 4 (by decide) kf31 (fun _ h9 => h9) rfl dX6_doBenchStep_208 ?_
      refine lv_iload_n hx hb dX6_doBenchStep_211 rfl (lv_at hl 2 rfl) ?_
      refine g_callV (As := [.int (nI j)]) (rest := [.int (nI v), .ref (ad 0)]) (N := 6) (T := TX3) (ci := 3) ⟨hx, hb, hml, hown, hts⟩ 5 (c_sizeOf l D cy ad wy mt hj σ j (by omega)) (cwV 1 hts gX6_doBenchStep_X3_sizeOf rfl rfl rfl (by decide +kernel) ⟨by decide, by decide⟩) h0 hP hS (by decide) cF_5 rfl rfl rfl hl.1 (Nat.le_of_ble_eq_true rfl) dX6_doBenchStep_212 ⟨Nat.zero_le _, Nat.zero_le _⟩ (fun H locs hP hS => ?_)
      refine g_callV (As := [.int (nI v), .int (cSizeOf σ j)]) (rest := []) (N := 7) (T := TX6) (ci := 5) ⟨hx, hb, hml, hown, hts⟩ 0 (c_addDrops l D cy ad wy mt hj σ v (by omega) (cSizeOf σ j)) (cwV 2 hts gX6_doBenchStep_X6_addDrops rfl rfl rfl (by decide +kernel) ⟨by decide, by decide⟩) h0 hP hS (by decide) cF_0 rfl rfl rfl hl.1 (Nat.le_of_ble_eq_true rfl) dX6_doBenchStep_215 ⟨Nat.zero_le _, Nat.zero_le _⟩ (fun H locs hP hS => ?_)
      exact g_aret hx hb hr hlocks hP hS dX6_doBenchStep_218 (by unfold cBench; rw [if_neg (show ¬ (16 : Nat) = 10 by decide), if_neg (show ¬ (16 : Nat) = 11 by decide), if_neg (show ¬ (16 : Nat) = 12 by decide), if_neg (show ¬ (16 : Nat) = 13 by decide), if_neg (show ¬ (16 : Nat) = 14 by decide), if_neg (show ¬ (16 : Nat) = 15 by decide), if_pos (rfl : (16 : Nat) = 16), if_neg c_4])
    · skip
      refine lv_aload_n hx hb dX6_doBenchStep_194 rfl (lv_at hl 0 rfl) ?_
      refine mw_get (ci := 5) (C := RX6) (T := TX6) (N := 7) (v := .ref (ad 7)) hx hb hts hinX6 hown hK hP 0 (by decide) cF_0 rfl 5 (by decide) kf38 (fun _ h9 => h9) rfl dX6_doBenchStep_195 ?_
      refine lv_iconst (v := 5) hx hb dX6_doBenchStep_198 (by decide) ?_
      refine g_callV (As := [.int 5]) (rest := []) (N := 7) (T := TX1) (ci := 1) ⟨hx, hb, hml, hown, hts⟩ 7 (c_fail l D cy ad wy mt hj σ 5) (cwV 1 hts gX6_doBenchStep_X1_fail rfl rfl rfl (by decide +kernel) ⟨by decide, by decide⟩) h0 hP hS (by decide) cF_7 rfl rfl rfl hl.1 (Nat.le_of_ble_eq_true rfl) dX6_doBenchStep_199 ⟨Nat.zero_le _, Nat.zero_le _⟩ (fun H locs hP hS => ?_)
      refine lv_goto (tgt := 218) hx hb dX6_doBenchStep_202 (by decide) ?_
      exact g_aret hx hb hr hlocks hP hS dX6_doBenchStep_218 (by unfold cBench; rw [if_neg (show ¬ (16 : Nat) = 10 by decide), if_neg (show ¬ (16 : Nat) = 11 by decide), if_neg (show ¬ (16 : Nat) = 12 by decide), if_neg (show ¬ (16 : Nat) = 13 by decide), if_neg (show ¬ (16 : Nat) = 14 by decide), if_neg (show ¬ (16 : Nat) = 15 by decide), if_pos (rfl : (16 : Nat) = 16), if_pos c_4])
  · skip
    refine lv_tableIn (off := 218) (tgt := 219) hx hb dX6_doBenchStep_1 (by decide) (by decide) (by decide) (by decide) ?_
    have hj4 := hj4 (by decide)
    refine lv_aload_n hx hb dX6_doBenchStep_219 rfl (lv_at hl 0 rfl) ?_
    refine mw_get (ci := 5) (C := RX6) (T := TX6) (N := 7) (v := .ref (ad 4)) hx hb hts hinX6 hown hK hP 0 (by decide) cF_0 rfl 3 (by decide) kf25 (fun _ h9 => h9) rfl dX6_doBenchStep_220 ?_
    refine lv_iload_n hx hb dX6_doBenchStep_223 rfl (lv_at hl 2 rfl) ?_
    refine mw_ild hx hb hK hP 4 (by decide) 0 cF_4 rfl j (by omega) (by decide) rfl dX6_doBenchStep_224 ?_
    refine lv_if_ne (tgt := 239) hx hb dX6_doBenchStep_225 (by decide) (fun c_5 => ?_) (fun c_5 => ?_)
    · skip
      refine lv_aload_n hx hb dX6_doBenchStep_239 rfl (lv_at hl 0 rfl) ?_
      refine mw_get (ci := 5) (C := RX6) (T := TX6) (N := 7) (v := .ref (ad 7)) hx hb hts hinX6 hown hK hP 0 (by decide) cF_0 rfl 5 (by decide) kf38 (fun _ h9 => h9) rfl dX6_doBenchStep_240 ?_
      refine lv_aload_n hx hb dX6_doBenchStep_243 rfl (lv_at hl 0 rfl) ?_
      refine mw_get (ci := 5) (C := RX6) (T := TX6) (N := 7) (v := .ref (ad 4)) hx hb hts hinX6 hown hK hP 0 (by decide) cF_0 rfl 3 (by decide) kf25 (fun _ h9 => h9) rfl dX6_doBenchStep_244 ?_
      refine lv_iload_n hx hb dX6_doBenchStep_247 rfl (lv_at hl 2 rfl) ?_
      refine mw_ild hx hb hK hP 4 (by decide) 0 cF_4 rfl j (by omega) (by decide) rfl dX6_doBenchStep_248 ?_
      refine g_callV (As := [.int (σ 4 j)]) (rest := []) (N := 7) (T := TX1) (ci := 1) ⟨hx, hb, hml, hown, hts⟩ 7 (c_failAsLaid l D cy ad wy mt hj σ (σ 4 j)) (cwV 1 hts gX6_doBenchStep_X1_failAsLaid rfl rfl rfl (by decide +kernel) ⟨by decide, by decide⟩) h0 hP hS (by decide) cF_7 rfl rfl rfl hl.1 (Nat.le_of_ble_eq_true rfl) dX6_doBenchStep_249 ⟨Nat.zero_le _, Nat.zero_le _⟩ (fun H locs hP hS => ?_)
      exact g_aret hx hb hr hlocks hP hS dX6_doBenchStep_252 (by unfold cBench; rw [if_neg (show ¬ (17 : Nat) = 10 by decide), if_neg (show ¬ (17 : Nat) = 11 by decide), if_neg (show ¬ (17 : Nat) = 12 by decide), if_neg (show ¬ (17 : Nat) = 13 by decide), if_neg (show ¬ (17 : Nat) = 14 by decide), if_neg (show ¬ (17 : Nat) = 15 by decide), if_neg (show ¬ (17 : Nat) = 16 by decide), if_neg c_5])
    · skip
      refine lv_aload_n hx hb dX6_doBenchStep_228 rfl (lv_at hl 0 rfl) ?_
      refine mw_get (ci := 5) (C := RX6) (T := TX6) (N := 7) (v := .ref (ad 7)) hx hb hts hinX6 hown hK hP 0 (by decide) cF_0 rfl 5 (by decide) kf38 (fun _ h9 => h9) rfl dX6_doBenchStep_229 ?_
      refine lv_iconst (v := 5) hx hb dX6_doBenchStep_232 (by decide) ?_
      refine g_callV (As := [.int 5]) (rest := []) (N := 7) (T := TX1) (ci := 1) ⟨hx, hb, hml, hown, hts⟩ 7 (c_fail l D cy ad wy mt hj σ 5) (cwV 1 hts gX6_doBenchStep_X1_fail rfl rfl rfl (by decide +kernel) ⟨by decide, by decide⟩) h0 hP hS (by decide) cF_7 rfl rfl rfl hl.1 (Nat.le_of_ble_eq_true rfl) dX6_doBenchStep_233 ⟨Nat.zero_le _, Nat.zero_le _⟩ (fun H locs hP hS => ?_)
      refine lv_goto (tgt := 252) hx hb dX6_doBenchStep_236 (by decide) ?_
      exact g_aret hx hb hr hlocks hP hS dX6_doBenchStep_252 (by unfold cBench; rw [if_neg (show ¬ (17 : Nat) = 10 by decide), if_neg (show ¬ (17 : Nat) = 11 by decide), if_neg (show ¬ (17 : Nat) = 12 by decide), if_neg (show ¬ (17 : Nat) = 13 by decide), if_neg (show ¬ (17 : Nat) = 14 by decide), if_neg (show ¬ (17 : Nat) = 15 by decide), if_neg (show ¬ (17 : Nat) = 16 by decide), if_pos c_5])
end
section
/-! What a run keeps: bounds of the log's counters and of the box (rOK x), and the rounds and batches as they are (kR, cR). -/
def evB (σ : Mem) (x : Nat) : Prop := ∃ k li : Nat, σ 7 2 = nI k ∧ σ 8 5 = nI li ∧ li ≤ 200 ∧ k ≤ 2 * li + x
def lgK (σ : Mem) : Prop := (∃ k : Nat, k ≤ 24 ∧ σ 7 4 = nI k) ∧ ∃ k : Nat, k ≤ 4 ∧ σ 7 6 = nI k
def bxK (σ : Mem) : Prop := σ 5 2 = (-4) ∨ ∃ k : Nat, k ≤ 18 ∧ σ 5 2 = nI k
def rOK (x : Nat) (σ : Mem) : Prop := evB σ x ∧ lgK σ ∧ bxK σ
def cR (σ : Mem) : Prop := (∀ q : Nat, q < 24 → (∃ k : Nat, k ≤ 8 ∧ σ (26 + q) 2 = nI k) ∧ (∃ v : Nat, v ≤ 9 ∧ σ (26 + q) 3 = nI v) ∧ ∀ k : Nat, k < 8 → ∃ kd j : Nat, kd < 18 ∧ j ≤ 200 ∧ σ (50 + q) k = nI kd ∧ σ (74 + q) k = nI j ∧ (16 ≤ kd → j < 4)) ∧ ∀ b : Nat, b < 4 → ∃ k : Nat, k ≤ 6 ∧ σ (12 + b) 1 = nI k
/-- rounds and batches are the same -/
def kR (σ σ' : Mem) : Prop := ∀ i : Nat, ((12 ≤ i ∧ i < 20) ∨ 26 ≤ i) → σ' i = σ i
theorem kR.rf (σ : Mem) : kR σ σ := fun _ _ => rfl
theorem kR.tr {σ σ1 σ2 : Mem} (h1 : kR σ σ1) (h2 : kR σ1 σ2) : kR σ σ2 := fun i hi => (h2 i hi).trans (h1 i hi)
theorem kR.set {σ σ1 : Mem} (h : kR σ σ1) {i k : Nat} {v : Int32} (hi : i < 12 ∨ (20 ≤ i ∧ i < 26)) : kR σ (mset σ1 i k v) := fun j hj => by
  rw [mset_nc (by omega)]
  exact h j hj
theorem kR.cR {σ σ' : Mem} (h : kR σ σ') (hR : cR σ) : cR σ' := by
  refine ⟨fun q hq => ?_, fun b hb => ?_⟩
  · obtain ⟨h1, h2, h3⟩ := hR.1 q hq
    rw [h (26 + q) (by omega), h (50 + q) (by omega), h (74 + q) (by omega)]
    exact ⟨h1, h2, h3⟩
  · rw [h (12 + b) (by omega)]
    exact hR.2 b hb
theorem rOK.le {x y : Nat} {σ : Mem} (h : rOK x σ) (hxy : x ≤ y) : rOK y σ := by
  obtain ⟨⟨k, li, h1, h2, h3, h4⟩, h5⟩ := h
  exact ⟨⟨k, li, h1, h2, h3, by omega⟩, h5⟩
theorem rOK.of {x : Nat} {σ σ' : Mem} (h : rOK x σ) (h7 : σ' 7 = σ 7) (h8 : σ' 8 = σ 8) (h5 : σ' 5 2 = σ 5 2) : rOK x σ' := by
  obtain ⟨h1, h2, h3⟩ := h
  refine ⟨?_, ?_, ?_⟩
  · unfold evB; rw [h7, h8]; exact h1
  · unfold lgK; rw [h7]; exact h2
  · unfold bxK; rw [h5]; exact h3
theorem rOK.set {x : Nat} {σ : Mem} (h : rOK x σ) {i k : Nat} {v : Int32} (hi : i ≠ 7 ∧ i ≠ 8 ∧ (i ≠ 5 ∨ k ≠ 2)) : rOK x (mset σ i k v) :=
  h.of (mset_nc (Ne.symm hi.1)) (mset_nc (Ne.symm hi.2.1)) (mset_ne (by omega))
theorem rOK.chain {x : Nat} {σ : Mem} (h : rOK x σ) {k : Nat} (hk : k ≤ 4) : rOK x (mset σ 7 6 (nI k)) := by
  obtain ⟨⟨a, b, h1, h2, h3⟩, h4, h5⟩ := h
  refine ⟨⟨a, b, ?_, ?_, h3⟩, ⟨?_, k, hk, mset_self _ _ _ _⟩, ?_⟩
  · rw [mset_ne (by omega)]; exact h1
  · rw [mset_ne (by omega)]; exact h2
  · rw [mset_ne (by omega)]; exact h4.1
  · unfold bxK; rw [mset_ne (by omega)]; exact h5
theorem rOK.ec {x : Nat} {σ : Mem} (h : rOK x σ) (hx : x ≤ 1000) : ¬ (400 : Int32) ≤ σ 7 2 → vp_in (σ 7 2) 400 := by
  obtain ⟨⟨k, li, h1, h2, h3, h4⟩, -⟩ := h
  intro hc
  rw [h1] at hc ⊢
  exact vp_in_nI (Nat.not_le.mp fun q => hc ((nI_leI (a := 400) (by decide) (by omega)).mpr q)) (by decide)
theorem rOK_mark {x ev : Nat} {σ : Mem} (h : rOK x σ) (hx : x ≤ 900) (h5 : ev ≠ 5) : rOK (x + 1) (cMark σ ev) := by
  obtain ⟨⟨k, li, h1, h2, h3, h4⟩, h6, h7⟩ := h
  have e1 : ∀ σ1 : Mem, σ1 7 2 = nI (k + 1) → σ1 8 5 = σ 8 5 → σ1 7 4 = σ 7 4 → σ1 7 6 = σ 7 6 → σ1 5 2 = σ 5 2 → rOK (x + 1) σ1 := by
    intro σ1 a1 a2 a3 a4 a5
    refine ⟨⟨k + 1, li, a1, a2.trans h2, h3, by omega⟩, ?_, ?_⟩
    · unfold lgK; rw [a3, a4]; exact h6
    · unfold bxK; rw [a5]; exact h7
  unfold cMark
  split
  · refine e1 _ ?_ ?_ ?_ ?_ ?_
    · rw [mset_self, h1, nI_1]
    · rw [mset_ne (by omega), mset_ne (by omega)]
    · rw [mset_ne (by omega), mset_ne (by omega)]
    · rw [mset_ne (by omega), mset_ne (by omega)]
    · rw [mset_ne (by omega), mset_ne (by omega)]
  · refine e1 _ ?_ ?_ ?_ ?_ ?_
    · rw [mset_self, h1, nI_1]
    · rw [mset_ne (by omega), mset_ne (by omega), mset_ne (by omega)]
    · rw [mset_ne (by omega), mset_ne (by omega), mset_ne (by omega)]
    · rw [mset_ne (by omega), mset_ne (by omega), mset_ne (by omega)]
    · rw [mset_ne (by omega), mset_ne (by omega), mset_ne (by omega)]
theorem rOK_lit {x : Nat} {σ : Mem} (h : rOK (x + 1) σ) (hx : x ≤ 900) (hl : σ 8 5 < 200) : rOK x (cMark σ 5) := by
  obtain ⟨⟨k, li, h1, h2, h3, h4⟩, h6, h7⟩ := h
  have hli : li < 200 := by
    rw [h2] at hl
    exact (nI_ltI (b := 200) (by omega) (by decide)).mp hl
  have e1 : ∀ σ1 : Mem, σ1 7 2 = nI (k + 1) → σ1 8 5 = nI (li + 1) → σ1 7 4 = σ 7 4 → σ1 7 6 = σ 7 6 → σ1 5 2 = σ 5 2 → rOK x σ1 := by
    intro σ1 a1 a2 a3 a4 a5
    refine ⟨⟨k + 1, li + 1, a1, a2, by omega, by omega⟩, ?_, ?_⟩
    · unfold lgK; rw [a3, a4]; exact h6
    · unfold bxK; rw [a5]; exact h7
  unfold cMark
  split
  · refine e1 _ ?_ ?_ ?_ ?_ ?_
    · rw [mset_self, h1, nI_1]
    · rw [mset_ne (by omega), mset_self, h2, nI_1]
    · rw [mset_ne (by omega), mset_ne (by omega)]
    · rw [mset_ne (by omega), mset_ne (by omega)]
    · rw [mset_ne (by omega), mset_ne (by omega)]
  · refine e1 _ ?_ ?_ ?_ ?_ ?_
    · rw [mset_self, h1, nI_1]
    · rw [mset_ne (by omega), mset_ne (by omega), mset_self, h2, nI_1]
    · rw [mset_ne (by omega), mset_ne (by omega), mset_ne (by omega)]
    · rw [mset_ne (by omega), mset_ne (by omega), mset_ne (by omega)]
    · rw [mset_ne (by omega), mset_ne (by omega), mset_ne (by omega)]
theorem kR_mark (σ : Mem) (ev : Nat) : kR σ (cMark σ ev) := by
  unfold cMark
  split
  · exact ((kR.rf σ).set (by omega)).set (by omega)
  · exact (((kR.rf σ).set (by omega)).set (by omega)).set (by omega)
/-- what each step keeps: the bounds, the rounds, and the answer is a kind of way -/
def sOK (σ : Mem) (r : Nat × Mem) : Prop := r.1 < 7 ∧ kR σ r.2 ∧ ∀ x : Nat, rOK x σ → rOK x r.2
theorem sOK_same (σ : Mem) {k : Nat} (hk : k < 7) : sOK σ (k, σ) := ⟨hk, kR.rf σ, fun _ h => h⟩
theorem sOK_fail (σ : Mem) (n : Int32) : sOK σ (cFail σ n) := by
  have e1 : ∀ (a b : Int32) (k : Nat), k ≤ 4 → sOK σ (5, mset (mset (mset σ 11 0 a) 11 1 b) 7 6 (nI k)) := fun a b k hk =>
    ⟨by show (5 : Nat) < 7; decide, (((kR.rf σ).set (by omega)).set (by omega)).set (by omega), fun x h => ((h.set (by omega)).set (by omega)).chain hk⟩
  unfold cFail
  split
  · exact e1 _ _ 1 (by decide)
  · split
    · exact e1 _ _ 1 (by decide)
    · exact e1 _ _ 2 (by decide)
theorem sOK_failLaid (σ : Mem) (n : Int32) : sOK σ (cFailLaid σ n) :=
  ⟨by show (5 : Nat) < 7; decide, ((kR.rf σ).set (by omega)).set (by omega), fun x h => (h.set (by omega)).chain (k := 1) (by decide)⟩
theorem sOK_set (σ : Mem) {i k : Nat} {v : Int32} (hi : i < 12 ∨ (20 ≤ i ∧ i < 26)) (h2 : i ≠ 7 ∧ i ≠ 8 ∧ (i ≠ 5 ∨ k ≠ 2)) : sOK σ (0, mset σ i k v) := ⟨by show (0 : Nat) < 7; decide, (kR.rf σ).set hi, fun _ h => h.set h2⟩
theorem sOK_add (σ : Mem) (v : Nat) (n : Int32) : sOK σ (cAdd σ v n) := by
  unfold cAdd
  split
  · exact sOK_set σ (by omega) (by omega)
  · exact sOK_fail σ 1
theorem sOK_draw (σ : Mem) (v : Nat) (n : Int32) : sOK σ (cDraw σ v n) := by
  unfold cDraw
  split
  · exact sOK_set σ (by omega) (by omega)
  · exact sOK_fail σ 2
theorem sOK_share (σ : Mem) (v : Nat) (n : Int32) : sOK σ (cShare σ v n) := by
  unfold cShare
  split
  · exact sOK_fail σ 3
  · exact sOK_set σ (by omega) (by omega)
theorem sOK_pour (σ : Mem) (v t : Nat) : sOK σ (cPour σ v t) := by
  unfold cPour
  split
  · split
    · exact sOK_fail σ 5
    · split
      · exact sOK_same σ (by decide)
      · split
        · exact ⟨by show (0 : Nat) < 7; decide, ((kR.rf σ).set (by omega)).set (by omega), fun _ h => (h.set (by omega)).set (by omega)⟩
        · exact sOK_fail σ 1
  · exact sOK_fail σ 4
theorem nI6 {t : Nat} (ht : t ≤ 200) (h : nI t < 6) : t < 6 := (nI_ltI (b := 6) (by omega) (by decide)).mp h
theorem sOK_use (σ : Mem) {t : Nat} (ht : t ≤ 200) : sOK σ (cUse σ t) := by
  unfold cUse
  split
  · rename_i h
    have h6 := nI6 ht h
    split
    · exact sOK_fail σ 5
    · exact sOK_set σ (by omega) (by omega)
  · exact sOK_fail σ 4
theorem sOK_grip (σ : Mem) {t : Nat} (ht : t ≤ 200) (n : Int32) : sOK σ (cGrip σ t n) := by
  unfold cGrip
  split
  · rename_i h
    have h6 := nI6 ht h
    split
    · exact sOK_fail σ 7
    · split
      · exact sOK_fail σ 5
      · exact sOK_set σ (by omega) (by omega)
  · exact sOK_fail σ 4
theorem sOK_put (σ : Mem) {t pl : Nat} (ht : t ≤ 200) : sOK σ (cPut σ t pl) := by
  unfold cPut
  split
  · split
    · exact sOK_fail σ 5
    · split
      · split
        · exact sOK_fail σ 8
        · split
          · exact sOK_set σ (by omega) (by omega)
          · exact sOK_set σ (by omega) (by omega)
      · exact sOK_fail σ 4
  · exact sOK_fail σ 4
theorem sOK_vial (σ : Mem) (kd j v : Nat) (ag : Int32) : sOK σ (cVial σ kd j v ag) := by
  unfold cVial
  split
  · exact sOK_add σ v _
  split
  · exact sOK_draw σ v _
  split
  · exact sOK_share σ v _
  split
  · exact sOK_pour σ v j
  split
  · exact sOK_same σ (by decide)
  split
  · exact sOK_same σ (by decide)
  split
  · exact ⟨by show (4 : Nat) < 7; decide, (kR.rf σ).set (by omega), fun _ h => h.set (by omega)⟩
  split
  · exact sOK_fail σ _
  split
  · split
    · exact sOK_same σ (by decide)
    · exact sOK_same σ (by decide)
  split
  · exact sOK_same σ (by decide)
  · exact sOK_same σ (by decide)
/-- a memory that differs from σ in the stock and the box alone -/
def sB (σ σ' : Mem) : Prop := kR σ σ' ∧ ∀ x : Nat, rOK x σ → rOK x σ'
theorem sB.fail {σ σ' : Mem} (h : sB σ σ') (n : Int32) : sOK σ (cFail σ' n) := by
  obtain ⟨h1, h2, h3⟩ := sOK_fail σ' n
  exact ⟨h1, h.1.tr h2, fun x hx => h3 x (h.2 x hx)⟩
theorem sB.on {σ σ' : Mem} (h : sB σ σ') : sOK σ (0, σ') := ⟨by show (0 : Nat) < 7; decide, h.1, h.2⟩
theorem sB_rack (σ : Mem) (z : Int32) : sB σ (cNewRack σ z).2 := by
  unfold cNewRack
  split
  · exact ⟨(kR.rf σ).set (by omega), fun _ h => h.set (by omega)⟩
  · exact ⟨kR.rf σ, fun _ h => h⟩
theorem sB_grid (σ : Mem) (z w : Int32) : sB σ (cNewGrid σ z w).2 := by
  unfold cNewGrid
  split
  · exact ⟨kR.rf σ, fun _ h => h⟩
  split
  · exact ⟨((kR.rf σ).set (by omega)).set (by omega), fun _ h => (h.set (by omega)).set (by omega)⟩
  · exact ⟨kR.rf σ, fun _ h => h⟩
theorem sB_clr (σ : Mem) : ∀ k : Nat, sB σ (cClr σ k)
  | 0 => ⟨kR.rf σ, fun _ h => h⟩
  | k + 1 => ⟨(sB_clr σ k).1.set (by omega), fun x h => ((sB_clr σ k).2 x h).set (by omega)⟩
theorem rOK.box {x : Nat} {σ : Mem} (h : rOK x σ) {k : Nat} (hk : k ≤ 18) : rOK x (mset σ 5 2 (nI k)) := by
  obtain ⟨⟨a, b, h1, h2, h3⟩, h4, h5⟩ := h
  refine ⟨⟨a, b, ?_, ?_, h3⟩, ⟨?_, ?_⟩, Or.inr ⟨k, hk, mset_self _ _ _ _⟩⟩
  · rw [mset_ne (by omega)]; exact h1
  · rw [mset_ne (by omega)]; exact h2
  · rw [mset_ne (by omega)]; exact h4.1
  · rw [mset_ne (by omega)]; exact h4.2
theorem sB_box (σ : Mem) (z w : Int32) : sB σ (cNewBox σ z w).2 := by
  unfold cNewBox
  split
  · exact ⟨kR.rf σ, fun _ h => h⟩
  split
  · rename_i h1 h2
    obtain ⟨k, hk, rfl⟩ := nI_of2 (M := 18) (n := 18) (by decide) h1 h2
    exact ⟨((sB_clr σ _).1.set (by omega)).set (by omega), fun x h => (((sB_clr σ _).2 x h).box hk).set (by omega)⟩
  · exact ⟨kR.rf σ, fun _ h => h⟩
theorem sOK_bench (σ : Mem) {kd j : Nat} (v : Nat) (hj : j ≤ 200) : sOK σ (cBench σ kd j v) := by
  unfold cBench
  split
  · exact sOK_use σ hj
  split
  · exact sOK_grip σ hj _
  split
  · split
    · exact (sB_rack σ _).fail 6
    · exact (sB_rack σ _).on
  split
  · split
    · exact (sB_box σ _ _).fail 6
    · exact (sB_box σ _ _).on
  split
  · split
    · exact (sB_grid σ _ _).fail 6
    · exact (sB_grid σ _ _).on
  split
  · exact sOK_put σ (by omega)
  split
  · split
    · exact sOK_fail σ 5
    · exact sOK_add σ v _
  split
  · exact sOK_fail σ 5
  · exact sOK_failLaid σ _
theorem rOK.bx {x : Nat} {σ : Mem} (h : rOK x σ) : ∀ pl : Nat, pl ≤ 200 → nI pl < σ 5 2 → pl < 18 := by
  intro pl hpl hc
  rcases h.2.2 with e | ⟨k, hk, e⟩
  · rw [e] at hc
    exact absurd hc (by
      intro q
      have h1 := Int32.lt_iff_toInt_lt.mp q
      rw [nI_toInt (by omega)] at h1
      have h2 : ((-4 : Int32)).toInt = -4 := by decide
      omega)
  · rw [e] at hc
    have := (nI_ltI (by omega) (by omega)).mp hc
    omega
theorem rOK.cl {x : Nat} {σ : Mem} (h : rOK x σ) : ¬ (4 : Int32) ≤ σ 7 6 → vp_in (σ 7 6) 4 := by
  obtain ⟨-, ⟨-, k, hk, e⟩, -⟩ := h
  intro hc
  rw [e] at hc ⊢
  exact vp_in_nI (Nat.not_le.mp fun q => hc ((nI_leI (a := 4) (by decide) (by omega)).mpr q)) (by decide)
theorem rOK.cl1 {x : Nat} {σ : Mem} (h : rOK x σ) : ¬ σ 7 6 ≤ 0 → vp_in (σ 7 6 - 1) 4 := by
  obtain ⟨-, ⟨-, k, hk, e⟩, -⟩ := h
  intro hc
  rw [e] at hc ⊢
  cases k with
  | zero => exact absurd (by rw [nI_0]; exact Int32.le_refl _) hc
  | succ k =>
    rw [nI_pred]
    exact vp_in_nI (by omega) (by decide)
theorem rOK.nc {x : Nat} {σ : Mem} (h : rOK x σ) : ¬ (24 : Int32) ≤ σ 7 4 → vp_in (σ 7 4) 24 := by
  obtain ⟨-, ⟨⟨k, hk, e⟩, -⟩, -⟩ := h
  intro hc
  rw [e] at hc ⊢
  exact vp_in_nI (Nat.not_le.mp fun q => hc ((nI_leI (a := 24) (by decide) (by omega)).mpr q)) (by decide)
theorem sB_inStead (σ : Mem) (n : Int32) : kR σ (cInStead σ n) ∧ ∀ x : Nat, rOK x σ → rOK x (cInStead σ n) := by
  unfold cInStead
  split
  · exact ⟨kR.rf σ, fun _ h => h⟩
  · rename_i hc
    refine ⟨((kR.rf σ).set (by omega)).set (by omega), fun x h => ?_⟩
    obtain ⟨k, hk, e⟩ := h.2.1.2
    rw [e, nI_1]
    rw [e] at hc
    have hk4 : k < 4 := Nat.not_le.mp fun q => hc ((nI_leI (a := 4) (by decide) (by omega)).mpr q)
    exact (h.set (by omega)).chain (by omega)
theorem sB_note (σ : Mem) : kR σ (cNote σ) ∧ ∀ x : Nat, rOK x σ → rOK x (cNote σ) := by
  unfold cNote
  split
  · exact ⟨(kR.rf σ).set (by omega), fun x h => h.chain (k := 0) (by decide)⟩
  split
  · exact ⟨(kR.rf σ).set (by omega), fun x h => h.chain (k := 0) (by decide)⟩
  · rename_i hc
    refine ⟨(((kR.rf σ).set (by omega)).set (by omega)).set (by omega), fun x h => ?_⟩
    refine rOK.chain (k := 0) ?_ (by decide)
    obtain ⟨⟨a, b, h1, h2, h3⟩, ⟨⟨k, hk, e⟩, h4⟩, h5⟩ := h.set (i := 10) (k := ci (σ 7 4)) (v := σ 11 (ci ((σ 7 6) - 1))) (by omega)
    rw [mset_ne (by omega)] at e
    rw [e] at hc
    have hk4 : k < 24 := Nat.not_le.mp fun q => hc ((nI_leI (a := 24) (by decide) (by omega)).mpr q)
    refine ⟨⟨a, b, ?_, ?_, h3⟩, ⟨⟨k + 1, by omega, ?_⟩, ?_⟩, ?_⟩
    · rw [mset_ne (by omega)]; exact h1
    · rw [mset_ne (by omega)]; exact h2
    · rw [mset_self, e, nI_1]
    · rw [mset_ne (by omega)]; exact h4
    · unfold bxK; rw [mset_ne (by omega)]; exact h5
/-- a step of a kind, by its two families -/
def cStep (σ : Mem) (kd j v : Nat) (ag : Int32) : Nat × Mem := if kd < 10 then cVial σ kd j v ag else cBench σ kd j v
theorem sOK_step (σ : Mem) {kd j : Nat} (v : Nat) (ag : Int32) (hj : j ≤ 200) : sOK σ (cStep σ kd j v ag) := by
  unfold cStep
  split
  · exact sOK_vial σ kd j v ag
  · exact sOK_bench σ v hj
/-- the step at place nx of round q, with its lamp -/
def cStepAt (q v : Nat) (σ : Mem) (nx : Nat) (ag : Int32) : Nat × Mem :=
  ((cStep (cMark σ 5) (ci (σ (50 + q) nx)) (ci (σ (74 + q) nx)) v ag).1, cMark (cStep (cMark σ 5) (ci (σ (50 + q) nx)) (ci (σ (74 + q) nx)) v ag).2 6)
/-- the steps of round q from place nx on; fu: how many turns are left -/
def cSteps (q v : Nat) : Nat → Mem → Nat → Int32 → Nat × Mem
  | 0, σ, _, _ => (0, σ)
  | fu + 1, σ, nx, ag =>
    if σ (26 + q) 2 ≤ nI nx then (0, σ)
    else if σ 8 5 < 200 then
      (if (cStepAt q v σ nx ag).1 = 2 then cSteps q v fu (cStepAt q v σ nx ag).2 0 (ag + 1)
      else if (cStepAt q v σ nx ag).1 = 0 then cSteps q v fu (cStepAt q v σ nx ag).2 (nx + 1) ag
      else cStepAt q v σ nx ag)
    else (6, σ)
theorem cR_num {σ : Mem} {q nx : Nat} (hR : cR σ) (hq : q < 24) (hnx : nx < 8) : ci (σ (74 + q) nx) ≤ 200 := by
  obtain ⟨kd, j, -, hj, -, e, -⟩ := (hR.1 q hq).2.2 nx hnx
  unfold ci
  rw [e, nI_clamp (by omega)]
  exact hj
theorem cR_nx {σ : Mem} {q nx : Nat} (hR : cR σ) (hq : q < 24) (hnx : nx ≤ 8) (hc : ¬ σ (26 + q) 2 ≤ nI nx) : nx < 8 := by
  obtain ⟨k, hk, e⟩ := (hR.1 q hq).1
  rw [e] at hc
  have h1 : ¬ k ≤ nx := fun h => hc ((nI_leI (by omega) (by omega)).mpr h)
  omega
/-- the step with its lamp: a kind of way, the rounds are the same, the bounds stand -/
theorem sOK_stepAt {q v nx : Nat} {σ : Mem} (ag : Int32) (hj : ci (σ (74 + q) nx) ≤ 200) (hl : σ 8 5 < 200) : (cStepAt q v σ nx ag).1 < 7 ∧ kR σ (cStepAt q v σ nx ag).2 ∧ ∀ x : Nat, x ≤ 900 → rOK (x + 1) σ → rOK (x + 1) (cStepAt q v σ nx ag).2 := by
  obtain ⟨h1, h2, h3⟩ := sOK_step (cMark σ 5) (kd := ci (σ (50 + q) nx)) v ag hj
  exact ⟨h1, ((kR_mark σ 5).tr h2).tr (kR_mark _ 6), fun x hx h => rOK_mark (h3 x (rOK_lit h hx hl)) hx (by decide)⟩
theorem sOK_steps {q v : Nat} (hq : q < 24) : ∀ (fu : Nat) (σ : Mem) (nx : Nat) (ag : Int32), cR σ → nx ≤ 8 → (cSteps q v fu σ nx ag).1 < 7 ∧ kR σ (cSteps q v fu σ nx ag).2 ∧ ∀ x : Nat, x ≤ 900 → rOK (x + 1) σ → rOK (x + 1) (cSteps q v fu σ nx ag).2
  | 0, σ, nx, ag, _, _ => ⟨by show (0 : Nat) < 7; decide, kR.rf σ, fun _ _ h => h⟩
  | fu + 1, σ, nx, ag, hR, hnx => by
    unfold cSteps
    split
    · exact ⟨by show (0 : Nat) < 7; decide, kR.rf σ, fun _ _ h => h⟩
    split
    · rename_i hc hl
      have hnx8 := cR_nx hR hq hnx hc
      obtain ⟨h1, h2, h3⟩ := sOK_stepAt (q := q) (v := v) (nx := nx) (σ := σ) ag (cR_num hR hq hnx8) hl
      split
      · obtain ⟨g1, g2, g3⟩ := sOK_steps (v := v) hq fu (cStepAt q v σ nx ag).2 0 (ag + 1) (h2.cR hR) (by omega)
        exact ⟨g1, h2.tr g2, fun x hx h => g3 x hx (h3 x hx h)⟩
      split
      · obtain ⟨g1, g2, g3⟩ := sOK_steps (v := v) hq fu (cStepAt q v σ nx ag).2 (nx + 1) ag (h2.cR hR) (by omega)
        exact ⟨g1, h2.tr g2, fun x hx h => g3 x hx (h3 x hx h)⟩
      · exact ⟨h1, h2, h3⟩
    · exact ⟨by show (6 : Nat) < 7; decide, kR.rf σ, fun _ _ h => h⟩
end
section
theorem cSteps_succ (q v fu : Nat) (σ : Mem) (nx : Nat) (ag : Int32) : cSteps q v (fu + 1) σ nx ag = if σ (26 + q) 2 ≤ nI nx then (0, σ)
    else if σ 8 5 < 200 then
      (if (cStepAt q v σ nx ag).1 = 2 then cSteps q v fu (cStepAt q v σ nx ag).2 0 (ag + 1)
      else if (cStepAt q v σ nx ag).1 = 0 then cSteps q v fu (cStepAt q v σ nx ag).2 (nx + 1) ag
      else cStepAt q v σ nx ag)
    else (6, σ) := rfl
def cTake (σ : Mem) (md n : Int32) : Nat × Mem :=
  if md = 1 then (0, cNote σ)
  else if md = 2 then (5, cInStead σ (20 + n))
  else (5, σ)
set_option maxHeartbeats 4000000 in
set_option maxRecDepth 100000 in
theorem c_takeFailure (l : Launch) (D : va_G) (cy : Nat → ClassId) (ad wy : Nat → Nat) (mt : Nat) (hj : mJ 98 ad) (σ : Mem) (md n : Int32) (x : Nat) (hO : rOK x σ) : Met l yX6_takeFailure wsX6_takeFailure ({ frames := 1, cells := 0, slots := 0, locals := 21 }) (va_Pc [.ref (ad 0), .int md, .int n] (gPre 98 ad (cF ad cy) D cy wy mt σ)) (gQ 98 ad (cF ad cy) D (some (.ref (wy (cTake σ md n).1))) (cTake σ md n).2) 0 0 (mA 98 ad) := by
  refine g_met (cc := cX6_takeFailure) (maxL := 3) (ret := (some (.object "BenchRuns$Way"))) (by decide) rfl (Nat.le_of_ble_eq_true rfl) ?_
  intro p e s m below meth c S hr hlocks h0 ls hl
  obtain ⟨hx, hb, hml, hown, hts⟩ := S
  have hP := h0.1
  have hK := h0.2.1
  have hS : va_S (mA 98 ad) s.heap s.heap [] := va_S.rf
  have hl : lv_has ls 3 [(0, .ref (ad 0)), (1, .int md), (2, .int n)] := hl
  have kf104 : (Cond.fieldLink RX6 104 "BenchRuns$Way" "FAILURE" "LBenchRuns$Way;").before (#[.ref (ad 0), .int md, .int n] : Array Value) s = true := hts _ (by decide +kernel)
  have kf38 : (Cond.fieldLink RX6 38 "BenchRuns" "log" "LBenchRuns$Log;").before (#[.ref (ad 0), .int md, .int n] : Array Value) s = true := hts _ (by decide +kernel)
  have hinX6 : ∀ w ∈ u_ws RX6 TX6 7, w ∈ wsX6_takeFailure := by decide +kernel
  have kf145 : (Cond.fieldLink RX6 145 "BenchRuns$Way" "ONWARD" "LBenchRuns$Way;").before (#[.ref (ad 0), .int md, .int n] : Array Value) s = true := hts _ (by decide +kernel)
  refine lv_iload_n hx hb dX6_takeFailure_0 rfl (lv_at hl 1 rfl) ?_
  refine lv_iconst (v := 1) hx hb dX6_takeFailure_1 (by decide) ?_
  refine lv_icmp_ne (tgt := 16) hx hb dX6_takeFailure_2 (by decide) (fun c_1 => ?_) (fun c_1 => ?_)
  · skip
    refine lv_iload_n hx hb dX6_takeFailure_16 rfl (lv_at hl 1 rfl) ?_
    refine lv_iconst (v := 2) hx hb dX6_takeFailure_17 (by decide) ?_
    refine lv_icmp_ne (tgt := 32) hx hb dX6_takeFailure_18 (by decide) (fun c_2 => ?_) (fun c_2 => ?_)
    · skip
      refine g_way hx hb h0 hS hown 5 (by decide) rfl kf104 dX6_takeFailure_32 ?_
      exact g_aret hx hb hr hlocks hP hS dX6_takeFailure_35 (by unfold cTake; rw [if_neg c_1, if_neg c_2])
    · skip
      refine lv_aload_n hx hb dX6_takeFailure_21 rfl (lv_at hl 0 rfl) ?_
      refine mw_get (ci := 5) (C := RX6) (T := TX6) (N := 7) (v := .ref (ad 7)) hx hb hts hinX6 hown hK hP 0 (by decide) cF_0 rfl 5 (by decide) kf38 (fun _ h9 => h9) rfl dX6_takeFailure_22 ?_
      refine lv_bipush (v := 20) hx hb dX6_takeFailure_25 (by decide) ?_
      refine lv_iload_n hx hb dX6_takeFailure_27 rfl (lv_at hl 2 rfl) ?_
      refine lv_iadd hx hb dX6_takeFailure_28 ?_
      refine g_callV (As := [.int (20 + n)]) (rest := []) (N := 7) (T := TX1) (ci := 1) ⟨hx, hb, hml, hown, hts⟩ 7 (c_failInStead l D cy ad wy mt hj σ (20 + n) (rOK.cl hO)) (cwV 1 hts gX6_takeFailure_X1_failInStead rfl rfl rfl (by decide +kernel) ⟨by decide, by decide⟩) h0 hP hS (by decide) cF_7 rfl rfl rfl hl.1 (Nat.le_of_ble_eq_true rfl) dX6_takeFailure_29 ⟨Nat.zero_le _, Nat.zero_le _⟩ (fun H locs hP hS => ?_)
      refine g_way hx hb h0 hS hown 5 (by decide) rfl kf104 dX6_takeFailure_32 ?_
      exact g_aret hx hb hr hlocks hP hS dX6_takeFailure_35 (by unfold cTake; rw [if_neg c_1, if_pos c_2])
  · skip
    refine lv_aload_n hx hb dX6_takeFailure_5 rfl (lv_at hl 0 rfl) ?_
    refine mw_get (ci := 5) (C := RX6) (T := TX6) (N := 7) (v := .ref (ad 7)) hx hb hts hinX6 hown hK hP 0 (by decide) cF_0 rfl 5 (by decide) kf38 (fun _ h9 => h9) rfl dX6_takeFailure_6 ?_
    refine g_callV (As := []) (rest := []) (N := 7) (T := TX1) (ci := 1) ⟨hx, hb, hml, hown, hts⟩ 7 (c_noteFailure l D cy ad wy mt hj σ (rOK.cl1 hO) (rOK.nc hO)) (cwV 0 hts gX6_takeFailure_X1_noteFailure rfl rfl rfl (by decide +kernel) ⟨by decide, by decide⟩) h0 hP hS (by decide) cF_7 rfl rfl rfl hl.1 (Nat.le_of_ble_eq_true rfl) dX6_takeFailure_9 ⟨Nat.zero_le _, Nat.zero_le _⟩ (fun H locs hP hS => ?_)
    refine g_way hx hb h0 hS hown 0 (by decide) rfl kf145 dX6_takeFailure_12 ?_
    exact g_aret hx hb hr hlocks hP hS dX6_takeFailure_15 (by unfold cTake; rw [if_pos c_1])
theorem cTake_lt (σ : Mem) (md n : Int32) : (cTake σ md n).1 < 7 := by
  unfold cTake
  split
  · show (0 : Nat) < 7; decide
  split
  · show (5 : Nat) < 7; decide
  · show (5 : Nat) < 7; decide
theorem sOK_take (σ : Mem) (md n : Int32) : sOK σ (cTake σ md n) := by
  refine ⟨cTake_lt σ md n, ?_⟩
  unfold cTake
  split
  · exact sB_note σ
  split
  · exact sB_inStead σ _
  · exact ⟨kR.rf σ, fun _ h => h⟩
set_option maxHeartbeats 4000000 in
set_option maxRecDepth 100000 in
theorem c_doSteps (l : Launch) (D : va_G) (cy : Nat → ClassId) (ad wy : Nat → Nat) (mt : Nat) (hj : mJ 98 ad) (σ : Mem) (q v : Nat) (hq : q < 24) (hv : v < 8) (x : Nat) (hx9 : x ≤ 900) (hR : cR σ) (hO : rOK (x + 1) σ) (hv3 : σ (26 + q) 3 = nI v) : Met l yX6_doSteps wsX6_doSteps ({ frames := 3, cells := 0, slots := 0, locals := 68 }) (va_Pc [.ref (ad 0), .ref (ad (26 + q))] (gPre 98 ad (cF ad cy) D cy wy mt σ)) (gQ 98 ad (cF ad cy) D (some (.ref (wy (cSteps q v 201 σ 0 0).1))) (cSteps q v 201 σ 0 0).2) 0 0 (mA 98 ad) := by
  refine g_met (cc := cX6_doSteps) (maxL := 8) (ret := (some (.object "BenchRuns$Way"))) (by decide) rfl (Nat.le_of_ble_eq_true rfl) ?_
  intro p e s m below meth c S hr hlocks h0 ls hl
  obtain ⟨hx, hb, hml, hown, hts⟩ := S
  have hP := h0.1
  have hK := h0.2.1
  have hS : va_S (mA 98 ad) s.heap s.heap [] := va_S.rf
  have hl : lv_has ls 8 [(0, .ref (ad 0)), (1, .ref (ad (26 + q)))] := hl
  have kf145 : (Cond.fieldLink RX6 145 "BenchRuns$Way" "ONWARD" "LBenchRuns$Way;").before (#[.ref (ad 0), .ref (ad (26 + q))] : Array Value) s = true := hts _ (by decide +kernel)
  have kf181 : (Cond.fieldLink RX6 181 "BenchRuns$Round" "stepCount" "I").before (#[.ref (ad 0), .ref (ad (26 + q))] : Array Value) s = true := hts _ (by decide +kernel)
  have hinX2 : ∀ w ∈ u_ws RX2 TX2 4, w ∈ wsX6_doSteps := by decide +kernel
  have kf38 : (Cond.fieldLink RX6 38 "BenchRuns" "log" "LBenchRuns$Log;").before (#[.ref (ad 0), .ref (ad (26 + q))] : Array Value) s = true := hts _ (by decide +kernel)
  have hinX6 : ∀ w ∈ u_ws RX6 TX6 7, w ∈ wsX6_doSteps := by decide +kernel
  have kf131 : (Cond.fieldLink RX6 131 "BenchRuns$Log" "countOf" "[I").before (#[.ref (ad 0), .ref (ad (26 + q))] : Array Value) s = true := hts _ (by decide +kernel)
  have hinX1 : ∀ w ∈ u_ws RX1 TX1 7, w ∈ wsX6_doSteps := by decide +kernel
  have kf184 : (Cond.fieldLink RX6 184 "BenchRuns$Round" "kinds" "[I").before (#[.ref (ad 0), .ref (ad (26 + q))] : Array Value) s = true := hts _ (by decide +kernel)
  have kf187 : (Cond.fieldLink RX6 187 "BenchRuns$Round" "numbers" "[I").before (#[.ref (ad 0), .ref (ad (26 + q))] : Array Value) s = true := hts _ (by decide +kernel)
  have kf171 : (Cond.fieldLink RX6 171 "BenchRuns$Round" "vial" "I").before (#[.ref (ad 0), .ref (ad (26 + q))] : Array Value) s = true := hts _ (by decide +kernel)
  have kf198 : (Cond.fieldLink RX6 198 "BenchRuns$Way" "ANEW" "LBenchRuns$Way;").before (#[.ref (ad 0), .ref (ad (26 + q))] : Array Value) s = true := hts _ (by decide +kernel)
  have kf116 : (Cond.fieldLink RX6 116 "BenchRuns$Way" "TIRED" "LBenchRuns$Way;").before (#[.ref (ad 0), .ref (ad (26 + q))] : Array Value) s = true := hts _ (by decide +kernel)
  refine lv_iconst (v := 0) hx hb dX6_doSteps_0 (by decide) ?_
  refine lv_istore_n (lv' := [(2, .int 0), (0, .ref (ad 0)), (1, .ref (ad (26 + q)))]) hx hb dX6_doSteps_1 rfl hl (by decide) rfl (fun ls hl => ?_)
  refine lv_iconst (v := 0) hx hb dX6_doSteps_2 (by decide) ?_
  refine lv_istore_n (lv' := [(3, .int 0), (2, .int 0), (0, .ref (ad 0)), (1, .ref (ad (26 + q)))]) hx hb dX6_doSteps_3 rfl hl (by decide) rfl (fun ls hl => ?_)
  refine lv_iconst (v := 0) hx hb dX6_doSteps_4 (by decide) ?_
  refine lv_istore (lv' := [(4, .int 0), (3, .int 0), (2, .int 0), (0, .ref (ad 0)), (1, .ref (ad (26 + q)))]) hx hb dX6_doSteps_5 hl (by decide) rfl (fun ls hl => ?_)
  have loop : ∀ (fu tn nx : Nat) (ag : Int32) (τ : Mem) (H : Heap) (locs : List Loc) (ls : Array Slot), tn + fu = 201 → nx ≤ 8 → cR τ → rOK (x + 1) τ → τ (26 + q) 3 = nI v → cSteps q v fu τ nx ag = cSteps q v 201 σ 0 0 → va_P D vwCl (mW 98 ad (cF ad cy) τ) H → va_S (mA 98 ad) s.heap H locs → lv_has ls 8 [(4, .int (nI tn)), (3, .int ag), (2, .int (nI nx)), (0, .ref (ad 0)), (1, .ref (ad (26 + q)))] → W p l e ({ frames := 3, cells := 0, slots := 0, locals := 68 }) s m ([.ref (ad 0), .ref (ad (26 + q))] : List Value).toArray below meth c H locs 0 0 (MQ below (gQ 98 ad (cF ad cy) D (some (.ref (wy (cSteps q v 201 σ 0 0).1))) (cSteps q v 201 σ 0 0).2) ([.ref (ad 0), .ref (ad (26 + q))] : List Value).toArray s 0 0 (mA 98 ad)) (F0 m 7 ls []) := by
    intro fu
    induction fu with
    | zero =>
      intro tn nx ag τ H locs ls htn hnx hR hO hv3 hf hP hS hl
      have htn1 : tn = 201 := by omega
      subst htn1
      refine lv_iload hx hb dX6_doSteps_7 (lv_at hl 0 rfl) ?_
      refine lv_sipush (v := 200) hx hb dX6_doSteps_9 (by decide) ?_
      refine lv_icmp_gt (tgt := 151) hx hb dX6_doSteps_12 (by decide) (fun _ => ?_) (fun c9 => absurd (show (200 : Int32) < nI 201 by decide) c9)
      refine g_way hx hb h0 hS hown 0 (by decide) rfl kf145 dX6_doSteps_151 ?_
      exact g_aret hx hb hr hlocks hP hS dX6_doSteps_154 hf.symm
    | succ fu ih =>
      intro tn nx ag τ H locs ls htn hnx hR hO hv3 hf hP hS hl
      refine lv_iload hx hb dX6_doSteps_7 (lv_at hl 0 rfl) ?_
      refine lv_sipush (v := 200) hx hb dX6_doSteps_9 (by decide) ?_
      refine lv_icmp_gt (tgt := 151) hx hb dX6_doSteps_12 (by decide) (fun c9 => absurd c9 (nI_nlt (a := 200) (by omega) (by decide))) (fun _ => ?_)
      refine lv_iload_n hx hb dX6_doSteps_15 rfl (lv_at hl 2 rfl) ?_
      refine lv_aload_n hx hb dX6_doSteps_16 rfl (lv_at hl 4 rfl) ?_
      refine mw_get (ci := 2) (C := RX2) (T := TX2) (N := 4) (v := .int (τ (26 + q) 2)) hx hb hts hinX2 hown hK hP (26 + q) (cB_rnd hq) (cF_rnd hq) rfl 2 (by decide) kf181 (fun _ h9 => h9) rfl dX6_doSteps_17 ?_
      refine lv_icmp_ge (tgt := 151) hx hb dX6_doSteps_20 (by decide) (fun c_1 => ?_) (fun c_1 => ?_)
      · skip
        refine g_way hx hb h0 hS hown 0 (by decide) rfl kf145 dX6_doSteps_151 ?_
        exact g_aret hx hb hr hlocks hP hS dX6_doSteps_154 (hf.symm.trans (by rw [cSteps_succ, if_pos c_1]))
      · skip
        refine lv_aload_n hx hb dX6_doSteps_23 rfl (lv_at hl 3 rfl) ?_
        refine mw_get (ci := 5) (C := RX6) (T := TX6) (N := 7) (v := .ref (ad 7)) hx hb hts hinX6 hown hK hP 0 (by decide) cF_0 rfl 5 (by decide) kf38 (fun _ h9 => h9) rfl dX6_doSteps_24 ?_
        refine mw_get (ci := 1) (C := RX1) (T := TX1) (N := 7) (v := .ref (ad 8)) hx hb hts hinX1 hown hK hP 7 (by decide) cF_7 rfl 0 (by decide) kf131 (fun _ h9 => h9) rfl dX6_doSteps_27 ?_
        refine lv_iconst (v := 5) hx hb dX6_doSteps_30 (by decide) ?_
        refine mw_ild hx hb hK hP 8 (by decide) 0 cF_8 rfl 5 (by decide) (by decide) rfl dX6_doSteps_31 ?_
        refine lv_sipush (v := 200) hx hb dX6_doSteps_32 (by decide) ?_
        refine lv_icmp_lt (tgt := 42) hx hb dX6_doSteps_35 (by decide) (fun c_2 => ?_) (fun c_2 => ?_)
        · skip
          have hnx8 := cR_nx hR hq hnx c_1
          obtain ⟨kd, j, hkd, hj200, ekd, ej, h164⟩ := (hR.1 q hq).2.2 nx hnx8
          refine lv_aload_n hx hb dX6_doSteps_42 rfl (lv_at hl 4 rfl) ?_
          refine mw_get (ci := 2) (C := RX2) (T := TX2) (N := 4) (v := .ref (ad (50 + q))) hx hb hts hinX2 hown hK hP (26 + q) (cB_rnd hq) (cF_rnd hq) rfl 0 (by decide) kf184 (fun _ h9 => h9) rfl dX6_doSteps_43 ?_
          refine lv_iload_n hx hb dX6_doSteps_46 rfl (lv_at hl 2 rfl) ?_
          refine mw_ild hx hb hK hP (50 + q) (cB_kin hq) 0 (cF_kin hq) rfl nx (by omega) (by decide) rfl dX6_doSteps_47 ?_
          refine g_top (y := nI kd) ekd ?_
          refine lv_istore (lv' := [(5, .int (nI kd)), (4, .int (nI tn)), (3, .int ag), (2, .int (nI nx)), (0, .ref (ad 0)), (1, .ref (ad (26 + q)))]) hx hb dX6_doSteps_48 hl (by decide) rfl (fun ls hl => ?_)
          refine lv_aload_n hx hb dX6_doSteps_50 rfl (lv_at hl 5 rfl) ?_
          refine mw_get (ci := 2) (C := RX2) (T := TX2) (N := 4) (v := .ref (ad (74 + q))) hx hb hts hinX2 hown hK hP (26 + q) (cB_rnd hq) (cF_rnd hq) rfl 1 (by decide) kf187 (fun _ h9 => h9) rfl dX6_doSteps_51 ?_
          refine lv_iload_n hx hb dX6_doSteps_54 rfl (lv_at hl 3 rfl) ?_
          refine mw_ild hx hb hK hP (74 + q) (cB_num hq) 0 (cF_num hq) rfl nx (by omega) (by decide) rfl dX6_doSteps_55 ?_
          refine g_top (y := nI j) ej ?_
          refine lv_istore (lv' := [(6, .int (nI j)), (5, .int (nI kd)), (4, .int (nI tn)), (3, .int ag), (2, .int (nI nx)), (0, .ref (ad 0)), (1, .ref (ad (26 + q)))]) hx hb dX6_doSteps_56 hl (by decide) rfl (fun ls hl => ?_)
          refine lv_aload_n hx hb dX6_doSteps_58 rfl (lv_at hl 5 rfl) ?_
          refine mw_get (ci := 5) (C := RX6) (T := TX6) (N := 7) (v := .ref (ad 7)) hx hb hts hinX6 hown hK hP 0 (by decide) cF_0 rfl 5 (by decide) kf38 (fun _ h9 => h9) rfl dX6_doSteps_59 ?_
          refine lv_iconst (v := 5) hx hb dX6_doSteps_62 (by decide) ?_
          refine g_callV (As := [.int 5]) (rest := []) (N := 7) (T := TX1) (ci := 1) ⟨hx, hb, hml, hown, hts⟩ 7 (c_mark l D cy ad wy mt hj τ 5 (by decide) (rOK.ec hO (by omega))) (cwV 1 hts gX6_doSteps_X1_mark rfl rfl rfl (by decide +kernel) ⟨by decide, by decide⟩) h0 hP hS (by decide) cF_7 rfl rfl rfl hl.1 (Nat.le_of_ble_eq_true rfl) dX6_doSteps_63 ⟨Nat.zero_le _, Nat.zero_le _⟩ (fun H locs hP hS => ?_)
          have hO1 := rOK_lit hO hx9 c_2
          refine lv_iload hx hb dX6_doSteps_66 (lv_at hl 1 rfl) ?_
          refine lv_bipush (v := 10) hx hb dX6_doSteps_68 (by decide) ?_
          refine lv_icmp_ge (tgt := 89) hx hb dX6_doSteps_70 (by decide) (fun c_3 => ?_) (fun c_3 => ?_)
          · skip
            have hk10 : 10 ≤ kd := (nI_leI (a := 10) (by decide) (by omega)).mp c_3
            refine lv_aload_n hx hb dX6_doSteps_89 rfl (lv_at hl 5 rfl) ?_
            refine lv_iload hx hb dX6_doSteps_90 (lv_at hl 1 rfl) ?_
            refine lv_iload hx hb dX6_doSteps_92 (lv_at hl 0 rfl) ?_
            refine lv_aload_n hx hb dX6_doSteps_94 rfl (lv_at hl 6 rfl) ?_
            refine mw_get (ci := 2) (C := RX2) (T := TX2) (N := 4) (v := .int ((cMark τ 5) (26 + q) 3)) hx hb hts hinX2 hown hK hP (26 + q) (cB_rnd hq) (cF_rnd hq) rfl 3 (by decide) kf171 (fun _ h9 => h9) rfl dX6_doSteps_95 ?_
            refine g_top (y := nI v) (by rw [kR_mark τ 5 (26 + q) (by omega)]; exact hv3) ?_
            refine g_callV (As := [.int (nI kd), .int (nI j), .int (nI v)]) (rest := []) (N := 7) (T := TX6) (ci := 5) ⟨hx, hb, hml, hown, hts⟩ 0 (c_doBenchStep l D cy ad wy mt hj (cMark τ 5) kd j v (by omega) (by omega) (by omega) (by omega) h164 (rOK.bx hO1)) (cwV 3 hts gX6_doSteps_X6_doBenchStep rfl rfl rfl (by decide +kernel) ⟨by decide, by decide⟩) h0 hP hS (by decide) cF_0 rfl rfl rfl hl.1 (Nat.le_of_ble_eq_true rfl) dX6_doSteps_98 ⟨Nat.zero_le _, Nat.zero_le _⟩ (fun H locs hP hS => ?_)
            have eS : cStepAt q v τ nx ag = ((cBench (cMark τ 5) kd j v).1, cMark ((cBench (cMark τ 5) kd j v).2) 6) := by unfold cStepAt cStep ci; rw [ekd, ej, nI_clamp (by omega), nI_clamp (by omega), if_neg (by omega)]
            have hS2 := sOK_stepAt (q := q) (v := v) (nx := nx) (σ := τ) ag (cR_num hR hq hnx8) c_2
            rw [eS] at hS2
            dsimp only at hS2
            refine lv_astore (lv' := [(7, .ref (wy ((cBench (cMark τ 5) kd j v).1))), (6, .int (nI j)), (5, .int (nI kd)), (4, .int (nI tn)), (3, .int ag), (2, .int (nI nx)), (0, .ref (ad 0)), (1, .ref (ad (26 + q)))]) hx hb dX6_doSteps_101 hl (by decide) rfl (fun ls hl => ?_)
            refine lv_aload_n hx hb dX6_doSteps_103 rfl (lv_at hl 6 rfl) ?_
            refine mw_get (ci := 5) (C := RX6) (T := TX6) (N := 7) (v := .ref (ad 7)) hx hb hts hinX6 hown hK hP 0 (by decide) cF_0 rfl 5 (by decide) kf38 (fun _ h9 => h9) rfl dX6_doSteps_104 ?_
            refine lv_bipush (v := 6) hx hb dX6_doSteps_107 (by decide) ?_
            refine g_callV (As := [.int 6]) (rest := []) (N := 7) (T := TX1) (ci := 1) ⟨hx, hb, hml, hown, hts⟩ 7 (c_mark l D cy ad wy mt hj ((cBench (cMark τ 5) kd j v).2) 6 (by decide) (rOK.ec ((sOK_bench (cMark τ 5) (kd := kd) (j := j) v hj200).2.2 x hO1) (by omega))) (cwV 1 hts gX6_doSteps_X1_mark rfl rfl rfl (by decide +kernel) ⟨by decide, by decide⟩) h0 hP hS (by decide) cF_7 rfl rfl rfl hl.1 (Nat.le_of_ble_eq_true rfl) dX6_doSteps_109 ⟨Nat.zero_le _, Nat.zero_le _⟩ (fun H locs hP hS => ?_)
            refine lv_aload hx hb dX6_doSteps_112 (lv_at hl 0 rfl) ?_
            refine g_way hx hb h0 hS hown 2 (by decide) rfl kf198 dX6_doSteps_114 ?_
            refine g_wne (a := (cBench (cMark τ 5) kd j v).1) (b := 2) (tgt := 128) hx hb h0 hS2.1 (by decide) dX6_doSteps_117 (by decide) (fun c_4 => ?_) (fun c_4 => ?_)
            · skip
              refine lv_aload hx hb dX6_doSteps_128 (lv_at hl 0 rfl) ?_
              refine g_way hx hb h0 hS hown 0 (by decide) rfl kf145 dX6_doSteps_130 ?_
              refine g_wne (a := (cBench (cMark τ 5) kd j v).1) (b := 0) (tgt := 142) hx hb h0 hS2.1 (by decide) dX6_doSteps_133 (by decide) (fun c_5 => ?_) (fun c_5 => ?_)
              · skip
                refine lv_aload hx hb dX6_doSteps_142 (lv_at hl 0 rfl) ?_
                exact g_aret hx hb hr hlocks hP hS dX6_doSteps_144 (hf.symm.trans (by rw [cSteps_succ, if_neg c_1, if_pos c_2, eS]; exact (if_neg c_4).trans (if_neg c_5)))
              · skip
                refine lv_iinc (v := nI (nx + 1)) (lv' := [(2, .int (nI (nx + 1))), (7, .ref (wy ((cBench (cMark τ 5) kd j v).1))), (6, .int (nI j)), (5, .int (nI kd)), (4, .int (nI tn)), (3, .int ag), (0, .ref (ad 0)), (1, .ref (ad (26 + q)))]) hx hb dX6_doSteps_136 hl (k := 5) rfl (nI_1 nx) (by decide) rfl (fun ls hl => ?_)
                refine lv_goto (tgt := 145) hx hb dX6_doSteps_139 (by decide) ?_
                refine lv_iinc (v := nI (tn + 1)) (lv' := [(4, .int (nI (tn + 1))), (2, .int (nI (nx + 1))), (7, .ref (wy ((cBench (cMark τ 5) kd j v).1))), (6, .int (nI j)), (5, .int (nI kd)), (3, .int ag), (0, .ref (ad 0)), (1, .ref (ad (26 + q)))]) hx hb dX6_doSteps_145 hl (k := 4) rfl (nI_1 tn) (by decide) rfl (fun ls hl => ?_)
                refine lv_goto (tgt := 7) hx hb dX6_doSteps_148 (by decide) ?_
                exact ih (tn + 1) (nx + 1) ag (cMark ((cBench (cMark τ 5) kd j v).2) 6) H locs ls (by omega) (by omega) (hS2.2.1.cR hR) (hS2.2.2 x hx9 hO) (by rw [hS2.2.1 (26 + q) (by omega)]; exact hv3) (Eq.trans (by rw [cSteps_succ, if_neg c_1, if_pos c_2, eS]; exact ((if_neg c_4).trans (if_pos c_5)).symm) hf) hP hS (lv_sub hl [0, 5, 1, 6, 7] rfl)
            · skip
              refine lv_iinc (v := ag + 1) (lv' := [(3, .int (ag + 1)), (7, .ref (wy ((cBench (cMark τ 5) kd j v).1))), (6, .int (nI j)), (5, .int (nI kd)), (4, .int (nI tn)), (2, .int (nI nx)), (0, .ref (ad 0)), (1, .ref (ad (26 + q)))]) hx hb dX6_doSteps_120 hl (k := 4) rfl rfl (by decide) rfl (fun ls hl => ?_)
              refine lv_iconst (v := 0) hx hb dX6_doSteps_123 (by decide) ?_
              refine lv_istore_n (lv' := [(2, .int 0), (3, .int (ag + 1)), (7, .ref (wy ((cBench (cMark τ 5) kd j v).1))), (6, .int (nI j)), (5, .int (nI kd)), (4, .int (nI tn)), (0, .ref (ad 0)), (1, .ref (ad (26 + q)))]) hx hb dX6_doSteps_124 rfl hl (by decide) rfl (fun ls hl => ?_)
              refine lv_goto (tgt := 145) hx hb dX6_doSteps_125 (by decide) ?_
              refine lv_iinc (v := nI (tn + 1)) (lv' := [(4, .int (nI (tn + 1))), (2, .int 0), (3, .int (ag + 1)), (7, .ref (wy ((cBench (cMark τ 5) kd j v).1))), (6, .int (nI j)), (5, .int (nI kd)), (0, .ref (ad 0)), (1, .ref (ad (26 + q)))]) hx hb dX6_doSteps_145 hl (k := 5) rfl (nI_1 tn) (by decide) rfl (fun ls hl => ?_)
              refine lv_goto (tgt := 7) hx hb dX6_doSteps_148 (by decide) ?_
              exact ih (tn + 1) 0 (ag + 1) (cMark ((cBench (cMark τ 5) kd j v).2) 6) H locs ls (by omega) (by omega) (hS2.2.1.cR hR) (hS2.2.2 x hx9 hO) (by rw [hS2.2.1 (26 + q) (by omega)]; exact hv3) (Eq.trans (by rw [cSteps_succ, if_neg c_1, if_pos c_2, eS]; exact (if_pos c_4).symm) hf) hP hS (lv_sub hl [0, 2, 1, 6, 7] rfl)
          · skip
            have hk10 : kd < 10 := Nat.not_le.mp fun h9 => c_3 ((nI_leI (a := 10) (by decide) (by omega)).mpr h9)
            refine lv_aload_n hx hb dX6_doSteps_73 rfl (lv_at hl 5 rfl) ?_
            refine lv_iload hx hb dX6_doSteps_74 (lv_at hl 1 rfl) ?_
            refine lv_iload hx hb dX6_doSteps_76 (lv_at hl 0 rfl) ?_
            refine lv_aload_n hx hb dX6_doSteps_78 rfl (lv_at hl 6 rfl) ?_
            refine mw_get (ci := 2) (C := RX2) (T := TX2) (N := 4) (v := .int ((cMark τ 5) (26 + q) 3)) hx hb hts hinX2 hown hK hP (26 + q) (cB_rnd hq) (cF_rnd hq) rfl 3 (by decide) kf171 (fun _ h9 => h9) rfl dX6_doSteps_79 ?_
            refine g_top (y := nI v) (by rw [kR_mark τ 5 (26 + q) (by omega)]; exact hv3) ?_
            refine lv_iload_n hx hb dX6_doSteps_82 rfl (lv_at hl 3 rfl) ?_
            refine g_callV (As := [.int (nI kd), .int (nI j), .int (nI v), .int ag]) (rest := []) (N := 7) (T := TX6) (ci := 5) ⟨hx, hb, hml, hown, hts⟩ 0 (c_doVialStep l D cy ad wy mt hj (cMark τ 5) kd j v ag (by omega) (by omega) (by omega)) (cwV 4 hts gX6_doSteps_X6_doVialStep rfl rfl rfl (by decide +kernel) ⟨by decide, by decide⟩) h0 hP hS (by decide) cF_0 rfl rfl rfl hl.1 (Nat.le_of_ble_eq_true rfl) dX6_doSteps_83 ⟨Nat.zero_le _, Nat.zero_le _⟩ (fun H locs hP hS => ?_)
            refine lv_goto (tgt := 101) hx hb dX6_doSteps_86 (by decide) ?_
            have eS : cStepAt q v τ nx ag = ((cVial (cMark τ 5) kd j v ag).1, cMark ((cVial (cMark τ 5) kd j v ag).2) 6) := by unfold cStepAt cStep ci; rw [ekd, ej, nI_clamp (by omega), nI_clamp (by omega), if_pos hk10]
            have hS2 := sOK_stepAt (q := q) (v := v) (nx := nx) (σ := τ) ag (cR_num hR hq hnx8) c_2
            rw [eS] at hS2
            dsimp only at hS2
            refine lv_astore (lv' := [(7, .ref (wy ((cVial (cMark τ 5) kd j v ag).1))), (6, .int (nI j)), (5, .int (nI kd)), (4, .int (nI tn)), (3, .int ag), (2, .int (nI nx)), (0, .ref (ad 0)), (1, .ref (ad (26 + q)))]) hx hb dX6_doSteps_101 hl (by decide) rfl (fun ls hl => ?_)
            refine lv_aload_n hx hb dX6_doSteps_103 rfl (lv_at hl 6 rfl) ?_
            refine mw_get (ci := 5) (C := RX6) (T := TX6) (N := 7) (v := .ref (ad 7)) hx hb hts hinX6 hown hK hP 0 (by decide) cF_0 rfl 5 (by decide) kf38 (fun _ h9 => h9) rfl dX6_doSteps_104 ?_
            refine lv_bipush (v := 6) hx hb dX6_doSteps_107 (by decide) ?_
            refine g_callV (As := [.int 6]) (rest := []) (N := 7) (T := TX1) (ci := 1) ⟨hx, hb, hml, hown, hts⟩ 7 (c_mark l D cy ad wy mt hj ((cVial (cMark τ 5) kd j v ag).2) 6 (by decide) (rOK.ec ((sOK_vial (cMark τ 5) kd j v ag).2.2 x hO1) (by omega))) (cwV 1 hts gX6_doSteps_X1_mark rfl rfl rfl (by decide +kernel) ⟨by decide, by decide⟩) h0 hP hS (by decide) cF_7 rfl rfl rfl hl.1 (Nat.le_of_ble_eq_true rfl) dX6_doSteps_109 ⟨Nat.zero_le _, Nat.zero_le _⟩ (fun H locs hP hS => ?_)
            refine lv_aload hx hb dX6_doSteps_112 (lv_at hl 0 rfl) ?_
            refine g_way hx hb h0 hS hown 2 (by decide) rfl kf198 dX6_doSteps_114 ?_
            refine g_wne (a := (cVial (cMark τ 5) kd j v ag).1) (b := 2) (tgt := 128) hx hb h0 hS2.1 (by decide) dX6_doSteps_117 (by decide) (fun c_6 => ?_) (fun c_6 => ?_)
            · skip
              refine lv_aload hx hb dX6_doSteps_128 (lv_at hl 0 rfl) ?_
              refine g_way hx hb h0 hS hown 0 (by decide) rfl kf145 dX6_doSteps_130 ?_
              refine g_wne (a := (cVial (cMark τ 5) kd j v ag).1) (b := 0) (tgt := 142) hx hb h0 hS2.1 (by decide) dX6_doSteps_133 (by decide) (fun c_7 => ?_) (fun c_7 => ?_)
              · skip
                refine lv_aload hx hb dX6_doSteps_142 (lv_at hl 0 rfl) ?_
                exact g_aret hx hb hr hlocks hP hS dX6_doSteps_144 (hf.symm.trans (by rw [cSteps_succ, if_neg c_1, if_pos c_2, eS]; exact (if_neg c_6).trans (if_neg c_7)))
              · skip
                refine lv_iinc (v := nI (nx + 1)) (lv' := [(2, .int (nI (nx + 1))), (7, .ref (wy ((cVial (cMark τ 5) kd j v ag).1))), (6, .int (nI j)), (5, .int (nI kd)), (4, .int (nI tn)), (3, .int ag), (0, .ref (ad 0)), (1, .ref (ad (26 + q)))]) hx hb dX6_doSteps_136 hl (k := 5) rfl (nI_1 nx) (by decide) rfl (fun ls hl => ?_)
                refine lv_goto (tgt := 145) hx hb dX6_doSteps_139 (by decide) ?_
                refine lv_iinc (v := nI (tn + 1)) (lv' := [(4, .int (nI (tn + 1))), (2, .int (nI (nx + 1))), (7, .ref (wy ((cVial (cMark τ 5) kd j v ag).1))), (6, .int (nI j)), (5, .int (nI kd)), (3, .int ag), (0, .ref (ad 0)), (1, .ref (ad (26 + q)))]) hx hb dX6_doSteps_145 hl (k := 4) rfl (nI_1 tn) (by decide) rfl (fun ls hl => ?_)
                refine lv_goto (tgt := 7) hx hb dX6_doSteps_148 (by decide) ?_
                exact ih (tn + 1) (nx + 1) ag (cMark ((cVial (cMark τ 5) kd j v ag).2) 6) H locs ls (by omega) (by omega) (hS2.2.1.cR hR) (hS2.2.2 x hx9 hO) (by rw [hS2.2.1 (26 + q) (by omega)]; exact hv3) (Eq.trans (by rw [cSteps_succ, if_neg c_1, if_pos c_2, eS]; exact ((if_neg c_6).trans (if_pos c_7)).symm) hf) hP hS (lv_sub hl [0, 5, 1, 6, 7] rfl)
            · skip
              refine lv_iinc (v := ag + 1) (lv' := [(3, .int (ag + 1)), (7, .ref (wy ((cVial (cMark τ 5) kd j v ag).1))), (6, .int (nI j)), (5, .int (nI kd)), (4, .int (nI tn)), (2, .int (nI nx)), (0, .ref (ad 0)), (1, .ref (ad (26 + q)))]) hx hb dX6_doSteps_120 hl (k := 4) rfl rfl (by decide) rfl (fun ls hl => ?_)
              refine lv_iconst (v := 0) hx hb dX6_doSteps_123 (by decide) ?_
              refine lv_istore_n (lv' := [(2, .int 0), (3, .int (ag + 1)), (7, .ref (wy ((cVial (cMark τ 5) kd j v ag).1))), (6, .int (nI j)), (5, .int (nI kd)), (4, .int (nI tn)), (0, .ref (ad 0)), (1, .ref (ad (26 + q)))]) hx hb dX6_doSteps_124 rfl hl (by decide) rfl (fun ls hl => ?_)
              refine lv_goto (tgt := 145) hx hb dX6_doSteps_125 (by decide) ?_
              refine lv_iinc (v := nI (tn + 1)) (lv' := [(4, .int (nI (tn + 1))), (2, .int 0), (3, .int (ag + 1)), (7, .ref (wy ((cVial (cMark τ 5) kd j v ag).1))), (6, .int (nI j)), (5, .int (nI kd)), (0, .ref (ad 0)), (1, .ref (ad (26 + q)))]) hx hb dX6_doSteps_145 hl (k := 5) rfl (nI_1 tn) (by decide) rfl (fun ls hl => ?_)
              refine lv_goto (tgt := 7) hx hb dX6_doSteps_148 (by decide) ?_
              exact ih (tn + 1) 0 (ag + 1) (cMark ((cVial (cMark τ 5) kd j v ag).2) 6) H locs ls (by omega) (by omega) (hS2.2.1.cR hR) (hS2.2.2 x hx9 hO) (by rw [hS2.2.1 (26 + q) (by omega)]; exact hv3) (Eq.trans (by rw [cSteps_succ, if_neg c_1, if_pos c_2, eS]; exact (if_pos c_6).symm) hf) hP hS (lv_sub hl [0, 2, 1, 6, 7] rfl)
        · skip
          refine g_way hx hb h0 hS hown 6 (by decide) rfl kf116 dX6_doSteps_38 ?_
          exact g_aret hx hb hr hlocks hP hS dX6_doSteps_41 (hf.symm.trans (by rw [cSteps_succ, if_neg c_1, if_neg c_2]))
  exact loop 201 0 0 0 σ _ _ ls (by omega) (by omega) hR hO hv3 rfl hP hS (lv_sub hl [0, 1, 2, 3, 4] rfl)
end
section
def cRound (σ : Mem) (q v : Nat) : Nat × Mem :=
  if nI v < 8 then (if σ 1 v = (-1) then cFail σ 5
    else ((cSteps q v 201 (cMark σ 3) 0 0).1, cMark ((cSteps q v 201 (cMark σ 3) 0 0).2) 4))
  else cFail σ 4
set_option maxHeartbeats 4000000 in
set_option maxRecDepth 100000 in
theorem c_doRound (l : Launch) (D : va_G) (cy : Nat → ClassId) (ad wy : Nat → Nat) (mt : Nat) (hj : mJ 98 ad) (σ : Mem) (q v : Nat) (hq : q < 24) (hv9 : v ≤ 9) (x : Nat) (hx9 : x ≤ 880) (hR : cR σ) (hO : rOK x σ) (hv3 : σ (26 + q) 3 = nI v) : Met l yX6_doRound wsX6_doRound ({ frames := 4, cells := 0, slots := 0, locals := 95 }) (va_Pc [.ref (ad 0), .ref (ad (26 + q))] (gPre 98 ad (cF ad cy) D cy wy mt σ)) (gQ 98 ad (cF ad cy) D (some (.ref (wy (cRound σ q v).1))) (cRound σ q v).2) 0 0 (mA 98 ad) := by
  refine g_met (cc := cX6_doRound) (maxL := 3) (ret := (some (.object "BenchRuns$Way"))) (by decide) rfl (Nat.le_of_ble_eq_true rfl) ?_
  intro p e s m below meth c S hr hlocks h0 ls hl
  obtain ⟨hx, hb, hml, hown, hts⟩ := S
  have hP := h0.1
  have hK := h0.2.1
  have hS : va_S (mA 98 ad) s.heap s.heap [] := va_S.rf
  have hl : lv_has ls 3 [(0, .ref (ad 0)), (1, .ref (ad (26 + q)))] := hl
  have kf171 : (Cond.fieldLink RX6 171 "BenchRuns$Round" "vial" "I").before (#[.ref (ad 0), .ref (ad (26 + q))] : Array Value) s = true := hts _ (by decide +kernel)
  have hinX2 : ∀ w ∈ u_ws RX2 TX2 4, w ∈ wsX6_doRound := by decide +kernel
  have kf9 : (Cond.fieldLink RX6 9 "BenchRuns" "vialDrops" "[I").before (#[.ref (ad 0), .ref (ad (26 + q))] : Array Value) s = true := hts _ (by decide +kernel)
  have hinX6 : ∀ w ∈ u_ws RX6 TX6 7, w ∈ wsX6_doRound := by decide +kernel
  have kf38 : (Cond.fieldLink RX6 38 "BenchRuns" "log" "LBenchRuns$Log;").before (#[.ref (ad 0), .ref (ad (26 + q))] : Array Value) s = true := hts _ (by decide +kernel)
  refine lv_aload_n hx hb dX6_doRound_0 rfl (lv_at hl 1 rfl) ?_
  refine mw_get (ci := 2) (C := RX2) (T := TX2) (N := 4) (v := .int (σ (26 + q) 3)) hx hb hts hinX2 hown hK hP (26 + q) (cB_rnd hq) (cF_rnd hq) rfl 3 (by decide) kf171 (fun _ h9 => h9) rfl dX6_doRound_1 ?_
  refine g_top (y := nI v) hv3 ?_
  refine lv_bipush (v := 8) hx hb dX6_doRound_4 (by decide) ?_
  refine lv_icmp_lt (tgt := 18) hx hb dX6_doRound_6 (by decide) (fun c_1 => ?_) (fun c_1 => ?_)
  · skip
    have hv8 : v < 8 := (nI_ltI (b := 8) (by omega) (by decide)).mp c_1
    refine lv_aload_n hx hb dX6_doRound_18 rfl (lv_at hl 0 rfl) ?_
    refine mw_get (ci := 5) (C := RX6) (T := TX6) (N := 7) (v := .ref (ad 1)) hx hb hts hinX6 hown hK hP 0 (by decide) cF_0 rfl 0 (by decide) kf9 (fun _ h9 => h9) rfl dX6_doRound_19 ?_
    refine lv_aload_n hx hb dX6_doRound_22 rfl (lv_at hl 1 rfl) ?_
    refine mw_get (ci := 2) (C := RX2) (T := TX2) (N := 4) (v := .int (σ (26 + q) 3)) hx hb hts hinX2 hown hK hP (26 + q) (cB_rnd hq) (cF_rnd hq) rfl 3 (by decide) kf171 (fun _ h9 => h9) rfl dX6_doRound_23 ?_
    refine g_top (y := nI v) hv3 ?_
    refine mw_ild hx hb hK hP 1 (by decide) 0 cF_1 rfl v (by omega) (by decide) rfl dX6_doRound_26 ?_
    refine lv_iconst (v := (-1)) hx hb dX6_doRound_27 (by decide) ?_
    refine lv_icmp_ne (tgt := 40) hx hb dX6_doRound_28 (by decide) (fun c_2 => ?_) (fun c_2 => ?_)
    · skip
      refine lv_aload_n hx hb dX6_doRound_40 rfl (lv_at hl 0 rfl) ?_
      refine mw_get (ci := 5) (C := RX6) (T := TX6) (N := 7) (v := .ref (ad 7)) hx hb hts hinX6 hown hK hP 0 (by decide) cF_0 rfl 5 (by decide) kf38 (fun _ h9 => h9) rfl dX6_doRound_41 ?_
      refine lv_iconst (v := 3) hx hb dX6_doRound_44 (by decide) ?_
      refine g_callV (As := [.int 3]) (rest := []) (N := 7) (T := TX1) (ci := 1) ⟨hx, hb, hml, hown, hts⟩ 7 (c_mark l D cy ad wy mt hj σ 3 (by decide) (rOK.ec hO (by omega))) (cwV 1 hts gX6_doRound_X1_mark rfl rfl rfl (by decide +kernel) ⟨by decide, by decide⟩) h0 hP hS (by decide) cF_7 rfl rfl rfl hl.1 (Nat.le_of_ble_eq_true rfl) dX6_doRound_45 ⟨Nat.zero_le _, Nat.zero_le _⟩ (fun H locs hP hS => ?_)
      refine lv_aload_n hx hb dX6_doRound_48 rfl (lv_at hl 0 rfl) ?_
      refine lv_aload_n hx hb dX6_doRound_49 rfl (lv_at hl 1 rfl) ?_
      refine g_callV (As := [.ref (ad (26 + q))]) (rest := []) (N := 7) (T := TX6) (ci := 5) ⟨hx, hb, hml, hown, hts⟩ 0 (c_doSteps l D cy ad wy mt hj (cMark σ 3) q v hq (by omega) x (by omega) ((kR_mark σ 3).cR hR) (rOK_mark hO (by omega) (by decide)) (by rw [kR_mark σ 3 (26 + q) (by omega)]; exact hv3)) (cwV 1 hts gX6_doRound_X6_doSteps rfl rfl rfl (by decide +kernel) ⟨by decide, by decide⟩) h0 hP hS (by decide) cF_0 rfl rfl rfl hl.1 (Nat.le_of_ble_eq_true rfl) dX6_doRound_50 ⟨Nat.zero_le _, Nat.zero_le _⟩ (fun H locs hP hS => ?_)
      refine lv_astore_n (lv' := [(2, .ref (wy ((cSteps q v 201 (cMark σ 3) 0 0).1))), (0, .ref (ad 0)), (1, .ref (ad (26 + q)))]) hx hb dX6_doRound_53 rfl hl (by decide) rfl (fun ls hl => ?_)
      refine lv_aload_n hx hb dX6_doRound_54 rfl (lv_at hl 1 rfl) ?_
      refine mw_get (ci := 5) (C := RX6) (T := TX6) (N := 7) (v := .ref (ad 7)) hx hb hts hinX6 hown hK hP 0 (by decide) cF_0 rfl 5 (by decide) kf38 (fun _ h9 => h9) rfl dX6_doRound_55 ?_
      refine lv_iconst (v := 4) hx hb dX6_doRound_58 (by decide) ?_
      refine g_callV (As := [.int 4]) (rest := []) (N := 7) (T := TX1) (ci := 1) ⟨hx, hb, hml, hown, hts⟩ 7 (c_mark l D cy ad wy mt hj ((cSteps q v 201 (cMark σ 3) 0 0).2) 4 (by decide) (rOK.ec ((sOK_steps (v := v) hq 201 (cMark σ 3) 0 0 ((kR_mark σ 3).cR hR) (by omega)).2.2 x (by omega) (rOK_mark hO (by omega) (by decide))) (by omega))) (cwV 1 hts gX6_doRound_X1_mark rfl rfl rfl (by decide +kernel) ⟨by decide, by decide⟩) h0 hP hS (by decide) cF_7 rfl rfl rfl hl.1 (Nat.le_of_ble_eq_true rfl) dX6_doRound_59 ⟨Nat.zero_le _, Nat.zero_le _⟩ (fun H locs hP hS => ?_)
      refine lv_aload_n hx hb dX6_doRound_62 rfl (lv_at hl 0 rfl) ?_
      exact g_aret hx hb hr hlocks hP hS dX6_doRound_63 (by unfold cRound; rw [if_pos c_1, if_neg c_2])
    · skip
      refine lv_aload_n hx hb dX6_doRound_31 rfl (lv_at hl 0 rfl) ?_
      refine mw_get (ci := 5) (C := RX6) (T := TX6) (N := 7) (v := .ref (ad 7)) hx hb hts hinX6 hown hK hP 0 (by decide) cF_0 rfl 5 (by decide) kf38 (fun _ h9 => h9) rfl dX6_doRound_32 ?_
      refine lv_iconst (v := 5) hx hb dX6_doRound_35 (by decide) ?_
      refine g_callV (As := [.int 5]) (rest := []) (N := 7) (T := TX1) (ci := 1) ⟨hx, hb, hml, hown, hts⟩ 7 (c_fail l D cy ad wy mt hj σ 5) (cwV 1 hts gX6_doRound_X1_fail rfl rfl rfl (by decide +kernel) ⟨by decide, by decide⟩) h0 hP hS (by decide) cF_7 rfl rfl rfl hl.1 (Nat.le_of_ble_eq_true rfl) dX6_doRound_36 ⟨Nat.zero_le _, Nat.zero_le _⟩ (fun H locs hP hS => ?_)
      exact g_aret hx hb hr hlocks hP hS dX6_doRound_39 (by unfold cRound; rw [if_pos c_1, if_pos c_2])
  · skip
    refine lv_aload_n hx hb dX6_doRound_9 rfl (lv_at hl 0 rfl) ?_
    refine mw_get (ci := 5) (C := RX6) (T := TX6) (N := 7) (v := .ref (ad 7)) hx hb hts hinX6 hown hK hP 0 (by decide) cF_0 rfl 5 (by decide) kf38 (fun _ h9 => h9) rfl dX6_doRound_10 ?_
    refine lv_iconst (v := 4) hx hb dX6_doRound_13 (by decide) ?_
    refine g_callV (As := [.int 4]) (rest := []) (N := 7) (T := TX1) (ci := 1) ⟨hx, hb, hml, hown, hts⟩ 7 (c_fail l D cy ad wy mt hj σ 4) (cwV 1 hts gX6_doRound_X1_fail rfl rfl rfl (by decide +kernel) ⟨by decide, by decide⟩) h0 hP hS (by decide) cF_7 rfl rfl rfl hl.1 (Nat.le_of_ble_eq_true rfl) dX6_doRound_14 ⟨Nat.zero_le _, Nat.zero_le _⟩ (fun H locs hP hS => ?_)
    exact g_aret hx hb hr hlocks hP hS dX6_doRound_17 (by unfold cRound; rw [if_neg c_1])
theorem cR_v {σ : Mem} {q : Nat} (hR : cR σ) (hq : q < 24) : ci (σ (26 + q) 3) ≤ 9 ∧ σ (26 + q) 3 = nI (ci (σ (26 + q) 3)) := by
  obtain ⟨v, hv, e⟩ := (hR.1 q hq).2.1
  unfold ci
  rw [e, nI_clamp (by omega)]
  exact ⟨hv, rfl⟩
theorem sOK_round {q : Nat} (v : Nat) {σ : Mem} (hq : q < 24) (hR : cR σ) : (cRound σ q v).1 < 7 ∧ kR σ (cRound σ q v).2 ∧ ∀ x : Nat, x ≤ 880 → rOK x σ → rOK (x + 2) (cRound σ q v).2 := by
  have hf : ∀ n : Int32, (cFail σ n).1 < 7 ∧ kR σ (cFail σ n).2 ∧ ∀ x : Nat, x ≤ 880 → rOK x σ → rOK (x + 2) (cFail σ n).2 := fun n =>
    ⟨(sOK_fail σ n).1, (sOK_fail σ n).2.1, fun x _ h => ((sOK_fail σ n).2.2 x h).le (by omega)⟩
  unfold cRound
  split
  · split
    · exact hf 5
    · obtain ⟨h1, h2, h3⟩ := sOK_steps (v := v) hq 201 (cMark σ 3) 0 0 ((kR_mark σ 3).cR hR) (by omega)
      refine ⟨h1, ((kR_mark σ 3).tr h2).tr (kR_mark _ 4), fun x hx h => ?_⟩
      exact rOK_mark (h3 x (by omega) (rOK_mark h (by omega) (by decide))) (by omega) (by decide)
  · exact hf 4
/-- what the batch makes of how a round was left -/
def cAfter (b rr : Nat) (r : Nat × Mem) : Nat × Mem := if r.1 = 1 then (0, r.2) else if r.1 = 5 then cTake r.2 (r.2 (12 + b) 2) (nI rr) else r
def cRoundAt (b : Nat) (σ : Mem) (rr : Nat) : Nat × Mem := cAfter b rr (cRound σ (6 * b + rr) (ci (σ (26 + (6 * b + rr)) 3)))
theorem sOK_roundAt {b rr : Nat} {σ : Mem} (hq : 6 * b + rr < 24) (hR : cR σ) : (cRoundAt b σ rr).1 < 7 ∧ kR σ (cRoundAt b σ rr).2 ∧ ∀ x : Nat, x ≤ 880 → rOK x σ → rOK (x + 2) (cRoundAt b σ rr).2 := by
  obtain ⟨h1, h2, h3⟩ := sOK_round (ci (σ (26 + (6 * b + rr)) 3)) hq hR
  unfold cRoundAt cAfter
  split
  · exact ⟨by show (0 : Nat) < 7; decide, h2, h3⟩
  split
  · obtain ⟨g1, g2, g3⟩ := sOK_take (cRound σ (6 * b + rr) (ci (σ (26 + (6 * b + rr)) 3))).2 ((cRound σ (6 * b + rr) (ci (σ (26 + (6 * b + rr)) 3))).2 (12 + b) 2) (nI rr)
    exact ⟨g1, h2.tr g2, fun x hx h => g3 _ (h3 x hx h)⟩
  · exact ⟨h1, h2, h3⟩
def cRounds (b : Nat) : Nat → Mem → Nat → Nat → Nat × Mem
  | 0, σ, _, w => (w, σ)
  | fu + 1, σ, rr, w =>
    if σ (12 + b) 1 ≤ nI rr then (w, σ)
    else if w = 0 then cRounds b fu (cRoundAt b σ rr).2 (rr + 1) (cRoundAt b σ rr).1
    else (w, σ)
theorem cRounds_succ (b fu : Nat) (σ : Mem) (rr w : Nat) : cRounds b (fu + 1) σ rr w = if σ (12 + b) 1 ≤ nI rr then (w, σ)
    else if w = 0 then cRounds b fu (cRoundAt b σ rr).2 (rr + 1) (cRoundAt b σ rr).1
    else (w, σ) := rfl
theorem cR_rr {σ : Mem} {b rr : Nat} (hR : cR σ) (hb : b < 4) (hrr : rr ≤ 6) (hc : ¬ σ (12 + b) 1 ≤ nI rr) : rr < 6 := by
  obtain ⟨k, hk, e⟩ := hR.2 b hb
  rw [e] at hc
  have h1 : ¬ k ≤ rr := fun h => hc ((nI_leI (by omega) (by omega)).mpr h)
  omega
theorem cR_r6 {σ : Mem} {b : Nat} (hR : cR σ) (hb : b < 4) : σ (12 + b) 1 ≤ nI 6 := by
  obtain ⟨k, hk, e⟩ := hR.2 b hb
  rw [e]
  exact nI_le hk (by decide)
theorem sOK_rounds {b : Nat} (hb : b < 4) : ∀ (fu : Nat) (σ : Mem) (rr w : Nat), cR σ → rr ≤ 6 → w < 7 → (cRounds b fu σ rr w).1 < 7 ∧ kR σ (cRounds b fu σ rr w).2 ∧ ∀ x : Nat, x + 12 ≤ 880 → rOK (x + 2 * rr) σ → rOK (x + 12) (cRounds b fu σ rr w).2
  | 0, σ, rr, w, _, hrr, hw => ⟨hw, kR.rf σ, fun x _ h => h.le (by omega)⟩
  | fu + 1, σ, rr, w, hR, hrr, hw => by
    unfold cRounds
    split
    · exact ⟨hw, kR.rf σ, fun x _ h => h.le (by omega)⟩
    split
    · rename_i hc hw0
      have h6 := cR_rr hR hb hrr hc
      obtain ⟨h1, h2, h3⟩ := sOK_roundAt (b := b) (rr := rr) (by omega) hR
      obtain ⟨g1, g2, g3⟩ := sOK_rounds hb fu (cRoundAt b σ rr).2 (rr + 1) (cRoundAt b σ rr).1 (h2.cR hR) (by omega) h1
      exact ⟨g1, h2.tr g2, fun x hx h => g3 x hx ((h3 _ (by omega) h).le (by omega))⟩
    · exact ⟨hw, kR.rf σ, fun x _ h => h.le (by omega)⟩
def cBatch (σ : Mem) (b : Nat) : Nat × Mem := (if (cRounds b 7 (cMark σ 1) 0 0).1 = 3 then 0 else (cRounds b 7 (cMark σ 1) 0 0).1, cMark (cRounds b 7 (cMark σ 1) 0 0).2 2)
theorem sOK_batch {b : Nat} {σ : Mem} (hb : b < 4) (hR : cR σ) : (cBatch σ b).1 < 7 ∧ kR σ (cBatch σ b).2 ∧ ∀ x : Nat, x ≤ 800 → rOK x σ → rOK (x + 14) (cBatch σ b).2 := by
  obtain ⟨h1, h2, h3⟩ := sOK_rounds hb 7 (cMark σ 1) 0 0 ((kR_mark σ 1).cR hR) (by omega) (by decide)
  refine ⟨?_, ((kR_mark σ 1).tr h2).tr (kR_mark _ 2), fun x hx h => ?_⟩
  · show (if _ = 3 then 0 else _) < 7
    split
    · decide
    · exact h1
  · exact rOK_mark (h3 (x + 1) (by omega) (rOK_mark h (by omega) (by decide))) (by omega) (by decide)
set_option maxHeartbeats 4000000 in
set_option maxRecDepth 100000 in
theorem c_doBatch (l : Launch) (D : va_G) (cy : Nat → ClassId) (ad wy : Nat → Nat) (mt : Nat) (hj : mJ 98 ad) (σ : Mem) (b : Nat) (hb4 : b < 4) (x : Nat) (hx9 : x ≤ 800) (hR : cR σ) (hO : rOK x σ) : Met l yX6_doBatch wsX6_doBatch ({ frames := 5, cells := 0, slots := 0, locals := 117 }) (va_Pc [.ref (ad 0), .ref (ad (12 + b))] (gPre 98 ad (cF ad cy) D cy wy mt σ)) (gQ 98 ad (cF ad cy) D (some (.ref (wy (cBatch σ b).1))) (cBatch σ b).2) 0 0 (mA 98 ad) := by
  refine g_met (cc := cX6_doBatch) (maxL := 4) (ret := (some (.object "BenchRuns$Way"))) (by decide) rfl (Nat.le_of_ble_eq_true rfl) ?_
  intro p e s m below meth c S hr hlocks h0 ls hl
  obtain ⟨hx, hb, hml, hown, hts⟩ := S
  have hP := h0.1
  have hK := h0.2.1
  have hS : va_S (mA 98 ad) s.heap s.heap [] := va_S.rf
  have hl : lv_has ls 4 [(0, .ref (ad 0)), (1, .ref (ad (12 + b)))] := hl
  have kf145 : (Cond.fieldLink RX6 145 "BenchRuns$Way" "ONWARD" "LBenchRuns$Way;").before (#[.ref (ad 0), .ref (ad (12 + b))] : Array Value) s = true := hts _ (by decide +kernel)
  have kf38 : (Cond.fieldLink RX6 38 "BenchRuns" "log" "LBenchRuns$Log;").before (#[.ref (ad 0), .ref (ad (12 + b))] : Array Value) s = true := hts _ (by decide +kernel)
  have hinX6 : ∀ w ∈ u_ws RX6 TX6 7, w ∈ wsX6_doBatch := by decide +kernel
  have kf56 : (Cond.fieldLink RX6 56 "BenchRuns$Batch" "roundCount" "I").before (#[.ref (ad 0), .ref (ad (12 + b))] : Array Value) s = true := hts _ (by decide +kernel)
  have hinX0 : ∀ w ∈ u_ws RX0 TX0 3, w ∈ wsX6_doBatch := by decide +kernel
  have kf165 : (Cond.fieldLink RX6 165 "BenchRuns$Way" "BREAK" "LBenchRuns$Way;").before (#[.ref (ad 0), .ref (ad (12 + b))] : Array Value) s = true := hts _ (by decide +kernel)
  have kf69 : (Cond.fieldLink RX6 69 "BenchRuns$Batch" "rounds" "[LBenchRuns$Round;").before (#[.ref (ad 0), .ref (ad (12 + b))] : Array Value) s = true := hts _ (by decide +kernel)
  have kf155 : (Cond.fieldLink RX6 155 "BenchRuns$Way" "SKIP" "LBenchRuns$Way;").before (#[.ref (ad 0), .ref (ad (12 + b))] : Array Value) s = true := hts _ (by decide +kernel)
  have kf104 : (Cond.fieldLink RX6 104 "BenchRuns$Way" "FAILURE" "LBenchRuns$Way;").before (#[.ref (ad 0), .ref (ad (12 + b))] : Array Value) s = true := hts _ (by decide +kernel)
  have kf158 : (Cond.fieldLink RX6 158 "BenchRuns$Batch" "mode" "I").before (#[.ref (ad 0), .ref (ad (12 + b))] : Array Value) s = true := hts _ (by decide +kernel)
  refine g_way hx hb h0 hS hown 0 (by decide) rfl kf145 dX6_doBatch_0 ?_
  refine lv_astore_n (lv' := [(2, .ref (wy 0)), (0, .ref (ad 0)), (1, .ref (ad (12 + b)))]) hx hb dX6_doBatch_3 rfl hl (by decide) rfl (fun ls hl => ?_)
  refine lv_aload_n hx hb dX6_doBatch_4 rfl (lv_at hl 1 rfl) ?_
  refine mw_get (ci := 5) (C := RX6) (T := TX6) (N := 7) (v := .ref (ad 7)) hx hb hts hinX6 hown hK hP 0 (by decide) cF_0 rfl 5 (by decide) kf38 (fun _ h9 => h9) rfl dX6_doBatch_5 ?_
  refine lv_iconst (v := 1) hx hb dX6_doBatch_8 (by decide) ?_
  refine g_callV (As := [.int 1]) (rest := []) (N := 7) (T := TX1) (ci := 1) ⟨hx, hb, hml, hown, hts⟩ 7 (c_mark l D cy ad wy mt hj σ 1 (by decide) (rOK.ec hO (by omega))) (cwV 1 hts gX6_doBatch_X1_mark rfl rfl rfl (by decide +kernel) ⟨by decide, by decide⟩) h0 hP hS (by decide) cF_7 rfl rfl rfl hl.1 (Nat.le_of_ble_eq_true rfl) dX6_doBatch_9 ⟨Nat.zero_le _, Nat.zero_le _⟩ (fun H locs hP hS => ?_)
  refine lv_iconst (v := 0) hx hb dX6_doBatch_12 (by decide) ?_
  refine lv_istore_n (lv' := [(3, .int 0), (2, .ref (wy 0)), (0, .ref (ad 0)), (1, .ref (ad (12 + b)))]) hx hb dX6_doBatch_13 rfl hl (by decide) rfl (fun ls hl => ?_)
  have loop : ∀ (fu rr w : Nat) (τ : Mem) (H : Heap) (locs : List Loc) (ls : Array Slot), rr + fu = 7 → rr ≤ 6 → w < 7 → cR τ → rOK (x + 1 + 2 * rr) τ → cRounds b fu τ rr w = cRounds b 7 (cMark σ 1) 0 0 → va_P D vwCl (mW 98 ad (cF ad cy) τ) H → va_S (mA 98 ad) s.heap H locs → lv_has ls 4 [(3, .int (nI rr)), (2, .ref (wy w)), (0, .ref (ad 0)), (1, .ref (ad (12 + b)))] → W p l e ({ frames := 5, cells := 0, slots := 0, locals := 117 }) s m ([.ref (ad 0), .ref (ad (12 + b))] : List Value).toArray below meth c H locs 0 0 (MQ below (gQ 98 ad (cF ad cy) D (some (.ref (wy (cBatch σ b).1))) (cBatch σ b).2) ([.ref (ad 0), .ref (ad (12 + b))] : List Value).toArray s 0 0 (mA 98 ad)) (F0 m 14 ls []) := by
    intro fu
    induction fu with
    | zero =>
      intro rr w τ H locs ls htn hrr
      exact absurd htn (by omega)
    | succ fu ih =>
      intro rr w τ H locs ls htn hrr hw hR hO hf hP hS hl
      refine lv_iload_n hx hb dX6_doBatch_14 rfl (lv_at hl 0 rfl) ?_
      refine lv_aload_n hx hb dX6_doBatch_15 rfl (lv_at hl 3 rfl) ?_
      refine mw_get (ci := 0) (C := RX0) (T := TX0) (N := 3) (v := .int (τ (12 + b) 1)) hx hb hts hinX0 hown hK hP (12 + b) (cB_bat hb4) (cF_bat hb4) rfl 1 (by decide) kf56 (fun _ h9 => h9) rfl dX6_doBatch_16 ?_
      refine lv_icmp_ge (tgt := 77) hx hb dX6_doBatch_19 (by decide) (fun c_1 => ?_) (fun c_1 => ?_)
      · skip
        have hE : cRounds b 7 (cMark σ 1) 0 0 = (w, τ) := hf.symm.trans (by rw [cRounds_succ, if_pos c_1])
        refine lv_aload_n hx hb dX6_doBatch_77 rfl (lv_at hl 2 rfl) ?_
        refine mw_get (ci := 5) (C := RX6) (T := TX6) (N := 7) (v := .ref (ad 7)) hx hb hts hinX6 hown hK hP 0 (by decide) cF_0 rfl 5 (by decide) kf38 (fun _ h9 => h9) rfl dX6_doBatch_78 ?_
        refine lv_iconst (v := 2) hx hb dX6_doBatch_81 (by decide) ?_
        refine g_callV (As := [.int 2]) (rest := []) (N := 7) (T := TX1) (ci := 1) ⟨hx, hb, hml, hown, hts⟩ 7 (c_mark l D cy ad wy mt hj τ 2 (by decide) (rOK.ec hO (by omega))) (cwV 1 hts gX6_doBatch_X1_mark rfl rfl rfl (by decide +kernel) ⟨by decide, by decide⟩) h0 hP hS (by decide) cF_7 rfl rfl rfl hl.1 (Nat.le_of_ble_eq_true rfl) dX6_doBatch_82 ⟨Nat.zero_le _, Nat.zero_le _⟩ (fun H locs hP hS => ?_)
        refine lv_aload_n hx hb dX6_doBatch_85 rfl (lv_at hl 1 rfl) ?_
        refine g_way hx hb h0 hS hown 3 (by decide) rfl kf165 dX6_doBatch_86 ?_
        refine g_wne (a := w) (b := 3) (tgt := 98) hx hb h0 hw (by decide) dX6_doBatch_89 (by decide) (fun c_2 => ?_) (fun c_2 => ?_)
        · skip
          refine lv_aload_n hx hb dX6_doBatch_98 rfl (lv_at hl 1 rfl) ?_
          exact g_aret hx hb hr hlocks hP hS dX6_doBatch_99 (by unfold cBatch; rw [hE]; dsimp only; rw [if_neg c_2])
        · skip
          refine g_way hx hb h0 hS hown 0 (by decide) rfl kf145 dX6_doBatch_92 ?_
          refine lv_goto (tgt := 99) hx hb dX6_doBatch_95 (by decide) ?_
          exact g_aret hx hb hr hlocks hP hS dX6_doBatch_99 (by unfold cBatch; rw [hE]; dsimp only; rw [if_pos c_2])
      · skip
        refine lv_aload_n hx hb dX6_doBatch_22 rfl (lv_at hl 1 rfl) ?_
        refine g_way hx hb h0 hS hown 0 (by decide) rfl kf145 dX6_doBatch_23 ?_
        refine g_wne (a := w) (b := 0) (tgt := 77) hx hb h0 hw (by decide) dX6_doBatch_26 (by decide) (fun c_3 => ?_) (fun c_3 => ?_)
        · skip
          have hE : cRounds b 7 (cMark σ 1) 0 0 = (w, τ) := hf.symm.trans (by rw [cRounds_succ, if_neg c_1, if_neg c_3])
          refine lv_aload_n hx hb dX6_doBatch_77 rfl (lv_at hl 2 rfl) ?_
          refine mw_get (ci := 5) (C := RX6) (T := TX6) (N := 7) (v := .ref (ad 7)) hx hb hts hinX6 hown hK hP 0 (by decide) cF_0 rfl 5 (by decide) kf38 (fun _ h9 => h9) rfl dX6_doBatch_78 ?_
          refine lv_iconst (v := 2) hx hb dX6_doBatch_81 (by decide) ?_
          refine g_callV (As := [.int 2]) (rest := []) (N := 7) (T := TX1) (ci := 1) ⟨hx, hb, hml, hown, hts⟩ 7 (c_mark l D cy ad wy mt hj τ 2 (by decide) (rOK.ec hO (by omega))) (cwV 1 hts gX6_doBatch_X1_mark rfl rfl rfl (by decide +kernel) ⟨by decide, by decide⟩) h0 hP hS (by decide) cF_7 rfl rfl rfl hl.1 (Nat.le_of_ble_eq_true rfl) dX6_doBatch_82 ⟨Nat.zero_le _, Nat.zero_le _⟩ (fun H locs hP hS => ?_)
          refine lv_aload_n hx hb dX6_doBatch_85 rfl (lv_at hl 1 rfl) ?_
          refine g_way hx hb h0 hS hown 3 (by decide) rfl kf165 dX6_doBatch_86 ?_
          refine g_wne (a := w) (b := 3) (tgt := 98) hx hb h0 hw (by decide) dX6_doBatch_89 (by decide) (fun c_4 => ?_) (fun c_4 => ?_)
          · skip
            refine lv_aload_n hx hb dX6_doBatch_98 rfl (lv_at hl 1 rfl) ?_
            exact g_aret hx hb hr hlocks hP hS dX6_doBatch_99 (by unfold cBatch; rw [hE]; dsimp only; rw [if_neg c_4])
          · skip
            refine g_way hx hb h0 hS hown 0 (by decide) rfl kf145 dX6_doBatch_92 ?_
            refine lv_goto (tgt := 99) hx hb dX6_doBatch_95 (by decide) ?_
            exact g_aret hx hb hr hlocks hP hS dX6_doBatch_99 (by unfold cBatch; rw [hE]; dsimp only; rw [if_pos c_4])
        · skip
          have hr6 := cR_rr hR hb4 hrr c_1
          have hq : 6 * b + rr < 24 := by omega
          have hv0 := cR_v hR hq
          have hS1 := sOK_round (ci (τ (26 + (6 * b + rr)) 3)) hq hR
          refine lv_aload_n hx hb dX6_doBatch_29 rfl (lv_at hl 2 rfl) ?_
          refine lv_aload_n hx hb dX6_doBatch_30 rfl (lv_at hl 3 rfl) ?_
          refine mw_get (ci := 0) (C := RX0) (T := TX0) (N := 3) (v := .ref (ad (16 + b))) hx hb hts hinX0 hown hK hP (12 + b) (cB_bat hb4) (cF_bat hb4) rfl 0 (by decide) kf69 (fun _ h9 => h9) rfl dX6_doBatch_31 ?_
          refine lv_iload_n hx hb dX6_doBatch_34 rfl (lv_at hl 0 rfl) ?_
          have ha_5 : rr < 6 := (by omega)
          refine mw_ald (f := fun q => ad (26 + (6 * b + q))) hx hb hK hP (16 + b) (cB_row hb4) 3 (cF_row hb4) rfl rr ha_5 (by decide) rfl dX6_doBatch_35 ?_
          refine g_callV (As := [.ref (ad (26 + (6 * b + rr)))]) (rest := []) (N := 7) (T := TX6) (ci := 5) ⟨hx, hb, hml, hown, hts⟩ 0 (c_doRound l D cy ad wy mt hj τ (6 * b + rr) (ci (τ (26 + (6 * b + rr)) 3)) (cB_q hb4 ha_5) hv0.1 (x + 1 + 2 * rr) (by omega) hR hO hv0.2) (cwV 1 hts gX6_doBatch_X6_doRound rfl rfl rfl (by decide +kernel) ⟨by decide, by decide⟩) h0 hP hS (by decide) cF_0 rfl rfl rfl hl.1 (Nat.le_of_ble_eq_true rfl) dX6_doBatch_36 ⟨Nat.zero_le _, Nat.zero_le _⟩ (fun H locs hP hS => ?_)
          refine lv_astore_n (lv' := [(2, .ref (wy ((cRound τ (6 * b + rr) (ci (τ (26 + (6 * b + rr)) 3))).1))), (3, .int (nI rr)), (0, .ref (ad 0)), (1, .ref (ad (12 + b)))]) hx hb dX6_doBatch_39 rfl hl (by decide) rfl (fun ls hl => ?_)
          refine lv_aload_n hx hb dX6_doBatch_40 rfl (lv_at hl 0 rfl) ?_
          refine g_way hx hb h0 hS hown 1 (by decide) rfl kf155 dX6_doBatch_41 ?_
          refine g_wne (a := (cRound τ (6 * b + rr) (ci (τ (26 + (6 * b + rr)) 3))).1) (b := 1) (tgt := 54) hx hb h0 hS1.1 (by decide) dX6_doBatch_44 (by decide) (fun c_6 => ?_) (fun c_6 => ?_)
          · skip
            refine lv_aload_n hx hb dX6_doBatch_54 rfl (lv_at hl 0 rfl) ?_
            refine g_way hx hb h0 hS hown 5 (by decide) rfl kf104 dX6_doBatch_55 ?_
            refine g_wne (a := (cRound τ (6 * b + rr) (ci (τ (26 + (6 * b + rr)) 3))).1) (b := 5) (tgt := 71) hx hb h0 hS1.1 (by decide) dX6_doBatch_58 (by decide) (fun c_7 => ?_) (fun c_7 => ?_)
            · skip
              have eR : cRoundAt b τ rr = cRound τ (6 * b + rr) (ci (τ (26 + (6 * b + rr)) 3)) := by unfold cRoundAt cAfter; rw [if_neg c_6, if_neg c_7]
              have hS2 := sOK_roundAt (b := b) (rr := rr) hq hR
              rw [eR] at hS2
              refine lv_iinc (v := nI (rr + 1)) (lv' := [(3, .int (nI (rr + 1))), (2, .ref (wy ((cRound τ (6 * b + rr) (ci (τ (26 + (6 * b + rr)) 3))).1))), (0, .ref (ad 0)), (1, .ref (ad (12 + b)))]) hx hb dX6_doBatch_71 hl (k := 1) rfl (nI_1 rr) (by decide) rfl (fun ls hl => ?_)
              refine lv_goto (tgt := 14) hx hb dX6_doBatch_74 (by decide) ?_
              exact ih (rr + 1) ((cRound τ (6 * b + rr) (ci (τ (26 + (6 * b + rr)) 3))).1) ((cRound τ (6 * b + rr) (ci (τ (26 + (6 * b + rr)) 3))).2) H locs ls (by omega) (by omega) hS2.1 (hS2.2.1.cR hR) ((hS2.2.2 _ (by omega) hO).le (by omega)) (Eq.trans (by rw [cRounds_succ, if_neg c_1, if_pos c_3, eR]) hf) hP hS (lv_sub hl [0, 1, 2, 3] rfl)
            · skip
              refine lv_aload_n hx hb dX6_doBatch_61 rfl (lv_at hl 2 rfl) ?_
              refine lv_aload_n hx hb dX6_doBatch_62 rfl (lv_at hl 3 rfl) ?_
              refine mw_get (ci := 0) (C := RX0) (T := TX0) (N := 3) (v := .int (((cRound τ (6 * b + rr) (ci (τ (26 + (6 * b + rr)) 3))).2) (12 + b) 2)) hx hb hts hinX0 hown hK hP (12 + b) (cB_bat hb4) (cF_bat hb4) rfl 2 (by decide) kf158 (fun _ h9 => h9) rfl dX6_doBatch_63 ?_
              refine lv_iload_n hx hb dX6_doBatch_66 rfl (lv_at hl 1 rfl) ?_
              refine g_callV (As := [.int (((cRound τ (6 * b + rr) (ci (τ (26 + (6 * b + rr)) 3))).2) (12 + b) 2), .int (nI rr)]) (rest := []) (N := 7) (T := TX6) (ci := 5) ⟨hx, hb, hml, hown, hts⟩ 0 (c_takeFailure l D cy ad wy mt hj ((cRound τ (6 * b + rr) (ci (τ (26 + (6 * b + rr)) 3))).2) (((cRound τ (6 * b + rr) (ci (τ (26 + (6 * b + rr)) 3))).2) (12 + b) 2) (nI rr) _ (hS1.2.2 (x + 1 + 2 * rr) (by omega) hO)) (cwV 2 hts gX6_doBatch_X6_takeFailure rfl rfl rfl (by decide +kernel) ⟨by decide, by decide⟩) h0 hP hS (by decide) cF_0 rfl rfl rfl hl.1 (Nat.le_of_ble_eq_true rfl) dX6_doBatch_67 ⟨Nat.zero_le _, Nat.zero_le _⟩ (fun H locs hP hS => ?_)
              refine lv_astore_n (lv' := [(2, .ref (wy ((cTake ((cRound τ (6 * b + rr) (ci (τ (26 + (6 * b + rr)) 3))).2) (((cRound τ (6 * b + rr) (ci (τ (26 + (6 * b + rr)) 3))).2) (12 + b) 2) (nI rr)).1))), (3, .int (nI rr)), (0, .ref (ad 0)), (1, .ref (ad (12 + b)))]) hx hb dX6_doBatch_70 rfl hl (by decide) rfl (fun ls hl => ?_)
              have eR : cRoundAt b τ rr = cTake ((cRound τ (6 * b + rr) (ci (τ (26 + (6 * b + rr)) 3))).2) (((cRound τ (6 * b + rr) (ci (τ (26 + (6 * b + rr)) 3))).2) (12 + b) 2) (nI rr) := by unfold cRoundAt cAfter; rw [if_neg c_6, if_pos c_7]
              have hS2 := sOK_roundAt (b := b) (rr := rr) hq hR
              rw [eR] at hS2
              refine lv_iinc (v := nI (rr + 1)) (lv' := [(3, .int (nI (rr + 1))), (2, .ref (wy ((cTake ((cRound τ (6 * b + rr) (ci (τ (26 + (6 * b + rr)) 3))).2) (((cRound τ (6 * b + rr) (ci (τ (26 + (6 * b + rr)) 3))).2) (12 + b) 2) (nI rr)).1))), (0, .ref (ad 0)), (1, .ref (ad (12 + b)))]) hx hb dX6_doBatch_71 hl (k := 1) rfl (nI_1 rr) (by decide) rfl (fun ls hl => ?_)
              refine lv_goto (tgt := 14) hx hb dX6_doBatch_74 (by decide) ?_
              exact ih (rr + 1) ((cTake ((cRound τ (6 * b + rr) (ci (τ (26 + (6 * b + rr)) 3))).2) (((cRound τ (6 * b + rr) (ci (τ (26 + (6 * b + rr)) 3))).2) (12 + b) 2) (nI rr)).1) ((cTake ((cRound τ (6 * b + rr) (ci (τ (26 + (6 * b + rr)) 3))).2) (((cRound τ (6 * b + rr) (ci (τ (26 + (6 * b + rr)) 3))).2) (12 + b) 2) (nI rr)).2) H locs ls (by omega) (by omega) hS2.1 (hS2.2.1.cR hR) ((hS2.2.2 _ (by omega) hO).le (by omega)) (Eq.trans (by rw [cRounds_succ, if_neg c_1, if_pos c_3, eR]) hf) hP hS (lv_sub hl [0, 1, 2, 3] rfl)
          · skip
            refine g_way hx hb h0 hS hown 0 (by decide) rfl kf145 dX6_doBatch_47 ?_
            refine lv_astore_n (lv' := [(2, .ref (wy 0)), (3, .int (nI rr)), (0, .ref (ad 0)), (1, .ref (ad (12 + b)))]) hx hb dX6_doBatch_50 rfl hl (by decide) rfl (fun ls hl => ?_)
            refine lv_goto (tgt := 71) hx hb dX6_doBatch_51 (by decide) ?_
            have eR : cRoundAt b τ rr = (0, (cRound τ (6 * b + rr) (ci (τ (26 + (6 * b + rr)) 3))).2) := by unfold cRoundAt cAfter; rw [if_pos c_6]
            have hS2 := sOK_roundAt (b := b) (rr := rr) hq hR
            rw [eR] at hS2
            dsimp only at hS2
            refine lv_iinc (v := nI (rr + 1)) (lv' := [(3, .int (nI (rr + 1))), (2, .ref (wy 0)), (0, .ref (ad 0)), (1, .ref (ad (12 + b)))]) hx hb dX6_doBatch_71 hl (k := 1) rfl (nI_1 rr) (by decide) rfl (fun ls hl => ?_)
            refine lv_goto (tgt := 14) hx hb dX6_doBatch_74 (by decide) ?_
            exact ih (rr + 1) 0 ((cRound τ (6 * b + rr) (ci (τ (26 + (6 * b + rr)) 3))).2) H locs ls (by omega) (by omega) hS2.1 (hS2.2.1.cR hR) ((hS2.2.2 _ (by omega) hO).le (by omega)) (Eq.trans (by rw [cRounds_succ, if_neg c_1, if_pos c_3, eR]) hf) hP hS (lv_sub hl [0, 1, 2, 3] rfl)
  exact loop 7 0 0 (cMark σ 1) _ _ ls (by omega) (by omega) (by decide) ((kR_mark σ 1).cR hR) (rOK_mark hO (by omega) (by decide)) rfl hP hS (lv_sub hl [0, 1, 2, 3] rfl)
end
section
theorem inR_0 {v lo hi : Int32} (h : ¬ inR v lo hi = 0) : ¬ v < lo ∧ ¬ hi < v := by
  unfold inR at h
  by_cases h1 : v < lo
  · rw [if_pos h1] at h; exact absurd rfl h
  · rw [if_neg h1] at h
    by_cases h2 : hi < v
    · rw [if_pos h2] at h; exact absurd rfl h
    · exact ⟨h1, h2⟩
theorem inR_T {v lo hi : Int32} (h : ¬ inR v lo hi = 0) : lo.toInt ≤ v.toInt ∧ v.toInt ≤ hi.toInt := by
  obtain ⟨h1, h2⟩ := inR_0 h
  rw [Int32.lt_iff_toInt_lt] at h1 h2
  omega
theorem inR_in {v M : Int32} {N : Nat} (hM : M.toInt + 1 = N) (h : ¬ inR v 0 M = 0) : vp_in v N := by
  obtain ⟨h1, h2⟩ := inR_T h
  have h0 : (0 : Int32).toInt = 0 := by decide
  exact vp_in_iff.mpr ⟨by omega, by omega⟩
theorem nI_m1T {k : Nat} (hk : k < 2 ^ 31) : (nI k - 1).toInt = (k : Int) - 1 := by
  cases k with
  | zero => decide
  | succ k => rw [nI_pred, nI_toInt (by omega)]; omega
theorem inR_k {v : Int32} {k N : Nat} (hk : k ≤ N) (hN : N < 2 ^ 31) (h : ¬ inR v 0 (nI k - 1) = 0) : vp_in v N ∧ v.toInt < k := by
  obtain ⟨h1, h2⟩ := inR_T h
  rw [nI_m1T (by omega)] at h2
  have h0 : (0 : Int32).toInt = 0 := by decide
  exact ⟨vp_in_iff.mpr ⟨by omega, by omega⟩, by omega⟩
theorem inR_box {σ : Mem} {v : Int32} (hb : bxK σ) (h : ¬ inR v 0 (σ 5 2 - 1) = 0) : vp_in v 18 := by
  rcases hb with e | ⟨k, hk, e⟩
  · rw [e] at h
    obtain ⟨h1, h2⟩ := inR_T h
    have h0 : (0 : Int32).toInt = 0 := by decide
    have h3 : ((-4 : Int32) - 1).toInt = -5 := by decide
    omega
  · rw [e] at h
    exact (inR_k hk (by decide) h).1
theorem inR_nc {σ : Mem} {v : Int32} (hb : lgK σ) (h : ¬ inR v 0 (σ 7 4 - 1) = 0) : vp_in v 24 := by
  obtain ⟨⟨k, hk, e⟩, -⟩ := hb
  rw [e] at h
  exact (inR_k hk (by decide) h).1
theorem inR_why {σ : Mem} {v : Int32} (hb : lgK σ) (h : ¬ inR v 0 (σ 7 6 - 1) = 0) : vp_in (σ 7 6 - 1 - v) 4 := by
  obtain ⟨-, k, hk, e⟩ := hb
  rw [e] at h ⊢
  obtain ⟨h1, h2⟩ := inR_k hk (by decide) h
  obtain ⟨j, hj, rfl⟩ := vp_in_of h1 (by decide)
  rw [nI_toInt (by omega)] at h2
  cases k with
  | zero => omega
  | succ k =>
    rw [nI_pred, pk_sub (by omega)]
    exact vp_in_nI (by omega) (by decide)
theorem inR_tr {x : Nat} {σ : Mem} {v : Int32} (hO : rOK x σ) (hx : x ≤ 1000) (h : ¬ inR v 0 ((if (400 : Int32) < σ 7 2 then 400 else σ 7 2) - 1) = 0) : vp_in v 400 := by
  obtain ⟨⟨k, li, e, -, h3, h4⟩, -⟩ := hO
  rw [e] at h
  by_cases hc : (400 : Int32) < nI k
  · rw [if_pos hc] at h
    exact inR_in (by decide) h
  · rw [if_neg hc] at h
    have hk : k ≤ 400 := Nat.not_lt.mp fun q => hc ((nI_ltI (a := 400) (by decide) (by omega)).mpr q)
    exact (inR_k hk (by decide) h).1
theorem inR_told {v : Int32} (h : ¬ inR v 0 7 = 0) (h7 : ¬ v = 7) (h6 : ¬ v = 6) : vp_in (v + 1) 7 := by
  obtain ⟨j, hj, rfl⟩ := vp_in_of (inR_in (N := 8) (by decide) h) (by decide)
  rw [nI_1]
  have a7 : ¬ j = 7 := fun q => h7 (by rw [q]; rfl)
  have a6 : ¬ j = 6 := fun q => h6 (by rw [q]; rfl)
  exact vp_in_nI (by omega) (by decide)
theorem rc_in {σ : Mem} {b : Nat} (hR : cR σ) (hb : b < 4) (h : ¬ σ (12 + b) 1 = 0) : vp_in (σ (12 + b) 1 - 1) 6 := by
  obtain ⟨k, hk, e⟩ := hR.2 b hb
  rw [e] at h ⊢
  cases k with
  | zero => exact absurd nI_0 h
  | succ k => rw [nI_pred]; exact vp_in_nI (by omega) (by decide)
theorem rc_lt {σ : Mem} {b : Nat} (hR : cR σ) (hb : b < 4) : σ (12 + b) 1 < 6 → vp_in (σ (12 + b) 1) 6 := by
  obtain ⟨k, hk, e⟩ := hR.2 b hb
  rw [e]
  intro h
  exact vp_in_nI ((nI_ltI (b := 6) (by omega) (by decide)).mp h) (by decide)
theorem sc_lt {σ : Mem} {q : Nat} (hR : cR σ) (hq : q < 24) : σ (26 + q) 2 < 8 → vp_in (σ (26 + q) 2) 8 := by
  obtain ⟨k, hk, e⟩ := (hR.1 q hq).1
  rw [e]
  intro h
  exact vp_in_nI ((nI_ltI (b := 8) (by omega) (by decide)).mp h) (by decide)
def cpVial (σ : Mem) (v d : Int32) : Int32 × Mem :=
  if inR v 0 7 = 0 then ((-1), σ)
  else if inR d (-1) 1000 = 0 then ((-1), σ)
  else (orN (σ 1 (ci v)), mset σ 1 (ci v) d)
set_option maxHeartbeats 4000000 in
set_option maxRecDepth 100000 in
theorem c_vial (l : Launch) (D : va_G) (cy : Nat → ClassId) (ad wy : Nat → Nat) (mt : Nat) (hj : mJ 98 ad) (σ : Mem) (v d : Int32)  : Met l yX6_vial wsX6_vial ({ frames := 1, cells := 0, slots := 0, locals := 22 }) (va_Pc [.ref (ad 0), .int v, .int d] (gPre 98 ad (cF ad cy) D cy wy mt σ)) (gQ 98 ad (cF ad cy) D (some (.int (cpVial σ v d).1)) (cpVial σ v d).2) 0 0 (mA 98 ad) := by
  refine g_met (cc := cX6_vial) (maxL := 4) (ret := (some .int)) (by decide) rfl (Nat.le_of_ble_eq_true rfl) ?_
  intro p e s m below meth c S hr hlocks h0 ls hl
  obtain ⟨hx, hb, hml, hown, hts⟩ := S
  have hP := h0.1
  have hK := h0.2.1
  have hS : va_S (mA 98 ad) s.heap s.heap [] := va_S.rf
  have hl : lv_has ls 4 [(0, .ref (ad 0)), (1, .int v), (2, .int d)] := hl
  have kf9 : (Cond.fieldLink RX6 9 "BenchRuns" "vialDrops" "[I").before (#[.ref (ad 0), .int v, .int d] : Array Value) s = true := hts _ (by decide +kernel)
  have hinX6 : ∀ w ∈ u_ws RX6 TX6 7, w ∈ wsX6_vial := by decide +kernel
  refine lv_iload_n hx hb dX6_vial_0 rfl (lv_at hl 1 rfl) ?_
  refine lv_iconst (v := 0) hx hb dX6_vial_1 (by decide) ?_
  refine lv_bipush (v := 7) hx hb dX6_vial_2 (by decide) ?_
  refine g_callS (As := [.int v, .int 0, .int 7]) (rest := []) ⟨hx, hb, hml, hown, hts⟩ (c_within l v 0 7) (va_cwS 3 hts gX6_vial_X6_within rfl rfl rfl (by decide +kernel) ⟨by decide, by decide⟩) rfl rfl hl.1 (Nat.le_of_ble_eq_true rfl) dX6_vial_4 ⟨Nat.zero_le _, Nat.zero_le _⟩ ?_
  refine lv_if_eq (tgt := 21) hx hb dX6_vial_7 (by decide) (fun c_1 => ?_) (fun c_1 => ?_)
  · skip
    refine lv_iconst (v := (-1)) hx hb dX6_vial_21 (by decide) ?_
    exact g_iret hx hb hr hlocks hP hS dX6_vial_22 (by unfold cpVial; rw [if_pos c_1])
  · skip
    have ix_v : vp_in v 8 := (inR_in (by decide) c_1)
    refine lv_iload_n hx hb dX6_vial_10 rfl (lv_at hl 2 rfl) ?_
    refine lv_iconst (v := (-1)) hx hb dX6_vial_11 (by decide) ?_
    refine lv_sipush (v := 1000) hx hb dX6_vial_12 (by decide) ?_
    refine g_callS (As := [.int d, .int (-1), .int 1000]) (rest := []) ⟨hx, hb, hml, hown, hts⟩ (c_within l d (-1) 1000) (va_cwS 3 hts gX6_vial_X6_within rfl rfl rfl (by decide +kernel) ⟨by decide, by decide⟩) rfl rfl hl.1 (Nat.le_of_ble_eq_true rfl) dX6_vial_15 ⟨Nat.zero_le _, Nat.zero_le _⟩ ?_
    refine lv_if_ne (tgt := 23) hx hb dX6_vial_18 (by decide) (fun c_2 => ?_) (fun c_2 => ?_)
    · skip
      refine lv_aload_n hx hb dX6_vial_23 rfl (lv_at hl 0 rfl) ?_
      refine mw_get (ci := 5) (C := RX6) (T := TX6) (N := 7) (v := .ref (ad 1)) hx hb hts hinX6 hown hK hP 0 (by decide) cF_0 rfl 0 (by decide) kf9 (fun _ h9 => h9) rfl dX6_vial_24 ?_
      refine lv_iload_n hx hb dX6_vial_27 rfl (lv_at hl 1 rfl) ?_
      refine mw_ild hx hb hK hP 1 (by decide) 0 cF_1 rfl (ci v) (ci_lt ix_v) (by decide) (ci_eq ix_v (by decide)) dX6_vial_28 ?_
      refine g_callS (As := [.int (σ 1 (ci v))]) (rest := []) ⟨hx, hb, hml, hown, hts⟩ (c_orNone l (σ 1 (ci v))) (va_cwS 1 hts gX6_vial_X6_orNone rfl rfl rfl (by decide +kernel) ⟨by decide, by decide⟩) rfl rfl hl.1 (Nat.le_of_ble_eq_true rfl) dX6_vial_29 ⟨Nat.zero_le _, Nat.zero_le _⟩ ?_
      refine lv_istore_n (lv' := [(3, .int (orN (σ 1 (ci v)))), (0, .ref (ad 0)), (1, .int v), (2, .int d)]) hx hb dX6_vial_32 rfl hl (by decide) rfl (fun ls hl => ?_)
      refine lv_aload_n hx hb dX6_vial_33 rfl (lv_at hl 1 rfl) ?_
      refine mw_get (ci := 5) (C := RX6) (T := TX6) (N := 7) (v := .ref (ad 1)) hx hb hts hinX6 hown hK hP 0 (by decide) cF_0 rfl 0 (by decide) kf9 (fun _ h9 => h9) rfl dX6_vial_34 ?_
      refine lv_iload_n hx hb dX6_vial_37 rfl (lv_at hl 2 rfl) ?_
      refine lv_iload_n hx hb dX6_vial_38 rfl (lv_at hl 3 rfl) ?_
      refine mw_ist hx hb hK hj hP hS 1 (by decide) 0 cF_1 rfl (ci v) (ci_lt ix_v) (by decide) (ci_eq ix_v (by decide)) dX6_vial_39 (fun H locs hP hS => ?_)
      refine lv_iload_n hx hb dX6_vial_40 rfl (lv_at hl 0 rfl) ?_
      exact g_iret hx hb hr hlocks hP hS dX6_vial_41 (by unfold cpVial; rw [if_neg c_1, if_neg c_2])
    · skip
      refine lv_iconst (v := (-1)) hx hb dX6_vial_21 (by decide) ?_
      exact g_iret hx hb hr hlocks hP hS dX6_vial_22 (by unfold cpVial; rw [if_neg c_1, if_pos c_2])

def cpBatch (σ : Mem) (b d : Int32) : Int32 × Mem :=
  if inR b 0 3 = 0 then ((-1), σ)
  else if inR d 0 2 = 0 then ((-1), σ)
  else (σ (12 + (ci b)) 1, cBatBegin σ (ci b) d)
set_option maxHeartbeats 4000000 in
set_option maxRecDepth 100000 in
theorem c_batch (l : Launch) (D : va_G) (cy : Nat → ClassId) (ad wy : Nat → Nat) (mt : Nat) (hj : mJ 98 ad) (σ : Mem) (b d : Int32)  : Met l yX6_batch wsX6_batch ({ frames := 1, cells := 0, slots := 0, locals := 22 }) (va_Pc [.ref (ad 0), .int b, .int d] (gPre 98 ad (cF ad cy) D cy wy mt σ)) (gQ 98 ad (cF ad cy) D (some (.int (cpBatch σ b d).1)) (cpBatch σ b d).2) 0 0 (mA 98 ad) := by
  refine g_met (cc := cX6_batch) (maxL := 4) (ret := (some .int)) (by decide) rfl (Nat.le_of_ble_eq_true rfl) ?_
  intro p e s m below meth c S hr hlocks h0 ls hl
  obtain ⟨hx, hb, hml, hown, hts⟩ := S
  have hP := h0.1
  have hK := h0.2.1
  have hS : va_S (mA 98 ad) s.heap s.heap [] := va_S.rf
  have hl : lv_has ls 4 [(0, .ref (ad 0)), (1, .int b), (2, .int d)] := hl
  have kf15 : (Cond.fieldLink RX6 15 "BenchRuns" "batches" "[LBenchRuns$Batch;").before (#[.ref (ad 0), .int b, .int d] : Array Value) s = true := hts _ (by decide +kernel)
  have hinX6 : ∀ w ∈ u_ws RX6 TX6 7, w ∈ wsX6_batch := by decide +kernel
  have kf56 : (Cond.fieldLink RX6 56 "BenchRuns$Batch" "roundCount" "I").before (#[.ref (ad 0), .int b, .int d] : Array Value) s = true := hts _ (by decide +kernel)
  have hinX0 : ∀ w ∈ u_ws RX0 TX0 3, w ∈ wsX6_batch := by decide +kernel
  refine lv_iload_n hx hb dX6_batch_0 rfl (lv_at hl 1 rfl) ?_
  refine lv_iconst (v := 0) hx hb dX6_batch_1 (by decide) ?_
  refine lv_iconst (v := 3) hx hb dX6_batch_2 (by decide) ?_
  refine g_callS (As := [.int b, .int 0, .int 3]) (rest := []) ⟨hx, hb, hml, hown, hts⟩ (c_within l b 0 3) (va_cwS 3 hts gX6_batch_X6_within rfl rfl rfl (by decide +kernel) ⟨by decide, by decide⟩) rfl rfl hl.1 (Nat.le_of_ble_eq_true rfl) dX6_batch_3 ⟨Nat.zero_le _, Nat.zero_le _⟩ ?_
  refine lv_if_eq (tgt := 18) hx hb dX6_batch_6 (by decide) (fun c_1 => ?_) (fun c_1 => ?_)
  · skip
    refine lv_iconst (v := (-1)) hx hb dX6_batch_18 (by decide) ?_
    exact g_iret hx hb hr hlocks hP hS dX6_batch_19 (by unfold cpBatch; rw [if_pos c_1])
  · skip
    have ix_b : vp_in b 4 := (inR_in (by decide) c_1)
    refine lv_iload_n hx hb dX6_batch_9 rfl (lv_at hl 2 rfl) ?_
    refine lv_iconst (v := 0) hx hb dX6_batch_10 (by decide) ?_
    refine lv_iconst (v := 2) hx hb dX6_batch_11 (by decide) ?_
    refine g_callS (As := [.int d, .int 0, .int 2]) (rest := []) ⟨hx, hb, hml, hown, hts⟩ (c_within l d 0 2) (va_cwS 3 hts gX6_batch_X6_within rfl rfl rfl (by decide +kernel) ⟨by decide, by decide⟩) rfl rfl hl.1 (Nat.le_of_ble_eq_true rfl) dX6_batch_12 ⟨Nat.zero_le _, Nat.zero_le _⟩ ?_
    refine lv_if_ne (tgt := 20) hx hb dX6_batch_15 (by decide) (fun c_2 => ?_) (fun c_2 => ?_)
    · skip
      refine lv_aload_n hx hb dX6_batch_20 rfl (lv_at hl 0 rfl) ?_
      refine mw_get (ci := 5) (C := RX6) (T := TX6) (N := 7) (v := .ref (ad 2)) hx hb hts hinX6 hown hK hP 0 (by decide) cF_0 rfl 1 (by decide) kf15 (fun _ h9 => h9) rfl dX6_batch_21 ?_
      refine lv_iload_n hx hb dX6_batch_24 rfl (lv_at hl 1 rfl) ?_
      have ha_3 : (ci b) < 4 := (ci_lt ix_b)
      refine mw_ald (f := fun q => ad (12 + q)) hx hb hK hP 2 (by decide) 2 cF_2 rfl (ci b) ha_3 (by decide) (ci_eq ix_b (by decide)) dX6_batch_25 ?_
      refine mw_get (ci := 0) (C := RX0) (T := TX0) (N := 3) (v := .int (σ (12 + (ci b)) 1)) hx hb hts hinX0 hown hK hP (12 + (ci b)) (cB_bat ha_3) (cF_bat ha_3) rfl 1 (by decide) kf56 (fun _ h9 => h9) rfl dX6_batch_26 ?_
      refine lv_istore_n (lv' := [(3, .int (σ (12 + (ci b)) 1)), (0, .ref (ad 0)), (1, .int b), (2, .int d)]) hx hb dX6_batch_29 rfl hl (by decide) rfl (fun ls hl => ?_)
      refine lv_aload_n hx hb dX6_batch_30 rfl (lv_at hl 1 rfl) ?_
      refine mw_get (ci := 5) (C := RX6) (T := TX6) (N := 7) (v := .ref (ad 2)) hx hb hts hinX6 hown hK hP 0 (by decide) cF_0 rfl 1 (by decide) kf15 (fun _ h9 => h9) rfl dX6_batch_31 ?_
      refine lv_iload_n hx hb dX6_batch_34 rfl (lv_at hl 2 rfl) ?_
      have ha_4 : (ci b) < 4 := (ci_lt ix_b)
      refine mw_ald (f := fun q => ad (12 + q)) hx hb hK hP 2 (by decide) 2 cF_2 rfl (ci b) ha_4 (by decide) (ci_eq ix_b (by decide)) dX6_batch_35 ?_
      refine lv_iload_n hx hb dX6_batch_36 rfl (lv_at hl 3 rfl) ?_
      refine g_callV (As := [.int d]) (rest := []) (N := 3) (T := TX0) (ci := 0) ⟨hx, hb, hml, hown, hts⟩ (12 + (ci b)) (c_batBegin l D cy ad wy mt hj σ (ci b) ha_4 d) (cwV 1 hts gX6_batch_X0_beginAnew rfl rfl rfl (by decide +kernel) ⟨by decide, by decide⟩) h0 hP hS (cB_bat ha_4) (cF_bat ha_4) rfl rfl rfl hl.1 (Nat.le_of_ble_eq_true rfl) dX6_batch_37 ⟨Nat.zero_le _, Nat.zero_le _⟩ (fun H locs hP hS => ?_)
      refine lv_iload_n hx hb dX6_batch_40 rfl (lv_at hl 0 rfl) ?_
      exact g_iret hx hb hr hlocks hP hS dX6_batch_41 (by unfold cpBatch; rw [if_neg c_1, if_neg c_2])
    · skip
      refine lv_iconst (v := (-1)) hx hb dX6_batch_18 (by decide) ?_
      exact g_iret hx hb hr hlocks hP hS dX6_batch_19 (by unfold cpBatch; rw [if_neg c_1, if_pos c_2])

def cpRound (σ : Mem) (b d : Int32) : Int32 × Mem :=
  if inR b 0 3 = 0 then ((-1), σ)
  else if inR d 0 9 = 0 then ((-1), σ)
  else ((cAddRound σ (ci b) d).1, (cAddRound σ (ci b) d).2)
set_option maxHeartbeats 4000000 in
set_option maxRecDepth 100000 in
theorem c_round (l : Launch) (D : va_G) (cy : Nat → ClassId) (ad wy : Nat → Nat) (mt : Nat) (hj : mJ 98 ad) (σ : Mem) (b d : Int32) (hR : cR σ) : Met l yX6_round wsX6_round ({ frames := 2, cells := 0, slots := 0, locals := 42 }) (va_Pc [.ref (ad 0), .int b, .int d] (gPre 98 ad (cF ad cy) D cy wy mt σ)) (gQ 98 ad (cF ad cy) D (some (.int (cpRound σ b d).1)) (cpRound σ b d).2) 0 0 (mA 98 ad) := by
  refine g_met (cc := cX6_round) (maxL := 3) (ret := (some .int)) (by decide) rfl (Nat.le_of_ble_eq_true rfl) ?_
  intro p e s m below meth c S hr hlocks h0 ls hl
  obtain ⟨hx, hb, hml, hown, hts⟩ := S
  have hP := h0.1
  have hK := h0.2.1
  have hS : va_S (mA 98 ad) s.heap s.heap [] := va_S.rf
  have hl : lv_has ls 3 [(0, .ref (ad 0)), (1, .int b), (2, .int d)] := hl
  have kf15 : (Cond.fieldLink RX6 15 "BenchRuns" "batches" "[LBenchRuns$Batch;").before (#[.ref (ad 0), .int b, .int d] : Array Value) s = true := hts _ (by decide +kernel)
  have hinX6 : ∀ w ∈ u_ws RX6 TX6 7, w ∈ wsX6_round := by decide +kernel
  refine lv_iload_n hx hb dX6_round_0 rfl (lv_at hl 1 rfl) ?_
  refine lv_iconst (v := 0) hx hb dX6_round_1 (by decide) ?_
  refine lv_iconst (v := 3) hx hb dX6_round_2 (by decide) ?_
  refine g_callS (As := [.int b, .int 0, .int 3]) (rest := []) ⟨hx, hb, hml, hown, hts⟩ (c_within l b 0 3) (va_cwS 3 hts gX6_round_X6_within rfl rfl rfl (by decide +kernel) ⟨by decide, by decide⟩) rfl rfl hl.1 (Nat.le_of_ble_eq_true rfl) dX6_round_3 ⟨Nat.zero_le _, Nat.zero_le _⟩ ?_
  refine lv_if_eq (tgt := 19) hx hb dX6_round_6 (by decide) (fun c_1 => ?_) (fun c_1 => ?_)
  · skip
    refine lv_iconst (v := (-1)) hx hb dX6_round_19 (by decide) ?_
    exact g_iret hx hb hr hlocks hP hS dX6_round_20 (by unfold cpRound; rw [if_pos c_1])
  · skip
    have ix_b : vp_in b 4 := (inR_in (by decide) c_1)
    refine lv_iload_n hx hb dX6_round_9 rfl (lv_at hl 2 rfl) ?_
    refine lv_iconst (v := 0) hx hb dX6_round_10 (by decide) ?_
    refine lv_bipush (v := 9) hx hb dX6_round_11 (by decide) ?_
    refine g_callS (As := [.int d, .int 0, .int 9]) (rest := []) ⟨hx, hb, hml, hown, hts⟩ (c_within l d 0 9) (va_cwS 3 hts gX6_round_X6_within rfl rfl rfl (by decide +kernel) ⟨by decide, by decide⟩) rfl rfl hl.1 (Nat.le_of_ble_eq_true rfl) dX6_round_13 ⟨Nat.zero_le _, Nat.zero_le _⟩ ?_
    refine lv_if_ne (tgt := 21) hx hb dX6_round_16 (by decide) (fun c_2 => ?_) (fun c_2 => ?_)
    · skip
      refine lv_aload_n hx hb dX6_round_21 rfl (lv_at hl 0 rfl) ?_
      refine mw_get (ci := 5) (C := RX6) (T := TX6) (N := 7) (v := .ref (ad 2)) hx hb hts hinX6 hown hK hP 0 (by decide) cF_0 rfl 1 (by decide) kf15 (fun _ h9 => h9) rfl dX6_round_22 ?_
      refine lv_iload_n hx hb dX6_round_25 rfl (lv_at hl 1 rfl) ?_
      have ha_3 : (ci b) < 4 := (ci_lt ix_b)
      refine mw_ald (f := fun q => ad (12 + q)) hx hb hK hP 2 (by decide) 2 cF_2 rfl (ci b) ha_3 (by decide) (ci_eq ix_b (by decide)) dX6_round_26 ?_
      refine lv_iload_n hx hb dX6_round_27 rfl (lv_at hl 2 rfl) ?_
      refine g_callV (As := [.int d]) (rest := []) (N := 3) (T := TX0) (ci := 0) ⟨hx, hb, hml, hown, hts⟩ (12 + (ci b)) (c_addRound l D cy ad wy mt hj σ (ci b) ha_3 d (rc_lt hR (ci_lt ix_b))) (cwV 1 hts gX6_round_X0_addRound rfl rfl rfl (by decide +kernel) ⟨by decide, by decide⟩) h0 hP hS (cB_bat ha_3) (cF_bat ha_3) rfl rfl rfl hl.1 (Nat.le_of_ble_eq_true rfl) dX6_round_28 ⟨Nat.zero_le _, Nat.zero_le _⟩ (fun H locs hP hS => ?_)
      exact g_iret hx hb hr hlocks hP hS dX6_round_31 (by unfold cpRound; rw [if_neg c_1, if_neg c_2])
    · skip
      refine lv_iconst (v := (-1)) hx hb dX6_round_19 (by decide) ?_
      exact g_iret hx hb hr hlocks hP hS dX6_round_20 (by unfold cpRound; rw [if_neg c_1, if_pos c_2])

def cpStep (σ : Mem) (b kd n : Int32) : Int32 × Mem :=
  if inR b 0 3 = 0 then ((-1), σ)
  else if inR kd 0 17 = 0 then ((-1), σ)
  else if inR n 0 (mostL.getD (ci kd) 0) = 0 then ((-1), σ)
  else if σ (12 + (ci b)) 1 = 0 then ((-3), σ)
  else ((cAddStep σ (6 * (ci b) + (ci ((σ (12 + (ci b)) 1) - 1))) kd n).1, (cAddStep σ (6 * (ci b) + (ci ((σ (12 + (ci b)) 1) - 1))) kd n).2)
set_option maxHeartbeats 4000000 in
set_option maxRecDepth 100000 in
theorem c_step (l : Launch) (D : va_G) (cy : Nat → ClassId) (ad wy : Nat → Nat) (mt : Nat) (hj : mJ 98 ad) (σ : Mem) (b kd n : Int32) (hR : cR σ) : Met l yX6_step wsX6_step ({ frames := 1, cells := 0, slots := 0, locals := 22 }) (va_Pc [.ref (ad 0), .int b, .int kd, .int n] (gPre 98 ad (cF ad cy) D cy wy mt σ)) (gQ 98 ad (cF ad cy) D (some (.int (cpStep σ b kd n).1)) (cpStep σ b kd n).2) 0 0 (mA 98 ad) := by
  refine g_met (cc := cX6_step) (maxL := 5) (ret := (some .int)) (by decide) rfl (Nat.le_of_ble_eq_true rfl) ?_
  intro p e s m below meth c S hr hlocks h0 ls hl
  obtain ⟨hx, hb, hml, hown, hts⟩ := S
  have hP := h0.1
  have hK := h0.2.1
  have hS : va_S (mA 98 ad) s.heap s.heap [] := va_S.rf
  have hl : lv_has ls 5 [(0, .ref (ad 0)), (1, .int b), (2, .int kd), (3, .int n)] := hl
  have kf66 : (Cond.fieldLink RX6 66 "BenchRuns" "MOST_N" "[I").before (#[.ref (ad 0), .int b, .int kd, .int n] : Array Value) s = true := hts _ (by decide +kernel)
  have kf15 : (Cond.fieldLink RX6 15 "BenchRuns" "batches" "[LBenchRuns$Batch;").before (#[.ref (ad 0), .int b, .int kd, .int n] : Array Value) s = true := hts _ (by decide +kernel)
  have hinX6 : ∀ w ∈ u_ws RX6 TX6 7, w ∈ wsX6_step := by decide +kernel
  have kf56 : (Cond.fieldLink RX6 56 "BenchRuns$Batch" "roundCount" "I").before (#[.ref (ad 0), .int b, .int kd, .int n] : Array Value) s = true := hts _ (by decide +kernel)
  have hinX0 : ∀ w ∈ u_ws RX0 TX0 3, w ∈ wsX6_step := by decide +kernel
  have kf69 : (Cond.fieldLink RX6 69 "BenchRuns$Batch" "rounds" "[LBenchRuns$Round;").before (#[.ref (ad 0), .int b, .int kd, .int n] : Array Value) s = true := hts _ (by decide +kernel)
  refine lv_iload_n hx hb dX6_step_0 rfl (lv_at hl 1 rfl) ?_
  refine lv_iconst (v := 0) hx hb dX6_step_1 (by decide) ?_
  refine lv_iconst (v := 3) hx hb dX6_step_2 (by decide) ?_
  refine g_callS (As := [.int b, .int 0, .int 3]) (rest := []) ⟨hx, hb, hml, hown, hts⟩ (c_within l b 0 3) (va_cwS 3 hts gX6_step_X6_within rfl rfl rfl (by decide +kernel) ⟨by decide, by decide⟩) rfl rfl hl.1 (Nat.le_of_ble_eq_true rfl) dX6_step_3 ⟨Nat.zero_le _, Nat.zero_le _⟩ ?_
  refine lv_if_eq (tgt := 32) hx hb dX6_step_6 (by decide) (fun c_1 => ?_) (fun c_1 => ?_)
  · skip
    refine lv_iconst (v := (-1)) hx hb dX6_step_32 (by decide) ?_
    exact g_iret hx hb hr hlocks hP hS dX6_step_33 (by unfold cpStep; rw [if_pos c_1])
  · skip
    have ix_b : vp_in b 4 := (inR_in (by decide) c_1)
    refine lv_iload_n hx hb dX6_step_9 rfl (lv_at hl 2 rfl) ?_
    refine lv_iconst (v := 0) hx hb dX6_step_10 (by decide) ?_
    refine lv_bipush (v := 17) hx hb dX6_step_11 (by decide) ?_
    refine g_callS (As := [.int kd, .int 0, .int 17]) (rest := []) ⟨hx, hb, hml, hown, hts⟩ (c_within l kd 0 17) (va_cwS 3 hts gX6_step_X6_within rfl rfl rfl (by decide +kernel) ⟨by decide, by decide⟩) rfl rfl hl.1 (Nat.le_of_ble_eq_true rfl) dX6_step_13 ⟨Nat.zero_le _, Nat.zero_le _⟩ ?_
    refine lv_if_eq (tgt := 32) hx hb dX6_step_16 (by decide) (fun c_2 => ?_) (fun c_2 => ?_)
    · skip
      refine lv_iconst (v := (-1)) hx hb dX6_step_32 (by decide) ?_
      exact g_iret hx hb hr hlocks hP hS dX6_step_33 (by unfold cpStep; rw [if_neg c_1, if_pos c_2])
    · skip
      have ix_kd : vp_in kd 18 := (inR_in (by decide) c_2)
      refine lv_iload_n hx hb dX6_step_19 rfl (lv_at hl 3 rfl) ?_
      refine lv_iconst (v := 0) hx hb dX6_step_20 (by decide) ?_
      refine g_most hx hb h0 hS hown kf66 dX6_step_21 ?_
      refine lv_iload_n hx hb dX6_step_24 rfl (lv_at hl 2 rfl) ?_
      refine g_mostAt hx hb h0 hS (ci kd) (ci_lt ix_kd) (ci_eq ix_kd (by decide)) dX6_step_25 ?_
      refine g_callS (As := [.int n, .int 0, .int (mostL.getD (ci kd) 0)]) (rest := []) ⟨hx, hb, hml, hown, hts⟩ (c_within l n 0 (mostL.getD (ci kd) 0)) (va_cwS 3 hts gX6_step_X6_within rfl rfl rfl (by decide +kernel) ⟨by decide, by decide⟩) rfl rfl hl.1 (Nat.le_of_ble_eq_true rfl) dX6_step_26 ⟨Nat.zero_le _, Nat.zero_le _⟩ ?_
      refine lv_if_ne (tgt := 34) hx hb dX6_step_29 (by decide) (fun c_3 => ?_) (fun c_3 => ?_)
      · skip
        refine lv_aload_n hx hb dX6_step_34 rfl (lv_at hl 0 rfl) ?_
        refine mw_get (ci := 5) (C := RX6) (T := TX6) (N := 7) (v := .ref (ad 2)) hx hb hts hinX6 hown hK hP 0 (by decide) cF_0 rfl 1 (by decide) kf15 (fun _ h9 => h9) rfl dX6_step_35 ?_
        refine lv_iload_n hx hb dX6_step_38 rfl (lv_at hl 1 rfl) ?_
        have ha_4 : (ci b) < 4 := (ci_lt ix_b)
        refine mw_ald (f := fun q => ad (12 + q)) hx hb hK hP 2 (by decide) 2 cF_2 rfl (ci b) ha_4 (by decide) (ci_eq ix_b (by decide)) dX6_step_39 ?_
        refine mw_get (ci := 0) (C := RX0) (T := TX0) (N := 3) (v := .int (σ (12 + (ci b)) 1)) hx hb hts hinX0 hown hK hP (12 + (ci b)) (cB_bat ha_4) (cF_bat ha_4) rfl 1 (by decide) kf56 (fun _ h9 => h9) rfl dX6_step_40 ?_
        refine lv_istore (lv' := [(4, .int (σ (12 + (ci b)) 1)), (0, .ref (ad 0)), (1, .int b), (2, .int kd), (3, .int n)]) hx hb dX6_step_43 hl (by decide) rfl (fun ls hl => ?_)
        refine lv_iload hx hb dX6_step_45 (lv_at hl 0 rfl) ?_
        refine lv_if_ne (tgt := 53) hx hb dX6_step_47 (by decide) (fun c_5 => ?_) (fun c_5 => ?_)
        · skip
          have ix_r : vp_in (σ (12 + (ci b)) 1 - 1) 6 := rc_in hR (ci_lt ix_b) c_5
          refine lv_aload_n hx hb dX6_step_53 rfl (lv_at hl 1 rfl) ?_
          refine mw_get (ci := 5) (C := RX6) (T := TX6) (N := 7) (v := .ref (ad 2)) hx hb hts hinX6 hown hK hP 0 (by decide) cF_0 rfl 1 (by decide) kf15 (fun _ h9 => h9) rfl dX6_step_54 ?_
          refine lv_iload_n hx hb dX6_step_57 rfl (lv_at hl 2 rfl) ?_
          have ha_6 : (ci b) < 4 := (ci_lt ix_b)
          refine mw_ald (f := fun q => ad (12 + q)) hx hb hK hP 2 (by decide) 2 cF_2 rfl (ci b) ha_6 (by decide) (ci_eq ix_b (by decide)) dX6_step_58 ?_
          refine mw_get (ci := 0) (C := RX0) (T := TX0) (N := 3) (v := .ref (ad (16 + (ci b)))) hx hb hts hinX0 hown hK hP (12 + (ci b)) (cB_bat ha_6) (cF_bat ha_6) rfl 0 (by decide) kf69 (fun _ h9 => h9) rfl dX6_step_59 ?_
          refine lv_iload hx hb dX6_step_62 (lv_at hl 0 rfl) ?_
          refine lv_iconst (v := 1) hx hb dX6_step_64 (by decide) ?_
          refine lv_isub hx hb dX6_step_65 ?_
          have ha_7 : (ci ((σ (12 + (ci b)) 1) - 1)) < 6 := (ci_lt ix_r)
          refine mw_ald (f := fun q => ad (26 + (6 * (ci b) + q))) hx hb hK hP (16 + (ci b)) (cB_row ha_6) 3 (cF_row ha_6) rfl (ci ((σ (12 + (ci b)) 1) - 1)) ha_7 (by decide) (ci_eq ix_r (by decide)) dX6_step_66 ?_
          refine lv_iload_n hx hb dX6_step_67 rfl (lv_at hl 3 rfl) ?_
          refine lv_iload_n hx hb dX6_step_68 rfl (lv_at hl 4 rfl) ?_
          refine g_callV (As := [.int kd, .int n]) (rest := []) (N := 4) (T := TX2) (ci := 2) ⟨hx, hb, hml, hown, hts⟩ (26 + (6 * (ci b) + (ci ((σ (12 + (ci b)) 1) - 1)))) (c_addStep l D cy ad wy mt hj σ (6 * (ci b) + (ci ((σ (12 + (ci b)) 1) - 1))) (cB_q ha_6 ha_7) kd n (sc_lt hR (cB_q (ci_lt ix_b) (ci_lt ix_r)))) (cwV 2 hts gX6_step_X2_addStep rfl rfl rfl (by decide +kernel) ⟨by decide, by decide⟩) h0 hP hS (cB_rnd (cB_q ha_6 ha_7)) (cF_rnd (cB_q ha_6 ha_7)) rfl rfl rfl hl.1 (Nat.le_of_ble_eq_true rfl) dX6_step_69 ⟨Nat.zero_le _, Nat.zero_le _⟩ (fun H locs hP hS => ?_)
          exact g_iret hx hb hr hlocks hP hS dX6_step_72 (by unfold cpStep; rw [if_neg c_1, if_neg c_2, if_neg c_3, if_neg c_5])
        · skip
          refine lv_bipush (v := (-3)) hx hb dX6_step_50 (by decide) ?_
          exact g_iret hx hb hr hlocks hP hS dX6_step_52 (by unfold cpStep; rw [if_neg c_1, if_neg c_2, if_neg c_3, if_pos c_5])
      · skip
        refine lv_iconst (v := (-1)) hx hb dX6_step_32 (by decide) ?_
        exact g_iret hx hb hr hlocks hP hS dX6_step_33 (by unfold cpStep; rw [if_neg c_1, if_neg c_2, if_pos c_3])

def cpTool (σ : Mem) (t d : Int32) : Int32 × Mem :=
  if inR t 0 5 = 0 then ((-1), σ)
  else if inR d (-1) 1 = 0 then ((-1), σ)
  else (orN (σ (20 + (ci t)) 0), cToolBegin σ (ci t) d)
set_option maxHeartbeats 4000000 in
set_option maxRecDepth 100000 in
theorem c_tool (l : Launch) (D : va_G) (cy : Nat → ClassId) (ad wy : Nat → Nat) (mt : Nat) (hj : mJ 98 ad) (σ : Mem) (t d : Int32)  : Met l yX6_tool wsX6_tool ({ frames := 1, cells := 0, slots := 0, locals := 22 }) (va_Pc [.ref (ad 0), .int t, .int d] (gPre 98 ad (cF ad cy) D cy wy mt σ)) (gQ 98 ad (cF ad cy) D (some (.int (cpTool σ t d).1)) (cpTool σ t d).2) 0 0 (mA 98 ad) := by
  refine g_met (cc := cX6_tool) (maxL := 4) (ret := (some .int)) (by decide) rfl (Nat.le_of_ble_eq_true rfl) ?_
  intro p e s m below meth c S hr hlocks h0 ls hl
  obtain ⟨hx, hb, hml, hown, hts⟩ := S
  have hP := h0.1
  have hK := h0.2.1
  have hS : va_S (mA 98 ad) s.heap s.heap [] := va_S.rf
  have hl : lv_has ls 4 [(0, .ref (ad 0)), (1, .int t), (2, .int d)] := hl
  have kf21 : (Cond.fieldLink RX6 21 "BenchRuns" "tools" "[LBenchRuns$Tool;").before (#[.ref (ad 0), .int t, .int d] : Array Value) s = true := hts _ (by decide +kernel)
  have hinX6 : ∀ w ∈ u_ws RX6 TX6 7, w ∈ wsX6_tool := by decide +kernel
  have kf79 : (Cond.fieldLink RX6 79 "BenchRuns$Tool" "sort" "I").before (#[.ref (ad 0), .int t, .int d] : Array Value) s = true := hts _ (by decide +kernel)
  have hinX4 : ∀ w ∈ u_ws RX4 TX4 3, w ∈ wsX6_tool := by decide +kernel
  refine lv_iload_n hx hb dX6_tool_0 rfl (lv_at hl 1 rfl) ?_
  refine lv_iconst (v := 0) hx hb dX6_tool_1 (by decide) ?_
  refine lv_iconst (v := 5) hx hb dX6_tool_2 (by decide) ?_
  refine g_callS (As := [.int t, .int 0, .int 5]) (rest := []) ⟨hx, hb, hml, hown, hts⟩ (c_within l t 0 5) (va_cwS 3 hts gX6_tool_X6_within rfl rfl rfl (by decide +kernel) ⟨by decide, by decide⟩) rfl rfl hl.1 (Nat.le_of_ble_eq_true rfl) dX6_tool_3 ⟨Nat.zero_le _, Nat.zero_le _⟩ ?_
  refine lv_if_eq (tgt := 18) hx hb dX6_tool_6 (by decide) (fun c_1 => ?_) (fun c_1 => ?_)
  · skip
    refine lv_iconst (v := (-1)) hx hb dX6_tool_18 (by decide) ?_
    exact g_iret hx hb hr hlocks hP hS dX6_tool_19 (by unfold cpTool; rw [if_pos c_1])
  · skip
    have ix_t : vp_in t 6 := (inR_in (by decide) c_1)
    refine lv_iload_n hx hb dX6_tool_9 rfl (lv_at hl 2 rfl) ?_
    refine lv_iconst (v := (-1)) hx hb dX6_tool_10 (by decide) ?_
    refine lv_iconst (v := 1) hx hb dX6_tool_11 (by decide) ?_
    refine g_callS (As := [.int d, .int (-1), .int 1]) (rest := []) ⟨hx, hb, hml, hown, hts⟩ (c_within l d (-1) 1) (va_cwS 3 hts gX6_tool_X6_within rfl rfl rfl (by decide +kernel) ⟨by decide, by decide⟩) rfl rfl hl.1 (Nat.le_of_ble_eq_true rfl) dX6_tool_12 ⟨Nat.zero_le _, Nat.zero_le _⟩ ?_
    refine lv_if_ne (tgt := 20) hx hb dX6_tool_15 (by decide) (fun c_2 => ?_) (fun c_2 => ?_)
    · skip
      refine lv_aload_n hx hb dX6_tool_20 rfl (lv_at hl 0 rfl) ?_
      refine mw_get (ci := 5) (C := RX6) (T := TX6) (N := 7) (v := .ref (ad 3)) hx hb hts hinX6 hown hK hP 0 (by decide) cF_0 rfl 2 (by decide) kf21 (fun _ h9 => h9) rfl dX6_tool_21 ?_
      refine lv_iload_n hx hb dX6_tool_24 rfl (lv_at hl 1 rfl) ?_
      have ha_3 : (ci t) < 6 := (ci_lt ix_t)
      refine mw_ald (f := fun q => ad (20 + q)) hx hb hK hP 3 (by decide) 4 cF_3 rfl (ci t) ha_3 (by decide) (ci_eq ix_t (by decide)) dX6_tool_25 ?_
      refine mw_get (ci := 4) (C := RX4) (T := TX4) (N := 3) (v := .int (σ (20 + (ci t)) 0)) hx hb hts hinX4 hown hK hP (20 + (ci t)) (cB_tool ha_3) (cF_tool ha_3) rfl 0 (by decide) kf79 (fun _ h9 => h9) rfl dX6_tool_26 ?_
      refine g_callS (As := [.int (σ (20 + (ci t)) 0)]) (rest := []) ⟨hx, hb, hml, hown, hts⟩ (c_orNone l (σ (20 + (ci t)) 0)) (va_cwS 1 hts gX6_tool_X6_orNone rfl rfl rfl (by decide +kernel) ⟨by decide, by decide⟩) rfl rfl hl.1 (Nat.le_of_ble_eq_true rfl) dX6_tool_29 ⟨Nat.zero_le _, Nat.zero_le _⟩ ?_
      refine lv_istore_n (lv' := [(3, .int (orN (σ (20 + (ci t)) 0))), (0, .ref (ad 0)), (1, .int t), (2, .int d)]) hx hb dX6_tool_32 rfl hl (by decide) rfl (fun ls hl => ?_)
      refine lv_aload_n hx hb dX6_tool_33 rfl (lv_at hl 1 rfl) ?_
      refine mw_get (ci := 5) (C := RX6) (T := TX6) (N := 7) (v := .ref (ad 3)) hx hb hts hinX6 hown hK hP 0 (by decide) cF_0 rfl 2 (by decide) kf21 (fun _ h9 => h9) rfl dX6_tool_34 ?_
      refine lv_iload_n hx hb dX6_tool_37 rfl (lv_at hl 2 rfl) ?_
      have ha_4 : (ci t) < 6 := (ci_lt ix_t)
      refine mw_ald (f := fun q => ad (20 + q)) hx hb hK hP 3 (by decide) 4 cF_3 rfl (ci t) ha_4 (by decide) (ci_eq ix_t (by decide)) dX6_tool_38 ?_
      refine lv_iload_n hx hb dX6_tool_39 rfl (lv_at hl 3 rfl) ?_
      refine g_callV (As := [.int d]) (rest := []) (N := 3) (T := TX4) (ci := 4) ⟨hx, hb, hml, hown, hts⟩ (20 + (ci t)) (c_toolBegin l D cy ad wy mt hj σ (ci t) ha_4 d) (cwV 1 hts gX6_tool_X4_beginAnew rfl rfl rfl (by decide +kernel) ⟨by decide, by decide⟩) h0 hP hS (cB_tool ha_4) (cF_tool ha_4) rfl rfl rfl hl.1 (Nat.le_of_ble_eq_true rfl) dX6_tool_40 ⟨Nat.zero_le _, Nat.zero_le _⟩ (fun H locs hP hS => ?_)
      refine lv_iload_n hx hb dX6_tool_43 rfl (lv_at hl 0 rfl) ?_
      exact g_iret hx hb hr hlocks hP hS dX6_tool_44 (by unfold cpTool; rw [if_neg c_1, if_neg c_2])
    · skip
      refine lv_iconst (v := (-1)) hx hb dX6_tool_18 (by decide) ?_
      exact g_iret hx hb hr hlocks hP hS dX6_tool_19 (by unfold cpTool; rw [if_neg c_1, if_pos c_2])

def cpLay (σ : Mem) (k d : Int32) : Int32 × Mem :=
  if inR k 0 3 = 0 then ((-1), σ)
  else if inR d 0 99 = 0 then ((-1), σ)
  else (σ 4 (ci k), mset σ 4 (ci k) d)
set_option maxHeartbeats 4000000 in
set_option maxRecDepth 100000 in
theorem c_lay (l : Launch) (D : va_G) (cy : Nat → ClassId) (ad wy : Nat → Nat) (mt : Nat) (hj : mJ 98 ad) (σ : Mem) (k d : Int32)  : Met l yX6_lay wsX6_lay ({ frames := 1, cells := 0, slots := 0, locals := 22 }) (va_Pc [.ref (ad 0), .int k, .int d] (gPre 98 ad (cF ad cy) D cy wy mt σ)) (gQ 98 ad (cF ad cy) D (some (.int (cpLay σ k d).1)) (cpLay σ k d).2) 0 0 (mA 98 ad) := by
  refine g_met (cc := cX6_lay) (maxL := 4) (ret := (some .int)) (by decide) rfl (Nat.le_of_ble_eq_true rfl) ?_
  intro p e s m below meth c S hr hlocks h0 ls hl
  obtain ⟨hx, hb, hml, hown, hts⟩ := S
  have hP := h0.1
  have hK := h0.2.1
  have hS : va_S (mA 98 ad) s.heap s.heap [] := va_S.rf
  have hl : lv_has ls 4 [(0, .ref (ad 0)), (1, .int k), (2, .int d)] := hl
  have kf25 : (Cond.fieldLink RX6 25 "BenchRuns" "laid" "[I").before (#[.ref (ad 0), .int k, .int d] : Array Value) s = true := hts _ (by decide +kernel)
  have hinX6 : ∀ w ∈ u_ws RX6 TX6 7, w ∈ wsX6_lay := by decide +kernel
  refine lv_iload_n hx hb dX6_lay_0 rfl (lv_at hl 1 rfl) ?_
  refine lv_iconst (v := 0) hx hb dX6_lay_1 (by decide) ?_
  refine lv_iconst (v := 3) hx hb dX6_lay_2 (by decide) ?_
  refine g_callS (As := [.int k, .int 0, .int 3]) (rest := []) ⟨hx, hb, hml, hown, hts⟩ (c_within l k 0 3) (va_cwS 3 hts gX6_lay_X6_within rfl rfl rfl (by decide +kernel) ⟨by decide, by decide⟩) rfl rfl hl.1 (Nat.le_of_ble_eq_true rfl) dX6_lay_3 ⟨Nat.zero_le _, Nat.zero_le _⟩ ?_
  refine lv_if_eq (tgt := 19) hx hb dX6_lay_6 (by decide) (fun c_1 => ?_) (fun c_1 => ?_)
  · skip
    refine lv_iconst (v := (-1)) hx hb dX6_lay_19 (by decide) ?_
    exact g_iret hx hb hr hlocks hP hS dX6_lay_20 (by unfold cpLay; rw [if_pos c_1])
  · skip
    have ix_k : vp_in k 4 := (inR_in (by decide) c_1)
    refine lv_iload_n hx hb dX6_lay_9 rfl (lv_at hl 2 rfl) ?_
    refine lv_iconst (v := 0) hx hb dX6_lay_10 (by decide) ?_
    refine lv_bipush (v := 99) hx hb dX6_lay_11 (by decide) ?_
    refine g_callS (As := [.int d, .int 0, .int 99]) (rest := []) ⟨hx, hb, hml, hown, hts⟩ (c_within l d 0 99) (va_cwS 3 hts gX6_lay_X6_within rfl rfl rfl (by decide +kernel) ⟨by decide, by decide⟩) rfl rfl hl.1 (Nat.le_of_ble_eq_true rfl) dX6_lay_13 ⟨Nat.zero_le _, Nat.zero_le _⟩ ?_
    refine lv_if_ne (tgt := 21) hx hb dX6_lay_16 (by decide) (fun c_2 => ?_) (fun c_2 => ?_)
    · skip
      refine lv_aload_n hx hb dX6_lay_21 rfl (lv_at hl 0 rfl) ?_
      refine mw_get (ci := 5) (C := RX6) (T := TX6) (N := 7) (v := .ref (ad 4)) hx hb hts hinX6 hown hK hP 0 (by decide) cF_0 rfl 3 (by decide) kf25 (fun _ h9 => h9) rfl dX6_lay_22 ?_
      refine lv_iload_n hx hb dX6_lay_25 rfl (lv_at hl 1 rfl) ?_
      refine mw_ild hx hb hK hP 4 (by decide) 0 cF_4 rfl (ci k) (ci_lt ix_k) (by decide) (ci_eq ix_k (by decide)) dX6_lay_26 ?_
      refine lv_istore_n (lv' := [(3, .int (σ 4 (ci k))), (0, .ref (ad 0)), (1, .int k), (2, .int d)]) hx hb dX6_lay_27 rfl hl (by decide) rfl (fun ls hl => ?_)
      refine lv_aload_n hx hb dX6_lay_28 rfl (lv_at hl 1 rfl) ?_
      refine mw_get (ci := 5) (C := RX6) (T := TX6) (N := 7) (v := .ref (ad 4)) hx hb hts hinX6 hown hK hP 0 (by decide) cF_0 rfl 3 (by decide) kf25 (fun _ h9 => h9) rfl dX6_lay_29 ?_
      refine lv_iload_n hx hb dX6_lay_32 rfl (lv_at hl 2 rfl) ?_
      refine lv_iload_n hx hb dX6_lay_33 rfl (lv_at hl 3 rfl) ?_
      refine mw_ist hx hb hK hj hP hS 4 (by decide) 0 cF_4 rfl (ci k) (ci_lt ix_k) (by decide) (ci_eq ix_k (by decide)) dX6_lay_34 (fun H locs hP hS => ?_)
      refine lv_iload_n hx hb dX6_lay_35 rfl (lv_at hl 0 rfl) ?_
      exact g_iret hx hb hr hlocks hP hS dX6_lay_36 (by unfold cpLay; rw [if_neg c_1, if_neg c_2])
    · skip
      refine lv_iconst (v := (-1)) hx hb dX6_lay_19 (by decide) ?_
      exact g_iret hx hb hr hlocks hP hS dX6_lay_20 (by unfold cpLay; rw [if_neg c_1, if_pos c_2])

def cpAbout (σ : Mem) (t d : Int32) : Int32 :=
  if inR t 0 5 = 0 then (-1)
  else if inR d 0 2 = 0 then (-1)
  else if σ (20 + (ci t)) 0 = (-1) then (-3)
  else if d = 2 then σ (20 + (ci t)) 0
  else if d = 1 then σ (20 + (ci t)) 2
  else σ (20 + (ci t)) 1
set_option maxHeartbeats 4000000 in
set_option maxRecDepth 100000 in
theorem c_about (l : Launch) (D : va_G) (cy : Nat → ClassId) (ad wy : Nat → Nat) (mt : Nat) (hj : mJ 98 ad) (σ : Mem) (t d : Int32)  : Met l yX6_about wsX6_about ({ frames := 1, cells := 0, slots := 0, locals := 22 }) (va_Pc [.ref (ad 0), .int t, .int d] (gPre 98 ad (cF ad cy) D cy wy mt σ)) (gQ 98 ad (cF ad cy) D (some (.int (cpAbout σ t d))) σ) 0 0 (mA 98 ad) := by
  refine g_met (cc := cX6_about) (maxL := 4) (ret := (some .int)) (by decide) rfl (Nat.le_of_ble_eq_true rfl) ?_
  intro p e s m below meth c S hr hlocks h0 ls hl
  obtain ⟨hx, hb, hml, hown, hts⟩ := S
  have hP := h0.1
  have hK := h0.2.1
  have hS : va_S (mA 98 ad) s.heap s.heap [] := va_S.rf
  have hl : lv_has ls 4 [(0, .ref (ad 0)), (1, .int t), (2, .int d)] := hl
  have kf21 : (Cond.fieldLink RX6 21 "BenchRuns" "tools" "[LBenchRuns$Tool;").before (#[.ref (ad 0), .int t, .int d] : Array Value) s = true := hts _ (by decide +kernel)
  have hinX6 : ∀ w ∈ u_ws RX6 TX6 7, w ∈ wsX6_about := by decide +kernel
  have kf79 : (Cond.fieldLink RX6 79 "BenchRuns$Tool" "sort" "I").before (#[.ref (ad 0), .int t, .int d] : Array Value) s = true := hts _ (by decide +kernel)
  have hinX4 : ∀ w ∈ u_ws RX4 TX4 3, w ∈ wsX6_about := by decide +kernel
  have kf86 : (Cond.fieldLink RX6 86 "BenchRuns$Tool" "uses" "I").before (#[.ref (ad 0), .int t, .int d] : Array Value) s = true := hts _ (by decide +kernel)
  have kf83 : (Cond.fieldLink RX6 83 "BenchRuns$Tool" "grip" "I").before (#[.ref (ad 0), .int t, .int d] : Array Value) s = true := hts _ (by decide +kernel)
  refine lv_iload_n hx hb dX6_about_0 rfl (lv_at hl 1 rfl) ?_
  refine lv_iconst (v := 0) hx hb dX6_about_1 (by decide) ?_
  refine lv_iconst (v := 5) hx hb dX6_about_2 (by decide) ?_
  refine g_callS (As := [.int t, .int 0, .int 5]) (rest := []) ⟨hx, hb, hml, hown, hts⟩ (c_within l t 0 5) (va_cwS 3 hts gX6_about_X6_within rfl rfl rfl (by decide +kernel) ⟨by decide, by decide⟩) rfl rfl hl.1 (Nat.le_of_ble_eq_true rfl) dX6_about_3 ⟨Nat.zero_le _, Nat.zero_le _⟩ ?_
  refine lv_if_eq (tgt := 18) hx hb dX6_about_6 (by decide) (fun c_1 => ?_) (fun c_1 => ?_)
  · skip
    refine lv_iconst (v := (-1)) hx hb dX6_about_18 (by decide) ?_
    exact g_riret hx hb hr hlocks hP hS dX6_about_19 (by unfold cpAbout; rw [if_pos c_1])
  · skip
    have ix_t : vp_in t 6 := (inR_in (by decide) c_1)
    refine lv_iload_n hx hb dX6_about_9 rfl (lv_at hl 2 rfl) ?_
    refine lv_iconst (v := 0) hx hb dX6_about_10 (by decide) ?_
    refine lv_iconst (v := 2) hx hb dX6_about_11 (by decide) ?_
    refine g_callS (As := [.int d, .int 0, .int 2]) (rest := []) ⟨hx, hb, hml, hown, hts⟩ (c_within l d 0 2) (va_cwS 3 hts gX6_about_X6_within rfl rfl rfl (by decide +kernel) ⟨by decide, by decide⟩) rfl rfl hl.1 (Nat.le_of_ble_eq_true rfl) dX6_about_12 ⟨Nat.zero_le _, Nat.zero_le _⟩ ?_
    refine lv_if_ne (tgt := 20) hx hb dX6_about_15 (by decide) (fun c_2 => ?_) (fun c_2 => ?_)
    · skip
      refine lv_aload_n hx hb dX6_about_20 rfl (lv_at hl 0 rfl) ?_
      refine mw_get (ci := 5) (C := RX6) (T := TX6) (N := 7) (v := .ref (ad 3)) hx hb hts hinX6 hown hK hP 0 (by decide) cF_0 rfl 2 (by decide) kf21 (fun _ h9 => h9) rfl dX6_about_21 ?_
      refine lv_iload_n hx hb dX6_about_24 rfl (lv_at hl 1 rfl) ?_
      have ha_3 : (ci t) < 6 := (ci_lt ix_t)
      refine mw_ald (f := fun q => ad (20 + q)) hx hb hK hP 3 (by decide) 4 cF_3 rfl (ci t) ha_3 (by decide) (ci_eq ix_t (by decide)) dX6_about_25 ?_
      refine lv_astore_n (lv' := [(3, .ref (ad (20 + (ci t)))), (0, .ref (ad 0)), (1, .int t), (2, .int d)]) hx hb dX6_about_26 rfl hl (by decide) rfl (fun ls hl => ?_)
      refine lv_aload_n hx hb dX6_about_27 rfl (lv_at hl 0 rfl) ?_
      refine mw_get (ci := 4) (C := RX4) (T := TX4) (N := 3) (v := .int (σ (20 + (ci t)) 0)) hx hb hts hinX4 hown hK hP (20 + (ci t)) (cB_tool ha_3) (cF_tool ha_3) rfl 0 (by decide) kf79 (fun _ h9 => h9) rfl dX6_about_28 ?_
      refine lv_iconst (v := (-1)) hx hb dX6_about_31 (by decide) ?_
      refine lv_icmp_ne (tgt := 38) hx hb dX6_about_32 (by decide) (fun c_4 => ?_) (fun c_4 => ?_)
      · skip
        refine lv_iload_n hx hb dX6_about_38 rfl (lv_at hl 3 rfl) ?_
        refine lv_iconst (v := 2) hx hb dX6_about_39 (by decide) ?_
        refine lv_icmp_ne (tgt := 48) hx hb dX6_about_40 (by decide) (fun c_5 => ?_) (fun c_5 => ?_)
        · skip
          refine lv_iload_n hx hb dX6_about_48 rfl (lv_at hl 3 rfl) ?_
          refine lv_iconst (v := 1) hx hb dX6_about_49 (by decide) ?_
          refine lv_icmp_ne (tgt := 60) hx hb dX6_about_50 (by decide) (fun c_6 => ?_) (fun c_6 => ?_)
          · skip
            refine lv_aload_n hx hb dX6_about_60 rfl (lv_at hl 0 rfl) ?_
            refine mw_get (ci := 4) (C := RX4) (T := TX4) (N := 3) (v := .int (σ (20 + (ci t)) 1)) hx hb hts hinX4 hown hK hP (20 + (ci t)) (cB_tool ha_3) (cF_tool ha_3) rfl 1 (by decide) kf86 (fun _ h9 => h9) rfl dX6_about_61 ?_
            exact g_riret hx hb hr hlocks hP hS dX6_about_64 (by unfold cpAbout; rw [if_neg c_1, if_neg c_2, if_neg c_4, if_neg c_5, if_neg c_6])
          · skip
            refine lv_aload_n hx hb dX6_about_53 rfl (lv_at hl 0 rfl) ?_
            refine mw_get (ci := 4) (C := RX4) (T := TX4) (N := 3) (v := .int (σ (20 + (ci t)) 2)) hx hb hts hinX4 hown hK hP (20 + (ci t)) (cB_tool ha_3) (cF_tool ha_3) rfl 2 (by decide) kf83 (fun _ h9 => h9) rfl dX6_about_54 ?_
            refine lv_goto (tgt := 64) hx hb dX6_about_57 (by decide) ?_
            exact g_riret hx hb hr hlocks hP hS dX6_about_64 (by unfold cpAbout; rw [if_neg c_1, if_neg c_2, if_neg c_4, if_neg c_5, if_pos c_6])
        · skip
          refine lv_aload_n hx hb dX6_about_43 rfl (lv_at hl 0 rfl) ?_
          refine mw_get (ci := 4) (C := RX4) (T := TX4) (N := 3) (v := .int (σ (20 + (ci t)) 0)) hx hb hts hinX4 hown hK hP (20 + (ci t)) (cB_tool ha_3) (cF_tool ha_3) rfl 0 (by decide) kf79 (fun _ h9 => h9) rfl dX6_about_44 ?_
          exact g_riret hx hb hr hlocks hP hS dX6_about_47 (by unfold cpAbout; rw [if_neg c_1, if_neg c_2, if_neg c_4, if_pos c_5])
      · skip
        refine lv_bipush (v := (-3)) hx hb dX6_about_35 (by decide) ?_
        exact g_riret hx hb hr hlocks hP hS dX6_about_37 (by unfold cpAbout; rw [if_neg c_1, if_neg c_2, if_pos c_4])
    · skip
      refine lv_iconst (v := (-1)) hx hb dX6_about_18 (by decide) ?_
      exact g_riret hx hb hr hlocks hP hS dX6_about_19 (by unfold cpAbout; rw [if_neg c_1, if_pos c_2])

def cpPlaces (σ : Mem) (w : Int32) : Int32 :=
  if inR w 0 3 = 0 then (-1)
  else cSizeOf σ (ci w)
set_option maxHeartbeats 4000000 in
set_option maxRecDepth 100000 in
theorem c_places (l : Launch) (D : va_G) (cy : Nat → ClassId) (ad wy : Nat → Nat) (mt : Nat) (hj : mJ 98 ad) (σ : Mem) (w : Int32)  : Met l yX6_places wsX6_places ({ frames := 1, cells := 0, slots := 0, locals := 22 }) (va_Pc [.ref (ad 0), .int w] (gPre 98 ad (cF ad cy) D cy wy mt σ)) (gQ 98 ad (cF ad cy) D (some (.int (cpPlaces σ w))) σ) 0 0 (mA 98 ad) := by
  refine g_met (cc := cX6_places) (maxL := 2) (ret := (some .int)) (by decide) rfl (Nat.le_of_ble_eq_true rfl) ?_
  intro p e s m below meth c S hr hlocks h0 ls hl
  obtain ⟨hx, hb, hml, hown, hts⟩ := S
  have hP := h0.1
  have hK := h0.2.1
  have hS : va_S (mA 98 ad) s.heap s.heap [] := va_S.rf
  have hl : lv_has ls 2 [(0, .ref (ad 0)), (1, .int w)] := hl
  have kf31 : (Cond.fieldLink RX6 31 "BenchRuns" "stock" "LBenchRuns$Stock;").before (#[.ref (ad 0), .int w] : Array Value) s = true := hts _ (by decide +kernel)
  have hinX6 : ∀ w ∈ u_ws RX6 TX6 7, w ∈ wsX6_places := by decide +kernel
  refine lv_iload_n hx hb dX6_places_0 rfl (lv_at hl 1 rfl) ?_
  refine lv_iconst (v := 0) hx hb dX6_places_1 (by decide) ?_
  refine lv_iconst (v := 3) hx hb dX6_places_2 (by decide) ?_
  refine g_callS (As := [.int w, .int 0, .int 3]) (rest := []) ⟨hx, hb, hml, hown, hts⟩ (c_within l w 0 3) (va_cwS 3 hts gX6_places_X6_within rfl rfl rfl (by decide +kernel) ⟨by decide, by decide⟩) rfl rfl hl.1 (Nat.le_of_ble_eq_true rfl) dX6_places_3 ⟨Nat.zero_le _, Nat.zero_le _⟩ ?_
  refine lv_if_eq (tgt := 20) hx hb dX6_places_6 (by decide) (fun c_1 => ?_) (fun c_1 => ?_)
  · skip
    refine lv_iconst (v := (-1)) hx hb dX6_places_20 (by decide) ?_
    exact g_riret hx hb hr hlocks hP hS dX6_places_21 (by unfold cpPlaces; rw [if_pos c_1])
  · skip
    have ix_w : vp_in w 4 := (inR_in (by decide) c_1)
    refine lv_aload_n hx hb dX6_places_9 rfl (lv_at hl 0 rfl) ?_
    refine mw_get (ci := 5) (C := RX6) (T := TX6) (N := 7) (v := .ref (ad 5)) hx hb hts hinX6 hown hK hP 0 (by decide) cF_0 rfl 4 (by decide) kf31 (fun _ h9 => h9) rfl dX6_places_10 ?_
    refine lv_iload_n hx hb dX6_places_13 rfl (lv_at hl 1 rfl) ?_
    refine g_top (y := nI (ci w)) (ci_eq ix_w (by decide)) ?_
    refine g_callV (As := [.int (nI (ci w))]) (rest := []) (N := 6) (T := TX3) (ci := 3) ⟨hx, hb, hml, hown, hts⟩ 5 (c_sizeOf l D cy ad wy mt hj σ (ci w) (ci_lt ix_w)) (cwV 1 hts gX6_places_X3_sizeOf rfl rfl rfl (by decide +kernel) ⟨by decide, by decide⟩) h0 hP hS (by decide) cF_5 rfl rfl rfl hl.1 (Nat.le_of_ble_eq_true rfl) dX6_places_14 ⟨Nat.zero_le _, Nat.zero_le _⟩ (fun H locs hP hS => ?_)
    refine lv_goto (tgt := 21) hx hb dX6_places_17 (by decide) ?_
    exact g_riret hx hb hr hlocks hP hS dX6_places_21 (by unfold cpPlaces; rw [if_neg c_1])

def cpBox (σ : Mem) (k : Int32) : Int32 :=
  if inR k 0 ((σ 5 2) - 1) = 0 then (-4)
  else σ 6 (ci k)
set_option maxHeartbeats 4000000 in
set_option maxRecDepth 100000 in
theorem c_box (l : Launch) (D : va_G) (cy : Nat → ClassId) (ad wy : Nat → Nat) (mt : Nat) (hj : mJ 98 ad) (σ : Mem) (k : Int32) (hB : bxK σ) : Met l yX6_box wsX6_box ({ frames := 1, cells := 0, slots := 0, locals := 22 }) (va_Pc [.ref (ad 0), .int k] (gPre 98 ad (cF ad cy) D cy wy mt σ)) (gQ 98 ad (cF ad cy) D (some (.int (cpBox σ k))) σ) 0 0 (mA 98 ad) := by
  refine g_met (cc := cX6_box) (maxL := 2) (ret := (some .int)) (by decide) rfl (Nat.le_of_ble_eq_true rfl) ?_
  intro p e s m below meth c S hr hlocks h0 ls hl
  obtain ⟨hx, hb, hml, hown, hts⟩ := S
  have hP := h0.1
  have hK := h0.2.1
  have hS : va_S (mA 98 ad) s.heap s.heap [] := va_S.rf
  have hl : lv_has ls 2 [(0, .ref (ad 0)), (1, .int k)] := hl
  have kf31 : (Cond.fieldLink RX6 31 "BenchRuns" "stock" "LBenchRuns$Stock;").before (#[.ref (ad 0), .int k] : Array Value) s = true := hts _ (by decide +kernel)
  have hinX6 : ∀ w ∈ u_ws RX6 TX6 7, w ∈ wsX6_box := by decide +kernel
  have kf92 : (Cond.fieldLink RX6 92 "BenchRuns$Stock" "boxSize" "I").before (#[.ref (ad 0), .int k] : Array Value) s = true := hts _ (by decide +kernel)
  have hinX3 : ∀ w ∈ u_ws RX3 TX3 6, w ∈ wsX6_box := by decide +kernel
  have kf95 : (Cond.fieldLink RX6 95 "BenchRuns$Stock" "boxTools" "[I").before (#[.ref (ad 0), .int k] : Array Value) s = true := hts _ (by decide +kernel)
  refine lv_iload_n hx hb dX6_box_0 rfl (lv_at hl 1 rfl) ?_
  refine lv_iconst (v := 0) hx hb dX6_box_1 (by decide) ?_
  refine lv_aload_n hx hb dX6_box_2 rfl (lv_at hl 0 rfl) ?_
  refine mw_get (ci := 5) (C := RX6) (T := TX6) (N := 7) (v := .ref (ad 5)) hx hb hts hinX6 hown hK hP 0 (by decide) cF_0 rfl 4 (by decide) kf31 (fun _ h9 => h9) rfl dX6_box_3 ?_
  refine mw_get (ci := 3) (C := RX3) (T := TX3) (N := 6) (v := .int (σ 5 2)) hx hb hts hinX3 hown hK hP 5 (by decide) cF_5 rfl 2 (by decide) kf92 (fun _ h9 => h9) rfl dX6_box_6 ?_
  refine lv_iconst (v := 1) hx hb dX6_box_9 (by decide) ?_
  refine lv_isub hx hb dX6_box_10 ?_
  refine g_callS (As := [.int k, .int 0, .int ((σ 5 2) - 1)]) (rest := []) ⟨hx, hb, hml, hown, hts⟩ (c_within l k 0 ((σ 5 2) - 1)) (va_cwS 3 hts gX6_box_X6_within rfl rfl rfl (by decide +kernel) ⟨by decide, by decide⟩) rfl rfl hl.1 (Nat.le_of_ble_eq_true rfl) dX6_box_11 ⟨Nat.zero_le _, Nat.zero_le _⟩ ?_
  refine lv_if_eq (tgt := 29) hx hb dX6_box_14 (by decide) (fun c_1 => ?_) (fun c_1 => ?_)
  · skip
    refine lv_bipush (v := (-4)) hx hb dX6_box_29 (by decide) ?_
    exact g_riret hx hb hr hlocks hP hS dX6_box_31 (by unfold cpBox; rw [if_pos c_1])
  · skip
    have ix_k : vp_in k 18 := (inR_box hB c_1)
    refine lv_aload_n hx hb dX6_box_17 rfl (lv_at hl 0 rfl) ?_
    refine mw_get (ci := 5) (C := RX6) (T := TX6) (N := 7) (v := .ref (ad 5)) hx hb hts hinX6 hown hK hP 0 (by decide) cF_0 rfl 4 (by decide) kf31 (fun _ h9 => h9) rfl dX6_box_18 ?_
    refine mw_get (ci := 3) (C := RX3) (T := TX3) (N := 6) (v := .ref (ad 6)) hx hb hts hinX3 hown hK hP 5 (by decide) cF_5 rfl 0 (by decide) kf95 (fun _ h9 => h9) rfl dX6_box_21 ?_
    refine lv_iload_n hx hb dX6_box_24 rfl (lv_at hl 1 rfl) ?_
    refine mw_ild hx hb hK hP 6 (by decide) 0 cF_6 rfl (ci k) (ci_lt ix_k) (by decide) (ci_eq ix_k (by decide)) dX6_box_25 ?_
    refine lv_goto (tgt := 31) hx hb dX6_box_26 (by decide) ?_
    exact g_riret hx hb hr hlocks hP hS dX6_box_31 (by unfold cpBox; rw [if_neg c_1])

def cpWhy (σ : Mem) (k : Int32) : Int32 :=
  if inR k 0 ((σ 7 6) - 1) = 0 then (-4)
  else σ 11 (ci (((σ 7 6) - 1) - k))
set_option maxHeartbeats 4000000 in
set_option maxRecDepth 100000 in
theorem c_why (l : Launch) (D : va_G) (cy : Nat → ClassId) (ad wy : Nat → Nat) (mt : Nat) (hj : mJ 98 ad) (σ : Mem) (k : Int32) (hL : lgK σ) : Met l yX6_why wsX6_why ({ frames := 1, cells := 0, slots := 0, locals := 22 }) (va_Pc [.ref (ad 0), .int k] (gPre 98 ad (cF ad cy) D cy wy mt σ)) (gQ 98 ad (cF ad cy) D (some (.int (cpWhy σ k))) σ) 0 0 (mA 98 ad) := by
  refine g_met (cc := cX6_why) (maxL := 2) (ret := (some .int)) (by decide) rfl (Nat.le_of_ble_eq_true rfl) ?_
  intro p e s m below meth c S hr hlocks h0 ls hl
  obtain ⟨hx, hb, hml, hown, hts⟩ := S
  have hP := h0.1
  have hK := h0.2.1
  have hS : va_S (mA 98 ad) s.heap s.heap [] := va_S.rf
  have hl : lv_has ls 2 [(0, .ref (ad 0)), (1, .int k)] := hl
  have kf38 : (Cond.fieldLink RX6 38 "BenchRuns" "log" "LBenchRuns$Log;").before (#[.ref (ad 0), .int k] : Array Value) s = true := hts _ (by decide +kernel)
  have hinX6 : ∀ w ∈ u_ws RX6 TX6 7, w ∈ wsX6_why := by decide +kernel
  have kf119 : (Cond.fieldLink RX6 119 "BenchRuns$Log" "chainLength" "I").before (#[.ref (ad 0), .int k] : Array Value) s = true := hts _ (by decide +kernel)
  have hinX1 : ∀ w ∈ u_ws RX1 TX1 7, w ∈ wsX6_why := by decide +kernel
  have kf122 : (Cond.fieldLink RX6 122 "BenchRuns$Log" "chain" "[I").before (#[.ref (ad 0), .int k] : Array Value) s = true := hts _ (by decide +kernel)
  refine lv_iload_n hx hb dX6_why_0 rfl (lv_at hl 1 rfl) ?_
  refine lv_iconst (v := 0) hx hb dX6_why_1 (by decide) ?_
  refine lv_aload_n hx hb dX6_why_2 rfl (lv_at hl 0 rfl) ?_
  refine mw_get (ci := 5) (C := RX6) (T := TX6) (N := 7) (v := .ref (ad 7)) hx hb hts hinX6 hown hK hP 0 (by decide) cF_0 rfl 5 (by decide) kf38 (fun _ h9 => h9) rfl dX6_why_3 ?_
  refine mw_get (ci := 1) (C := RX1) (T := TX1) (N := 7) (v := .int (σ 7 6)) hx hb hts hinX1 hown hK hP 7 (by decide) cF_7 rfl 6 (by decide) kf119 (fun _ h9 => h9) rfl dX6_why_6 ?_
  refine lv_iconst (v := 1) hx hb dX6_why_9 (by decide) ?_
  refine lv_isub hx hb dX6_why_10 ?_
  refine g_callS (As := [.int k, .int 0, .int ((σ 7 6) - 1)]) (rest := []) ⟨hx, hb, hml, hown, hts⟩ (c_within l k 0 ((σ 7 6) - 1)) (va_cwS 3 hts gX6_why_X6_within rfl rfl rfl (by decide +kernel) ⟨by decide, by decide⟩) rfl rfl hl.1 (Nat.le_of_ble_eq_true rfl) dX6_why_11 ⟨Nat.zero_le _, Nat.zero_le _⟩ ?_
  refine lv_if_eq (tgt := 39) hx hb dX6_why_14 (by decide) (fun c_1 => ?_) (fun c_1 => ?_)
  · skip
    refine lv_bipush (v := (-4)) hx hb dX6_why_39 (by decide) ?_
    exact g_riret hx hb hr hlocks hP hS dX6_why_41 (by unfold cpWhy; rw [if_pos c_1])
  · skip
    have ix_w : vp_in (σ 7 6 - 1 - k) 4 := inR_why hL c_1
    refine lv_aload_n hx hb dX6_why_17 rfl (lv_at hl 0 rfl) ?_
    refine mw_get (ci := 5) (C := RX6) (T := TX6) (N := 7) (v := .ref (ad 7)) hx hb hts hinX6 hown hK hP 0 (by decide) cF_0 rfl 5 (by decide) kf38 (fun _ h9 => h9) rfl dX6_why_18 ?_
    refine mw_get (ci := 1) (C := RX1) (T := TX1) (N := 7) (v := .ref (ad 11)) hx hb hts hinX1 hown hK hP 7 (by decide) cF_7 rfl 5 (by decide) kf122 (fun _ h9 => h9) rfl dX6_why_21 ?_
    refine lv_aload_n hx hb dX6_why_24 rfl (lv_at hl 0 rfl) ?_
    refine mw_get (ci := 5) (C := RX6) (T := TX6) (N := 7) (v := .ref (ad 7)) hx hb hts hinX6 hown hK hP 0 (by decide) cF_0 rfl 5 (by decide) kf38 (fun _ h9 => h9) rfl dX6_why_25 ?_
    refine mw_get (ci := 1) (C := RX1) (T := TX1) (N := 7) (v := .int (σ 7 6)) hx hb hts hinX1 hown hK hP 7 (by decide) cF_7 rfl 6 (by decide) kf119 (fun _ h9 => h9) rfl dX6_why_28 ?_
    refine lv_iconst (v := 1) hx hb dX6_why_31 (by decide) ?_
    refine lv_isub hx hb dX6_why_32 ?_
    refine lv_iload_n hx hb dX6_why_33 rfl (lv_at hl 1 rfl) ?_
    refine lv_isub hx hb dX6_why_34 ?_
    refine mw_ild hx hb hK hP 11 (by decide) 0 cF_11 rfl (ci (((σ 7 6) - 1) - k)) (ci_lt ix_w) (by decide) (ci_eq ix_w (by decide)) dX6_why_35 ?_
    refine lv_goto (tgt := 41) hx hb dX6_why_36 (by decide) ?_
    exact g_riret hx hb hr hlocks hP hS dX6_why_41 (by unfold cpWhy; rw [if_neg c_1])

def cpTold (σ : Mem) (k : Int32) : Int32 :=
  if inR k 0 7 = 0 then (-1)
  else if k = 7 then σ 7 2
  else if k = 6 then σ 7 4
  else σ 8 (ci (k + 1))
set_option maxHeartbeats 4000000 in
set_option maxRecDepth 100000 in
theorem c_told (l : Launch) (D : va_G) (cy : Nat → ClassId) (ad wy : Nat → Nat) (mt : Nat) (hj : mJ 98 ad) (σ : Mem) (k : Int32)  : Met l yX6_told wsX6_told ({ frames := 1, cells := 0, slots := 0, locals := 22 }) (va_Pc [.ref (ad 0), .int k] (gPre 98 ad (cF ad cy) D cy wy mt σ)) (gQ 98 ad (cF ad cy) D (some (.int (cpTold σ k))) σ) 0 0 (mA 98 ad) := by
  refine g_met (cc := cX6_told) (maxL := 2) (ret := (some .int)) (by decide) rfl (Nat.le_of_ble_eq_true rfl) ?_
  intro p e s m below meth c S hr hlocks h0 ls hl
  obtain ⟨hx, hb, hml, hown, hts⟩ := S
  have hP := h0.1
  have hK := h0.2.1
  have hS : va_S (mA 98 ad) s.heap s.heap [] := va_S.rf
  have hl : lv_has ls 2 [(0, .ref (ad 0)), (1, .int k)] := hl
  have kf38 : (Cond.fieldLink RX6 38 "BenchRuns" "log" "LBenchRuns$Log;").before (#[.ref (ad 0), .int k] : Array Value) s = true := hts _ (by decide +kernel)
  have hinX6 : ∀ w ∈ u_ws RX6 TX6 7, w ∈ wsX6_told := by decide +kernel
  have kf131 : (Cond.fieldLink RX6 131 "BenchRuns$Log" "countOf" "[I").before (#[.ref (ad 0), .int k] : Array Value) s = true := hts _ (by decide +kernel)
  have hinX1 : ∀ w ∈ u_ws RX1 TX1 7, w ∈ wsX6_told := by decide +kernel
  have kf128 : (Cond.fieldLink RX6 128 "BenchRuns$Log" "notedCount" "I").before (#[.ref (ad 0), .int k] : Array Value) s = true := hts _ (by decide +kernel)
  have kf125 : (Cond.fieldLink RX6 125 "BenchRuns$Log" "eventCount" "I").before (#[.ref (ad 0), .int k] : Array Value) s = true := hts _ (by decide +kernel)
  refine lv_iload_n hx hb dX6_told_0 rfl (lv_at hl 1 rfl) ?_
  refine lv_iconst (v := 0) hx hb dX6_told_1 (by decide) ?_
  refine lv_bipush (v := 7) hx hb dX6_told_2 (by decide) ?_
  refine g_callS (As := [.int k, .int 0, .int 7]) (rest := []) ⟨hx, hb, hml, hown, hts⟩ (c_within l k 0 7) (va_cwS 3 hts gX6_told_X6_within rfl rfl rfl (by decide +kernel) ⟨by decide, by decide⟩) rfl rfl hl.1 (Nat.le_of_ble_eq_true rfl) dX6_told_4 ⟨Nat.zero_le _, Nat.zero_le _⟩ ?_
  refine lv_if_ne (tgt := 12) hx hb dX6_told_7 (by decide) (fun c_1 => ?_) (fun c_1 => ?_)
  · skip
    refine lv_iload_n hx hb dX6_told_12 rfl (lv_at hl 1 rfl) ?_
    refine lv_bipush (v := 7) hx hb dX6_told_13 (by decide) ?_
    refine lv_icmp_ne (tgt := 26) hx hb dX6_told_15 (by decide) (fun c_2 => ?_) (fun c_2 => ?_)
    · skip
      refine lv_iload_n hx hb dX6_told_26 rfl (lv_at hl 1 rfl) ?_
      refine lv_bipush (v := 6) hx hb dX6_told_27 (by decide) ?_
      refine lv_icmp_ne (tgt := 42) hx hb dX6_told_29 (by decide) (fun c_3 => ?_) (fun c_3 => ?_)
      · skip
        have ix_t : vp_in (k + 1) 7 := inR_told c_1 c_2 c_3
        refine lv_aload_n hx hb dX6_told_42 rfl (lv_at hl 0 rfl) ?_
        refine mw_get (ci := 5) (C := RX6) (T := TX6) (N := 7) (v := .ref (ad 7)) hx hb hts hinX6 hown hK hP 0 (by decide) cF_0 rfl 5 (by decide) kf38 (fun _ h9 => h9) rfl dX6_told_43 ?_
        refine mw_get (ci := 1) (C := RX1) (T := TX1) (N := 7) (v := .ref (ad 8)) hx hb hts hinX1 hown hK hP 7 (by decide) cF_7 rfl 0 (by decide) kf131 (fun _ h9 => h9) rfl dX6_told_46 ?_
        refine lv_iload_n hx hb dX6_told_49 rfl (lv_at hl 1 rfl) ?_
        refine lv_iconst (v := 1) hx hb dX6_told_50 (by decide) ?_
        refine lv_iadd hx hb dX6_told_51 ?_
        refine mw_ild hx hb hK hP 8 (by decide) 0 cF_8 rfl (ci (k + 1)) (ci_lt ix_t) (by decide) (ci_eq ix_t (by decide)) dX6_told_52 ?_
        exact g_riret hx hb hr hlocks hP hS dX6_told_53 (by unfold cpTold; rw [if_neg c_1, if_neg c_2, if_neg c_3])
      · skip
        refine lv_aload_n hx hb dX6_told_32 rfl (lv_at hl 0 rfl) ?_
        refine mw_get (ci := 5) (C := RX6) (T := TX6) (N := 7) (v := .ref (ad 7)) hx hb hts hinX6 hown hK hP 0 (by decide) cF_0 rfl 5 (by decide) kf38 (fun _ h9 => h9) rfl dX6_told_33 ?_
        refine mw_get (ci := 1) (C := RX1) (T := TX1) (N := 7) (v := .int (σ 7 4)) hx hb hts hinX1 hown hK hP 7 (by decide) cF_7 rfl 4 (by decide) kf128 (fun _ h9 => h9) rfl dX6_told_36 ?_
        refine lv_goto (tgt := 53) hx hb dX6_told_39 (by decide) ?_
        exact g_riret hx hb hr hlocks hP hS dX6_told_53 (by unfold cpTold; rw [if_neg c_1, if_neg c_2, if_pos c_3])
    · skip
      refine lv_aload_n hx hb dX6_told_18 rfl (lv_at hl 0 rfl) ?_
      refine mw_get (ci := 5) (C := RX6) (T := TX6) (N := 7) (v := .ref (ad 7)) hx hb hts hinX6 hown hK hP 0 (by decide) cF_0 rfl 5 (by decide) kf38 (fun _ h9 => h9) rfl dX6_told_19 ?_
      refine mw_get (ci := 1) (C := RX1) (T := TX1) (N := 7) (v := .int (σ 7 2)) hx hb hts hinX1 hown hK hP 7 (by decide) cF_7 rfl 2 (by decide) kf125 (fun _ h9 => h9) rfl dX6_told_22 ?_
      exact g_riret hx hb hr hlocks hP hS dX6_told_25 (by unfold cpTold; rw [if_neg c_1, if_pos c_2])
  · skip
    refine lv_iconst (v := (-1)) hx hb dX6_told_10 (by decide) ?_
    exact g_riret hx hb hr hlocks hP hS dX6_told_11 (by unfold cpTold; rw [if_pos c_1])

def cpTrace (σ : Mem) (k : Int32) : Int32 :=
  if inR k 0 ((if 400 < σ 7 2 then 400 else σ 7 2) - 1) = 0 then (-4)
  else σ 9 (ci k)
set_option maxHeartbeats 4000000 in
set_option maxRecDepth 100000 in
theorem c_trace (l : Launch) (D : va_G) (cy : Nat → ClassId) (ad wy : Nat → Nat) (mt : Nat) (hj : mJ 98 ad) (σ : Mem) (k : Int32) (x : Nat) (hx9 : x ≤ 1000) (hO : rOK x σ) : Met l yX6_trace wsX6_trace ({ frames := 1, cells := 0, slots := 0, locals := 22 }) (va_Pc [.ref (ad 0), .int k] (gPre 98 ad (cF ad cy) D cy wy mt σ)) (gQ 98 ad (cF ad cy) D (some (.int (cpTrace σ k))) σ) 0 0 (mA 98 ad) := by
  refine g_met (cc := cX6_trace) (maxL := 2) (ret := (some .int)) (by decide) rfl (Nat.le_of_ble_eq_true rfl) ?_
  intro p e s m below meth c S hr hlocks h0 ls hl
  obtain ⟨hx, hb, hml, hown, hts⟩ := S
  have hP := h0.1
  have hK := h0.2.1
  have hS : va_S (mA 98 ad) s.heap s.heap [] := va_S.rf
  have hl : lv_has ls 2 [(0, .ref (ad 0)), (1, .int k)] := hl
  have kf38 : (Cond.fieldLink RX6 38 "BenchRuns" "log" "LBenchRuns$Log;").before (#[.ref (ad 0), .int k] : Array Value) s = true := hts _ (by decide +kernel)
  have hinX6 : ∀ w ∈ u_ws RX6 TX6 7, w ∈ wsX6_trace := by decide +kernel
  have kf125 : (Cond.fieldLink RX6 125 "BenchRuns$Log" "eventCount" "I").before (#[.ref (ad 0), .int k] : Array Value) s = true := hts _ (by decide +kernel)
  have hinX1 : ∀ w ∈ u_ws RX1 TX1 7, w ∈ wsX6_trace := by decide +kernel
  have kml : (Cond.methodLink RX6 134 Lib.Math.min.name).before (#[.ref (ad 0), .int k] : Array Value) s = true := hts _ (by decide +kernel)
  have kms : (Cond.static Lib.Math.min.name).before (#[.ref (ad 0), .int k] : Array Value) s = true := hts _ (by decide +kernel)
  have kmi : (Cond.initialized "java/lang/Math").before (#[.ref (ad 0), .int k] : Array Value) s = true := hts _ (by decide +kernel)
  have kmc : (Cond.code Lib.Math.min.name Lib.Math.min.code 2 (some .int)).before (#[.ref (ad 0), .int k] : Array Value) s = true := hts _ (by decide +kernel)
  have kf139 : (Cond.fieldLink RX6 139 "BenchRuns$Log" "events" "[I").before (#[.ref (ad 0), .int k] : Array Value) s = true := hts _ (by decide +kernel)
  refine lv_iload_n hx hb dX6_trace_0 rfl (lv_at hl 1 rfl) ?_
  refine lv_iconst (v := 0) hx hb dX6_trace_1 (by decide) ?_
  refine lv_aload_n hx hb dX6_trace_2 rfl (lv_at hl 0 rfl) ?_
  refine mw_get (ci := 5) (C := RX6) (T := TX6) (N := 7) (v := .ref (ad 7)) hx hb hts hinX6 hown hK hP 0 (by decide) cF_0 rfl 5 (by decide) kf38 (fun _ h9 => h9) rfl dX6_trace_3 ?_
  refine mw_get (ci := 1) (C := RX1) (T := TX1) (N := 7) (v := .int (σ 7 2)) hx hb hts hinX1 hown hK hP 7 (by decide) cF_7 rfl 2 (by decide) kf125 (fun _ h9 => h9) rfl dX6_trace_6 ?_
  refine lv_sipush (v := 400) hx hb dX6_trace_9 (by decide) ?_
  refine va_mmin hx hb (hml.trans hl.1.symm) hown kml kms kmi kmc (by decide) (Nat.le_of_ble_eq_true rfl) (Nat.zero_le _) (Nat.zero_le _) dX6_trace_12 ?_
  refine lv_iconst (v := 1) hx hb dX6_trace_15 (by decide) ?_
  refine lv_isub hx hb dX6_trace_16 ?_
  refine g_callS (As := [.int k, .int 0, .int ((if 400 < σ 7 2 then 400 else σ 7 2) - 1)]) (rest := []) ⟨hx, hb, hml, hown, hts⟩ (c_within l k 0 ((if 400 < σ 7 2 then 400 else σ 7 2) - 1)) (va_cwS 3 hts gX6_trace_X6_within rfl rfl rfl (by decide +kernel) ⟨by decide, by decide⟩) rfl rfl hl.1 (Nat.le_of_ble_eq_true rfl) dX6_trace_17 ⟨Nat.zero_le _, Nat.zero_le _⟩ ?_
  refine lv_if_eq (tgt := 35) hx hb dX6_trace_20 (by decide) (fun c_1 => ?_) (fun c_1 => ?_)
  · skip
    refine lv_bipush (v := (-4)) hx hb dX6_trace_35 (by decide) ?_
    exact g_riret hx hb hr hlocks hP hS dX6_trace_37 (by unfold cpTrace; rw [if_pos c_1])
  · skip
    have ix_k : vp_in k 400 := (inR_tr hO hx9 c_1)
    refine lv_aload_n hx hb dX6_trace_23 rfl (lv_at hl 0 rfl) ?_
    refine mw_get (ci := 5) (C := RX6) (T := TX6) (N := 7) (v := .ref (ad 7)) hx hb hts hinX6 hown hK hP 0 (by decide) cF_0 rfl 5 (by decide) kf38 (fun _ h9 => h9) rfl dX6_trace_24 ?_
    refine mw_get (ci := 1) (C := RX1) (T := TX1) (N := 7) (v := .ref (ad 9)) hx hb hts hinX1 hown hK hP 7 (by decide) cF_7 rfl 1 (by decide) kf139 (fun _ h9 => h9) rfl dX6_trace_27 ?_
    refine lv_iload_n hx hb dX6_trace_30 rfl (lv_at hl 1 rfl) ?_
    refine mw_ild hx hb hK hP 9 (by decide) 0 cF_9 rfl (ci k) (ci_lt ix_k) (by decide) (ci_eq ix_k (by decide)) dX6_trace_31 ?_
    refine lv_goto (tgt := 37) hx hb dX6_trace_32 (by decide) ?_
    exact g_riret hx hb hr hlocks hP hS dX6_trace_37 (by unfold cpTrace; rw [if_neg c_1])

def cpNoted (σ : Mem) (k : Int32) : Int32 :=
  if inR k 0 ((σ 7 4) - 1) = 0 then (-4)
  else σ 10 (ci k)
set_option maxHeartbeats 4000000 in
set_option maxRecDepth 100000 in
theorem c_noted (l : Launch) (D : va_G) (cy : Nat → ClassId) (ad wy : Nat → Nat) (mt : Nat) (hj : mJ 98 ad) (σ : Mem) (k : Int32) (hL : lgK σ) : Met l yX6_noted wsX6_noted ({ frames := 1, cells := 0, slots := 0, locals := 22 }) (va_Pc [.ref (ad 0), .int k] (gPre 98 ad (cF ad cy) D cy wy mt σ)) (gQ 98 ad (cF ad cy) D (some (.int (cpNoted σ k))) σ) 0 0 (mA 98 ad) := by
  refine g_met (cc := cX6_noted) (maxL := 2) (ret := (some .int)) (by decide) rfl (Nat.le_of_ble_eq_true rfl) ?_
  intro p e s m below meth c S hr hlocks h0 ls hl
  obtain ⟨hx, hb, hml, hown, hts⟩ := S
  have hP := h0.1
  have hK := h0.2.1
  have hS : va_S (mA 98 ad) s.heap s.heap [] := va_S.rf
  have hl : lv_has ls 2 [(0, .ref (ad 0)), (1, .int k)] := hl
  have kf38 : (Cond.fieldLink RX6 38 "BenchRuns" "log" "LBenchRuns$Log;").before (#[.ref (ad 0), .int k] : Array Value) s = true := hts _ (by decide +kernel)
  have hinX6 : ∀ w ∈ u_ws RX6 TX6 7, w ∈ wsX6_noted := by decide +kernel
  have kf128 : (Cond.fieldLink RX6 128 "BenchRuns$Log" "notedCount" "I").before (#[.ref (ad 0), .int k] : Array Value) s = true := hts _ (by decide +kernel)
  have hinX1 : ∀ w ∈ u_ws RX1 TX1 7, w ∈ wsX6_noted := by decide +kernel
  have kf142 : (Cond.fieldLink RX6 142 "BenchRuns$Log" "notedNumbers" "[I").before (#[.ref (ad 0), .int k] : Array Value) s = true := hts _ (by decide +kernel)
  refine lv_iload_n hx hb dX6_noted_0 rfl (lv_at hl 1 rfl) ?_
  refine lv_iconst (v := 0) hx hb dX6_noted_1 (by decide) ?_
  refine lv_aload_n hx hb dX6_noted_2 rfl (lv_at hl 0 rfl) ?_
  refine mw_get (ci := 5) (C := RX6) (T := TX6) (N := 7) (v := .ref (ad 7)) hx hb hts hinX6 hown hK hP 0 (by decide) cF_0 rfl 5 (by decide) kf38 (fun _ h9 => h9) rfl dX6_noted_3 ?_
  refine mw_get (ci := 1) (C := RX1) (T := TX1) (N := 7) (v := .int (σ 7 4)) hx hb hts hinX1 hown hK hP 7 (by decide) cF_7 rfl 4 (by decide) kf128 (fun _ h9 => h9) rfl dX6_noted_6 ?_
  refine lv_iconst (v := 1) hx hb dX6_noted_9 (by decide) ?_
  refine lv_isub hx hb dX6_noted_10 ?_
  refine g_callS (As := [.int k, .int 0, .int ((σ 7 4) - 1)]) (rest := []) ⟨hx, hb, hml, hown, hts⟩ (c_within l k 0 ((σ 7 4) - 1)) (va_cwS 3 hts gX6_noted_X6_within rfl rfl rfl (by decide +kernel) ⟨by decide, by decide⟩) rfl rfl hl.1 (Nat.le_of_ble_eq_true rfl) dX6_noted_11 ⟨Nat.zero_le _, Nat.zero_le _⟩ ?_
  refine lv_if_eq (tgt := 29) hx hb dX6_noted_14 (by decide) (fun c_1 => ?_) (fun c_1 => ?_)
  · skip
    refine lv_bipush (v := (-4)) hx hb dX6_noted_29 (by decide) ?_
    exact g_riret hx hb hr hlocks hP hS dX6_noted_31 (by unfold cpNoted; rw [if_pos c_1])
  · skip
    have ix_k : vp_in k 24 := (inR_nc hL c_1)
    refine lv_aload_n hx hb dX6_noted_17 rfl (lv_at hl 0 rfl) ?_
    refine mw_get (ci := 5) (C := RX6) (T := TX6) (N := 7) (v := .ref (ad 7)) hx hb hts hinX6 hown hK hP 0 (by decide) cF_0 rfl 5 (by decide) kf38 (fun _ h9 => h9) rfl dX6_noted_18 ?_
    refine mw_get (ci := 1) (C := RX1) (T := TX1) (N := 7) (v := .ref (ad 10)) hx hb hts hinX1 hown hK hP 7 (by decide) cF_7 rfl 3 (by decide) kf142 (fun _ h9 => h9) rfl dX6_noted_21 ?_
    refine lv_iload_n hx hb dX6_noted_24 rfl (lv_at hl 1 rfl) ?_
    refine mw_ild hx hb hK hP 10 (by decide) 0 cF_10 rfl (ci k) (ci_lt ix_k) (by decide) (ci_eq ix_k (by decide)) dX6_noted_25 ?_
    refine lv_goto (tgt := 31) hx hb dX6_noted_26 (by decide) ?_
    exact g_riret hx hb hr hlocks hP hS dX6_noted_31 (by unfold cpNoted; rw [if_neg c_1])

def cpDrops (σ : Mem) (v : Int32) : Int32 :=
  if inR v 0 7 = 0 then (-1)
  else orN (σ 1 (ci v))
set_option maxHeartbeats 4000000 in
set_option maxRecDepth 100000 in
theorem c_drops (l : Launch) (D : va_G) (cy : Nat → ClassId) (ad wy : Nat → Nat) (mt : Nat) (hj : mJ 98 ad) (σ : Mem) (v : Int32)  : Met l yX6_drops wsX6_drops ({ frames := 1, cells := 0, slots := 0, locals := 22 }) (va_Pc [.ref (ad 0), .int v] (gPre 98 ad (cF ad cy) D cy wy mt σ)) (gQ 98 ad (cF ad cy) D (some (.int (cpDrops σ v))) σ) 0 0 (mA 98 ad) := by
  refine g_met (cc := cX6_drops) (maxL := 2) (ret := (some .int)) (by decide) rfl (Nat.le_of_ble_eq_true rfl) ?_
  intro p e s m below meth c S hr hlocks h0 ls hl
  obtain ⟨hx, hb, hml, hown, hts⟩ := S
  have hP := h0.1
  have hK := h0.2.1
  have hS : va_S (mA 98 ad) s.heap s.heap [] := va_S.rf
  have hl : lv_has ls 2 [(0, .ref (ad 0)), (1, .int v)] := hl
  have kf9 : (Cond.fieldLink RX6 9 "BenchRuns" "vialDrops" "[I").before (#[.ref (ad 0), .int v] : Array Value) s = true := hts _ (by decide +kernel)
  have hinX6 : ∀ w ∈ u_ws RX6 TX6 7, w ∈ wsX6_drops := by decide +kernel
  refine lv_iload_n hx hb dX6_drops_0 rfl (lv_at hl 1 rfl) ?_
  refine lv_iconst (v := 0) hx hb dX6_drops_1 (by decide) ?_
  refine lv_bipush (v := 7) hx hb dX6_drops_2 (by decide) ?_
  refine g_callS (As := [.int v, .int 0, .int 7]) (rest := []) ⟨hx, hb, hml, hown, hts⟩ (c_within l v 0 7) (va_cwS 3 hts gX6_drops_X6_within rfl rfl rfl (by decide +kernel) ⟨by decide, by decide⟩) rfl rfl hl.1 (Nat.le_of_ble_eq_true rfl) dX6_drops_4 ⟨Nat.zero_le _, Nat.zero_le _⟩ ?_
  refine lv_if_eq (tgt := 22) hx hb dX6_drops_7 (by decide) (fun c_1 => ?_) (fun c_1 => ?_)
  · skip
    refine lv_iconst (v := (-1)) hx hb dX6_drops_22 (by decide) ?_
    exact g_riret hx hb hr hlocks hP hS dX6_drops_23 (by unfold cpDrops; rw [if_pos c_1])
  · skip
    have ix_v : vp_in v 8 := (inR_in (by decide) c_1)
    refine lv_aload_n hx hb dX6_drops_10 rfl (lv_at hl 0 rfl) ?_
    refine mw_get (ci := 5) (C := RX6) (T := TX6) (N := 7) (v := .ref (ad 1)) hx hb hts hinX6 hown hK hP 0 (by decide) cF_0 rfl 0 (by decide) kf9 (fun _ h9 => h9) rfl dX6_drops_11 ?_
    refine lv_iload_n hx hb dX6_drops_14 rfl (lv_at hl 1 rfl) ?_
    refine mw_ild hx hb hK hP 1 (by decide) 0 cF_1 rfl (ci v) (ci_lt ix_v) (by decide) (ci_eq ix_v (by decide)) dX6_drops_15 ?_
    refine g_callS (As := [.int (σ 1 (ci v))]) (rest := []) ⟨hx, hb, hml, hown, hts⟩ (c_orNone l (σ 1 (ci v))) (va_cwS 1 hts gX6_drops_X6_orNone rfl rfl rfl (by decide +kernel) ⟨by decide, by decide⟩) rfl rfl hl.1 (Nat.le_of_ble_eq_true rfl) dX6_drops_16 ⟨Nat.zero_le _, Nat.zero_le _⟩ ?_
    refine lv_goto (tgt := 23) hx hb dX6_drops_19 (by decide) ?_
    exact g_riret hx hb hr hlocks hP hS dX6_drops_23 (by unfold cpDrops; rw [if_neg c_1])

def cSumF (σ : Mem) : Nat → Nat → Int32 → Int32
  | 0, _, a => a
  | n + 1, k, a => cSumF σ n (k + 1) (if σ 1 k = (-1) then a else a + σ 1 k)
theorem cSumF_succ (σ : Mem) (n k : Nat) (a : Int32) : cSumF σ (n + 1) k a = cSumF σ n (k + 1) (if σ 1 k = (-1) then a else a + σ 1 k) := rfl
set_option maxHeartbeats 4000000 in
set_option maxRecDepth 100000 in
theorem c_sum (l : Launch) (D : va_G) (cy : Nat → ClassId) (ad wy : Nat → Nat) (mt : Nat) (hj : mJ 98 ad) (σ : Mem)   : Met l yX6_sum wsX6_sum ({ frames := 0, cells := 0, slots := 0, locals := 0 }) (va_Pc [.ref (ad 0)] (gPre 98 ad (cF ad cy) D cy wy mt σ)) (gQ 98 ad (cF ad cy) D (some (.int (cSumF σ 8 0 0))) σ) 0 0 (mA 98 ad) := by
  refine g_met (cc := cX6_sum) (maxL := 6) (ret := (some .int)) (by decide) rfl (Nat.le_of_ble_eq_true rfl) ?_
  intro p e s m below meth c S hr hlocks h0 ls hl
  obtain ⟨hx, hb, hml, hown, hts⟩ := S
  have hP := h0.1
  have hK := h0.2.1
  have hS : va_S (mA 98 ad) s.heap s.heap [] := va_S.rf
  have hl : lv_has ls 6 [(0, .ref (ad 0))] := hl
  have kf9 : (Cond.fieldLink RX6 9 "BenchRuns" "vialDrops" "[I").before (#[.ref (ad 0)] : Array Value) s = true := hts _ (by decide +kernel)
  have hinX6 : ∀ w ∈ u_ws RX6 TX6 7, w ∈ wsX6_sum := by decide +kernel
  refine lv_iconst (v := 0) hx hb dX6_sum_0 (by decide) ?_
  refine lv_istore_n (lv' := [(1, .int 0), (0, .ref (ad 0))]) hx hb dX6_sum_1 rfl hl (by decide) rfl (fun ls hl => ?_)
  refine lv_aload_n hx hb dX6_sum_2 rfl (lv_at hl 1 rfl) ?_
  refine mw_get (ci := 5) (C := RX6) (T := TX6) (N := 7) (v := .ref (ad 1)) hx hb hts hinX6 hown hK hP 0 (by decide) cF_0 rfl 0 (by decide) kf9 (fun _ h9 => h9) rfl dX6_sum_3 ?_
  refine lv_astore_n (lv' := [(2, .ref (ad 1)), (1, .int 0), (0, .ref (ad 0))]) hx hb dX6_sum_6 rfl hl (by decide) rfl (fun ls hl => ?_)
  refine lv_aload_n hx hb dX6_sum_7 rfl (lv_at hl 0 rfl) ?_
  refine mw_len hx hb hK hP 1 (by decide) 0 cF_1 rfl dX6_sum_8 ?_
  refine lv_istore_n (lv' := [(3, .int (nI 8)), (2, .ref (ad 1)), (1, .int 0), (0, .ref (ad 0))]) hx hb dX6_sum_9 rfl hl (by decide) rfl (fun ls hl => ?_)
  refine lv_iconst (v := 0) hx hb dX6_sum_10 (by decide) ?_
  refine lv_istore (lv' := [(4, .int 0), (3, .int (nI 8)), (2, .ref (ad 1)), (1, .int 0), (0, .ref (ad 0))]) hx hb dX6_sum_11 hl (by decide) rfl (fun ls hl => ?_)
  have loop : ∀ (fu k : Nat) (a : Int32) (ls : Array Slot), k + fu = 8 → cSumF σ fu k a = cSumF σ 8 0 0 → lv_has ls 6 [(4, .int (nI k)), (3, .int 8), (2, .ref (ad 1)), (1, .int a), (0, .ref (ad 0))] → W p l e ({ frames := 0, cells := 0, slots := 0, locals := 0 }) s m ([.ref (ad 0)] : List Value).toArray below meth c s.heap [] 0 0 (MQ below (gQ 98 ad (cF ad cy) D (some (.int (cSumF σ 8 0 0))) σ) ([.ref (ad 0)] : List Value).toArray s 0 0 (mA 98 ad)) (F0 m 13 ls []) := by
    intro fu
    induction fu with
    | zero =>
      intro k a ls hk hf hl
      have hk8 : k = 8 := by omega
      subst hk8
      refine lv_iload hx hb dX6_sum_13 (lv_at hl 0 rfl) ?_
      refine lv_iload_n hx hb dX6_sum_15 rfl (lv_at hl 1 rfl) ?_
      refine lv_icmp_ge (tgt := 42) hx hb dX6_sum_16 (by decide) (fun _ => ?_) (fun c9 => absurd (show (8 : Int32) ≤ nI 8 by decide) c9)
      refine lv_iload_n hx hb dX6_sum_42 rfl (lv_at hl 3 rfl) ?_
      exact g_riret hx hb hr hlocks hP hS dX6_sum_43 hf.symm
    | succ fu ih =>
      intro k a ls hk hf hl
      refine lv_iload hx hb dX6_sum_13 (lv_at hl 0 rfl) ?_
      refine lv_iload_n hx hb dX6_sum_15 rfl (lv_at hl 1 rfl) ?_
      refine lv_icmp_ge (tgt := 42) hx hb dX6_sum_16 (by decide) (fun c9 => absurd c9 (nI_ge (b := 8) (by omega) (by decide))) (fun _ => ?_)
      refine lv_aload_n hx hb dX6_sum_19 rfl (lv_at hl 2 rfl) ?_
      refine lv_iload hx hb dX6_sum_20 (lv_at hl 0 rfl) ?_
      refine mw_ild hx hb hK hP 1 (by decide) 0 cF_1 rfl k (by omega) (by decide) rfl dX6_sum_22 ?_
      refine lv_istore (lv' := [(5, .int (σ 1 k)), (4, .int (nI k)), (3, .int 8), (2, .ref (ad 1)), (1, .int a), (0, .ref (ad 0))]) hx hb dX6_sum_23 hl (by decide) rfl (fun ls hl => ?_)
      refine lv_iload hx hb dX6_sum_25 (lv_at hl 0 rfl) ?_
      refine lv_iconst (v := (-1)) hx hb dX6_sum_27 (by decide) ?_
      refine lv_icmp_eq (tgt := 36) hx hb dX6_sum_28 (by decide) (fun c_1 => ?_) (fun c_1 => ?_)
      · skip
        refine lv_iinc (v := nI (k + 1)) (lv' := [(4, .int (nI (k + 1))), (5, .int (σ 1 k)), (3, .int 8), (2, .ref (ad 1)), (1, .int a), (0, .ref (ad 0))]) hx hb dX6_sum_36 hl (k := 1) rfl (nI_1 k) (by decide) rfl (fun ls hl => ?_)
        refine lv_goto (tgt := 13) hx hb dX6_sum_39 (by decide) ?_
        exact ih (k + 1) a ls (by omega) (Eq.trans (by rw [cSumF_succ, if_pos c_1]) hf) (lv_sub hl [0, 2, 3, 4, 5] rfl)
      · skip
        refine lv_iload_n hx hb dX6_sum_31 rfl (lv_at hl 4 rfl) ?_
        refine lv_iload hx hb dX6_sum_32 (lv_at hl 0 rfl) ?_
        refine lv_iadd hx hb dX6_sum_34 ?_
        refine lv_istore_n (lv' := [(1, .int (a + (σ 1 k))), (5, .int (σ 1 k)), (4, .int (nI k)), (3, .int 8), (2, .ref (ad 1)), (0, .ref (ad 0))]) hx hb dX6_sum_35 rfl hl (by decide) rfl (fun ls hl => ?_)
        refine lv_iinc (v := nI (k + 1)) (lv' := [(4, .int (nI (k + 1))), (1, .int (a + (σ 1 k))), (5, .int (σ 1 k)), (3, .int 8), (2, .ref (ad 1)), (0, .ref (ad 0))]) hx hb dX6_sum_36 hl (k := 2) rfl (nI_1 k) (by decide) rfl (fun ls hl => ?_)
        refine lv_goto (tgt := 13) hx hb dX6_sum_39 (by decide) ?_
        exact ih (k + 1) (a + (σ 1 k)) ls (by omega) (Eq.trans (by rw [cSumF_succ, if_neg c_1]) hf) (lv_sub hl [0, 3, 4, 1, 5] rfl)
  exact loop 8 0 0 ls (by omega) rfl (lv_sub hl [0, 1, 2, 3, 4] rfl)

theorem inR_la {fi la : Int32} (h1 : ¬ inR fi 0 3 = 0) (h2 : ¬ inR la fi 3 = 0) : vp_in la 4 := by
  obtain ⟨a1, a2⟩ := inR_T h1
  obtain ⟨b1, b2⟩ := inR_T h2
  have h0 : (0 : Int32).toInt = 0 := by decide
  have h3 : (3 : Int32).toInt = 3 := by decide
  exact vp_in_iff.mpr ⟨by omega, by omega⟩
theorem bb_lt {la : Int32} {bb : Nat} (hla : vp_in la 4) (hc : ¬ la < nI bb) (h4 : bb ≤ 4) : bb < 4 := by
  obtain ⟨j, hj, rfl⟩ := vp_in_of hla (by decide)
  have : ¬ j < bb := fun q => hc ((nI_ltI (by omega) (by omega)).mpr q)
  omega
theorem kR_logBegin (σ : Mem) : kR σ (cLogBegin σ) := by
  unfold cLogBegin
  exact (((((((((kR.rf σ).set (by omega)).set (by omega)).set (by omega)).set (by omega)).set (by omega)).set (by omega)).set (by omega)).set (by omega)).set (by omega)
theorem rOK_logBegin {σ : Mem} (hB : bxK σ) : rOK 0 (cLogBegin σ) := by
  refine ⟨⟨0, 0, ?_, ?_, by decide, by decide⟩, ⟨⟨0, by decide, ?_⟩, 0, by decide, ?_⟩, ?_⟩
  · rfl
  · rfl
  · rfl
  · rfl
  · exact hB
def cBats (fi la wr : Int32) : Nat → Mem → Nat → Int32 × Mem
  | 0, σ, _ => (0, σ)
  | fu + 1, σ, bb =>
    if la < nI bb then ((la - fi) + 1, σ)
    else if (cBatch σ bb).1 = 5 then (if wr = 0 then ((-10), (cBatch σ bb).2) else ((-10), cInStead (cBatch σ bb).2 (30 + (nI bb))))
    else if (cBatch σ bb).1 = 4 then (100 + ((cBatch σ bb).2 0 6), (cBatch σ bb).2)
    else if (cBatch σ bb).1 = 6 then ((-11), (cBatch σ bb).2)
    else cBats fi la wr fu (cBatch σ bb).2 (bb + 1)
theorem cBats_succ (fi la wr : Int32) (fu : Nat) (σ : Mem) (bb : Nat) : cBats fi la wr (fu + 1) σ bb = if la < nI bb then ((la - fi) + 1, σ)
    else if (cBatch σ bb).1 = 5 then (if wr = 0 then ((-10), (cBatch σ bb).2) else ((-10), cInStead (cBatch σ bb).2 (30 + (nI bb))))
    else if (cBatch σ bb).1 = 4 then (100 + ((cBatch σ bb).2 0 6), (cBatch σ bb).2)
    else if (cBatch σ bb).1 = 6 then ((-11), (cBatch σ bb).2)
    else cBats fi la wr fu (cBatch σ bb).2 (bb + 1) := rfl
def cpRun (σ : Mem) (fi la wr : Int32) : Int32 × Mem := if inR fi 0 3 = 0 then ((-1), σ) else if inR la fi 3 = 0 then ((-1), σ) else cBats fi la wr 5 (cLogBegin σ) (ci fi)
set_option maxHeartbeats 4000000 in
set_option maxRecDepth 100000 in
theorem c_run (l : Launch) (D : va_G) (cy : Nat → ClassId) (ad wy : Nat → Nat) (mt : Nat) (hj : mJ 98 ad) (σ : Mem) (fi la wr : Int32) (hR : cR σ) (hB : bxK σ) : Met l yX6_run wsX6_run ({ frames := 6, cells := 0, slots := 0, locals := 140 }) (va_Pc [.ref (ad 0), .int fi, .int la, .int wr] (gPre 98 ad (cF ad cy) D cy wy mt σ)) (gQ 98 ad (cF ad cy) D (some (.int (cpRun σ fi la wr).1)) (cpRun σ fi la wr).2) 0 0 (mA 98 ad) := by
  refine g_met (cc := cX6_run) (maxL := 6) (ret := (some .int)) (by decide) rfl (Nat.le_of_ble_eq_true rfl) ?_
  intro p e s m below meth c S hr hlocks h0 ls hl
  obtain ⟨hx, hb, hml, hown, hts⟩ := S
  have hP := h0.1
  have hK := h0.2.1
  have hS : va_S (mA 98 ad) s.heap s.heap [] := va_S.rf
  have hl : lv_has ls 6 [(0, .ref (ad 0)), (1, .int fi), (2, .int la), (3, .int wr)] := hl
  have kf38 : (Cond.fieldLink RX6 38 "BenchRuns" "log" "LBenchRuns$Log;").before (#[.ref (ad 0), .int fi, .int la, .int wr] : Array Value) s = true := hts _ (by decide +kernel)
  have hinX6 : ∀ w ∈ u_ws RX6 TX6 7, w ∈ wsX6_run := by decide +kernel
  have kf15 : (Cond.fieldLink RX6 15 "BenchRuns" "batches" "[LBenchRuns$Batch;").before (#[.ref (ad 0), .int fi, .int la, .int wr] : Array Value) s = true := hts _ (by decide +kernel)
  have kf104 : (Cond.fieldLink RX6 104 "BenchRuns$Way" "FAILURE" "LBenchRuns$Way;").before (#[.ref (ad 0), .int fi, .int la, .int wr] : Array Value) s = true := hts _ (by decide +kernel)
  have kf113 : (Cond.fieldLink RX6 113 "BenchRuns$Way" "STOP" "LBenchRuns$Way;").before (#[.ref (ad 0), .int fi, .int la, .int wr] : Array Value) s = true := hts _ (by decide +kernel)
  have kf116 : (Cond.fieldLink RX6 116 "BenchRuns$Way" "TIRED" "LBenchRuns$Way;").before (#[.ref (ad 0), .int fi, .int la, .int wr] : Array Value) s = true := hts _ (by decide +kernel)
  have kf42 : (Cond.fieldLink RX6 42 "BenchRuns" "stoppedBy" "I").before (#[.ref (ad 0), .int fi, .int la, .int wr] : Array Value) s = true := hts _ (by decide +kernel)
  refine lv_iload_n hx hb dX6_run_0 rfl (lv_at hl 1 rfl) ?_
  refine lv_iconst (v := 0) hx hb dX6_run_1 (by decide) ?_
  refine lv_iconst (v := 3) hx hb dX6_run_2 (by decide) ?_
  refine g_callS (As := [.int fi, .int 0, .int 3]) (rest := []) ⟨hx, hb, hml, hown, hts⟩ (c_within l fi 0 3) (va_cwS 3 hts gX6_run_X6_within rfl rfl rfl (by decide +kernel) ⟨by decide, by decide⟩) rfl rfl hl.1 (Nat.le_of_ble_eq_true rfl) dX6_run_3 ⟨Nat.zero_le _, Nat.zero_le _⟩ ?_
  refine lv_if_eq (tgt := 18) hx hb dX6_run_6 (by decide) (fun c_1 => ?_) (fun c_1 => ?_)
  · skip
    refine lv_iconst (v := (-1)) hx hb dX6_run_18 (by decide) ?_
    exact g_iret hx hb hr hlocks hP hS dX6_run_19 (by unfold cpRun; rw [if_pos c_1])
  · skip
    have ix_fi : vp_in fi 4 := (inR_in (by decide) c_1)
    refine lv_iload_n hx hb dX6_run_9 rfl (lv_at hl 2 rfl) ?_
    refine lv_iload_n hx hb dX6_run_10 rfl (lv_at hl 1 rfl) ?_
    refine lv_iconst (v := 3) hx hb dX6_run_11 (by decide) ?_
    refine g_callS (As := [.int la, .int fi, .int 3]) (rest := []) ⟨hx, hb, hml, hown, hts⟩ (c_within l la fi 3) (va_cwS 3 hts gX6_run_X6_within rfl rfl rfl (by decide +kernel) ⟨by decide, by decide⟩) rfl rfl hl.1 (Nat.le_of_ble_eq_true rfl) dX6_run_12 ⟨Nat.zero_le _, Nat.zero_le _⟩ ?_
    refine lv_if_ne (tgt := 20) hx hb dX6_run_15 (by decide) (fun c_2 => ?_) (fun c_2 => ?_)
    · skip
      refine lv_aload_n hx hb dX6_run_20 rfl (lv_at hl 0 rfl) ?_
      refine mw_get (ci := 5) (C := RX6) (T := TX6) (N := 7) (v := .ref (ad 7)) hx hb hts hinX6 hown hK hP 0 (by decide) cF_0 rfl 5 (by decide) kf38 (fun _ h9 => h9) rfl dX6_run_21 ?_
      refine g_callV (As := []) (rest := []) (N := 7) (T := TX1) (ci := 1) ⟨hx, hb, hml, hown, hts⟩ 7 (c_logBegin l D cy ad wy mt hj σ) (cwV 0 hts gX6_run_X1_beginAnew rfl rfl rfl (by decide +kernel) ⟨by decide, by decide⟩) h0 hP hS (by decide) cF_7 rfl rfl rfl hl.1 (Nat.le_of_ble_eq_true rfl) dX6_run_24 ⟨Nat.zero_le _, Nat.zero_le _⟩ (fun H locs hP hS => ?_)
      refine lv_iload_n hx hb dX6_run_27 rfl (lv_at hl 1 rfl) ?_
      refine lv_istore (lv' := [(4, .int fi), (0, .ref (ad 0)), (1, .int fi), (2, .int la), (3, .int wr)]) hx hb dX6_run_28 hl (by decide) rfl (fun ls hl => ?_)
      have hla : vp_in la 4 := inR_la c_1 c_2
      have loop : ∀ (fu bb : Nat) (τ : Mem) (H : Heap) (locs : List Loc) (ls : Array Slot), 5 ≤ bb + fu → bb ≤ 4 → cR τ → rOK (14 * bb) τ → cBats fi la wr fu τ bb = cBats fi la wr 5 (cLogBegin σ) (ci fi) → va_P D vwCl (mW 98 ad (cF ad cy) τ) H → va_S (mA 98 ad) s.heap H locs → lv_has ls 6 [(4, .int (nI bb)), (0, .ref (ad 0)), (1, .int fi), (2, .int la), (3, .int wr)] → W p l e ({ frames := 6, cells := 0, slots := 0, locals := 140 }) s m ([.ref (ad 0), .int fi, .int la, .int wr] : List Value).toArray below meth c H locs 0 0 (MQ below (gQ 98 ad (cF ad cy) D (some (.int (cpRun σ fi la wr).1)) (cpRun σ fi la wr).2) ([.ref (ad 0), .int fi, .int la, .int wr] : List Value).toArray s 0 0 (mA 98 ad)) (F0 m 30 ls []) := by
        intro fu
        induction fu with
        | zero =>
          intro bb τ H locs ls h5 h4
          exact absurd h5 (by omega)
        | succ fu ih =>
          intro bb τ H locs ls h5 h4 hR hO hf hP hS hl
          refine lv_iload hx hb dX6_run_30 (lv_at hl 0 rfl) ?_
          refine lv_iload_n hx hb dX6_run_32 rfl (lv_at hl 3 rfl) ?_
          refine lv_icmp_gt (tgt := 109) hx hb dX6_run_33 (by decide) (fun c_3 => ?_) (fun c_3 => ?_)
          · skip
            refine lv_iload_n hx hb dX6_run_109 rfl (lv_at hl 3 rfl) ?_
            refine lv_iload_n hx hb dX6_run_110 rfl (lv_at hl 2 rfl) ?_
            refine lv_isub hx hb dX6_run_111 ?_
            refine lv_iconst (v := 1) hx hb dX6_run_112 (by decide) ?_
            refine lv_iadd hx hb dX6_run_113 ?_
            exact g_iret hx hb hr hlocks hP hS dX6_run_114 (by unfold cpRun; rw [if_neg c_1, if_neg c_2]; exact hf.symm.trans (by rw [cBats_succ, if_pos c_3]))
          · skip
            have hb4 : bb < 4 := bb_lt hla c_3 h4
            have hS2 := sOK_batch (b := bb) hb4 hR
            refine lv_aload_n hx hb dX6_run_36 rfl (lv_at hl 1 rfl) ?_
            refine lv_aload_n hx hb dX6_run_37 rfl (lv_at hl 1 rfl) ?_
            refine mw_get (ci := 5) (C := RX6) (T := TX6) (N := 7) (v := .ref (ad 2)) hx hb hts hinX6 hown hK hP 0 (by decide) cF_0 rfl 1 (by decide) kf15 (fun _ h9 => h9) rfl dX6_run_38 ?_
            refine lv_iload hx hb dX6_run_41 (lv_at hl 0 rfl) ?_
            have ha_4 : bb < 4 := (by omega)
            refine mw_ald (f := fun q => ad (12 + q)) hx hb hK hP 2 (by decide) 2 cF_2 rfl bb ha_4 (by decide) rfl dX6_run_43 ?_
            refine g_callV (As := [.ref (ad (12 + bb))]) (rest := []) (N := 7) (T := TX6) (ci := 5) ⟨hx, hb, hml, hown, hts⟩ 0 (c_doBatch l D cy ad wy mt hj τ bb ha_4 (14 * bb) (by omega) hR hO) (cwV 1 hts gX6_run_X6_doBatch rfl rfl rfl (by decide +kernel) ⟨by decide, by decide⟩) h0 hP hS (by decide) cF_0 rfl rfl rfl hl.1 (Nat.le_of_ble_eq_true rfl) dX6_run_44 ⟨Nat.zero_le _, Nat.zero_le _⟩ (fun H locs hP hS => ?_)
            refine lv_astore (lv' := [(5, .ref (wy ((cBatch τ bb).1))), (4, .int (nI bb)), (0, .ref (ad 0)), (1, .int fi), (2, .int la), (3, .int wr)]) hx hb dX6_run_47 hl (by decide) rfl (fun ls hl => ?_)
            refine lv_aload hx hb dX6_run_49 (lv_at hl 0 rfl) ?_
            refine g_way hx hb h0 hS hown 5 (by decide) rfl kf104 dX6_run_51 ?_
            refine g_wne (a := (cBatch τ bb).1) (b := 5) (tgt := 76) hx hb h0 hS2.1 (by decide) dX6_run_54 (by decide) (fun c_5 => ?_) (fun c_5 => ?_)
            · skip
              refine lv_aload hx hb dX6_run_76 (lv_at hl 0 rfl) ?_
              refine g_way hx hb h0 hS hown 4 (by decide) rfl kf113 dX6_run_78 ?_
              refine g_wne (a := (cBatch τ bb).1) (b := 4) (tgt := 92) hx hb h0 hS2.1 (by decide) dX6_run_81 (by decide) (fun c_6 => ?_) (fun c_6 => ?_)
              · skip
                refine lv_aload hx hb dX6_run_92 (lv_at hl 0 rfl) ?_
                refine g_way hx hb h0 hS hown 6 (by decide) rfl kf116 dX6_run_94 ?_
                refine g_wne (a := (cBatch τ bb).1) (b := 6) (tgt := 103) hx hb h0 hS2.1 (by decide) dX6_run_97 (by decide) (fun c_7 => ?_) (fun c_7 => ?_)
                · skip
                  refine lv_iinc (v := nI (bb + 1)) (lv' := [(4, .int (nI (bb + 1))), (5, .ref (wy ((cBatch τ bb).1))), (0, .ref (ad 0)), (1, .int fi), (2, .int la), (3, .int wr)]) hx hb dX6_run_103 hl (k := 1) rfl (nI_1 bb) (by decide) rfl (fun ls hl => ?_)
                  refine lv_goto (tgt := 30) hx hb dX6_run_106 (by decide) ?_
                  exact ih (bb + 1) ((cBatch τ bb).2) H locs ls (by omega) (by omega) (hS2.2.1.cR hR) ((hS2.2.2 _ (by omega) hO).le (by omega)) (Eq.trans (by rw [cBats_succ, if_neg c_3, if_neg c_5, if_neg c_6, if_neg c_7]) hf) hP hS (lv_sub hl [0, 2, 3, 4, 5] rfl)
                · skip
                  refine lv_bipush (v := (-11)) hx hb dX6_run_100 (by decide) ?_
                  exact g_iret hx hb hr hlocks hP hS dX6_run_102 (by unfold cpRun; rw [if_neg c_1, if_neg c_2]; exact hf.symm.trans (by rw [cBats_succ, if_neg c_3, if_neg c_5, if_neg c_6, if_pos c_7]))
              · skip
                refine lv_bipush (v := 100) hx hb dX6_run_84 (by decide) ?_
                refine lv_aload_n hx hb dX6_run_86 rfl (lv_at hl 2 rfl) ?_
                refine mw_get (ci := 5) (C := RX6) (T := TX6) (N := 7) (v := .int (((cBatch τ bb).2) 0 6)) hx hb hts hinX6 hown hK hP 0 (by decide) cF_0 rfl 6 (by decide) kf42 (fun _ h9 => h9) rfl dX6_run_87 ?_
                refine lv_iadd hx hb dX6_run_90 ?_
                exact g_iret hx hb hr hlocks hP hS dX6_run_91 (by unfold cpRun; rw [if_neg c_1, if_neg c_2]; exact hf.symm.trans (by rw [cBats_succ, if_neg c_3, if_neg c_5, if_pos c_6]))
            · skip
              refine lv_iload_n hx hb dX6_run_57 rfl (lv_at hl 5 rfl) ?_
              refine lv_if_eq (tgt := 73) hx hb dX6_run_58 (by decide) (fun c_8 => ?_) (fun c_8 => ?_)
              · skip
                refine lv_bipush (v := (-10)) hx hb dX6_run_73 (by decide) ?_
                exact g_iret hx hb hr hlocks hP hS dX6_run_75 (by unfold cpRun; rw [if_neg c_1, if_neg c_2]; exact hf.symm.trans (by rw [cBats_succ, if_neg c_3, if_pos c_5, if_pos c_8]))
              · skip
                refine lv_aload_n hx hb dX6_run_61 rfl (lv_at hl 2 rfl) ?_
                refine mw_get (ci := 5) (C := RX6) (T := TX6) (N := 7) (v := .ref (ad 7)) hx hb hts hinX6 hown hK hP 0 (by decide) cF_0 rfl 5 (by decide) kf38 (fun _ h9 => h9) rfl dX6_run_62 ?_
                refine lv_bipush (v := 30) hx hb dX6_run_65 (by decide) ?_
                refine lv_iload hx hb dX6_run_67 (lv_at hl 1 rfl) ?_
                refine lv_iadd hx hb dX6_run_69 ?_
                refine g_callV (As := [.int (30 + (nI bb))]) (rest := []) (N := 7) (T := TX1) (ci := 1) ⟨hx, hb, hml, hown, hts⟩ 7 (c_failInStead l D cy ad wy mt hj ((cBatch τ bb).2) (30 + (nI bb)) (rOK.cl (hS2.2.2 _ (by omega) hO))) (cwV 1 hts gX6_run_X1_failInStead rfl rfl rfl (by decide +kernel) ⟨by decide, by decide⟩) h0 hP hS (by decide) cF_7 rfl rfl rfl hl.1 (Nat.le_of_ble_eq_true rfl) dX6_run_70 ⟨Nat.zero_le _, Nat.zero_le _⟩ (fun H locs hP hS => ?_)
                refine lv_bipush (v := (-10)) hx hb dX6_run_73 (by decide) ?_
                exact g_iret hx hb hr hlocks hP hS dX6_run_75 (by unfold cpRun; rw [if_neg c_1, if_neg c_2]; exact hf.symm.trans (by rw [cBats_succ, if_neg c_3, if_pos c_5, if_neg c_8]))
      exact loop 5 (ci fi) (cLogBegin σ) _ _ ls (by omega) (Nat.le_of_lt (ci_lt ix_fi)) ((kR_logBegin σ).cR hR) ((rOK_logBegin hB).le (by omega)) rfl hP hS (by rw [← ci_eq ix_fi (by decide)]; exact hl)
    · skip
      refine lv_iconst (v := (-1)) hx hb dX6_run_18 (by decide) ?_
      exact g_iret hx hb hr hlocks hP hS dX6_run_19 (by unfold cpRun; rw [if_neg c_1, if_pos c_2])
end
section
def mIn (v lo hi : Int32) : Int32 :=
  if v < lo then 0
  else if hi < v then 0
  else 1
set_option maxHeartbeats 4000000 in
set_option maxRecDepth 100000 in
theorem m_in (l : Launch) (v lo hi : Int32) : Met l yX7_in wsX7_in ({ frames := 0, cells := 0, slots := 0, locals := 0 }) (fun av _ => av = ([.int v, .int lo, .int hi] : List Value).toArray) (QcRead (mIn v lo hi)) 0 0 (fun _ => False) := by
  refine g_metS (cc := cX7_in) (maxL := 3) (ret := (some .boolean)) (by decide) rfl (Nat.le_of_ble_eq_true rfl) ?_
  intro p e s m below meth c S hr hlocks ls hl
  obtain ⟨hx, hb, hml, hown, hts⟩ := S
  have hl : lv_has ls 3 [(0, .int v), (1, .int lo), (2, .int hi)] := hl
  refine lv_iload_n hx hb dX7_in_0 rfl (lv_at hl 0 rfl) ?_
  refine lv_iload_n hx hb dX7_in_1 rfl (lv_at hl 1 rfl) ?_
  refine lv_icmp_lt (tgt := 14) hx hb dX7_in_2 (by decide) (fun c_1 => ?_) (fun c_1 => ?_)
  · skip
    refine lv_iconst (v := 0) hx hb dX7_in_14 (by decide) ?_
    exact g_szret hx hb hr hlocks dX7_in_15 (by decide) (by unfold mIn; rw [if_pos c_1] <;> rfl)
  · skip
    refine lv_iload_n hx hb dX7_in_5 rfl (lv_at hl 0 rfl) ?_
    refine lv_iload_n hx hb dX7_in_6 rfl (lv_at hl 2 rfl) ?_
    refine lv_icmp_gt (tgt := 14) hx hb dX7_in_7 (by decide) (fun c_2 => ?_) (fun c_2 => ?_)
    · skip
      refine lv_iconst (v := 0) hx hb dX7_in_14 (by decide) ?_
      exact g_szret hx hb hr hlocks dX7_in_15 (by decide) (by unfold mIn; rw [if_neg c_1, if_pos c_2] <;> rfl)
    · skip
      refine lv_iconst (v := 1) hx hb dX7_in_10 (by decide) ?_
      refine lv_goto (tgt := 15) hx hb dX7_in_11 (by decide) ?_
      exact g_szret hx hb hr hlocks dX7_in_15 (by decide) (by unfold mIn; rw [if_neg c_1, if_neg c_2] <;> rfl)
theorem mIn_eq (v lo hi : Int32) : mIn v lo hi = inR v lo hi := rfl
theorem mIn_01 (v lo hi : Int32) : mIn v lo hi = 0 ∨ mIn v lo hi = 1 := by
  unfold mIn
  split
  · exact Or.inl rfl
  split
  · exact Or.inl rfl
  · exact Or.inr rfl
theorem mIn_nar (v lo hi : Int32) : narrow .boolean (.int (mIn v lo hi)) = .int (mIn v lo hi) := by
  rcases mIn_01 v lo hi with h | h <;> rw [h] <;> decide
theorem mIn_fit (v lo hi : Int32) : fits .boolean (.int (mIn v lo hi)) = true := by
  rcases mIn_01 v lo hi with h | h <;> rw [h] <;> decide

def mIsB (v : Int32) : Int32 :=
  mIn v 0 3
set_option maxHeartbeats 4000000 in
set_option maxRecDepth 100000 in
theorem m_isBatch (l : Launch) (v : Int32) : Met l yX7_isBatch wsX7_isBatch ({ frames := 1, cells := 0, slots := 0, locals := 22 }) (fun av _ => av = ([.int v] : List Value).toArray) (QcRead (mIsB v)) 0 0 (fun _ => False) := by
  refine g_metS (cc := cX7_isBatch) (maxL := 1) (ret := (some .boolean)) (by decide) rfl (Nat.le_of_ble_eq_true rfl) ?_
  intro p e s m below meth c S hr hlocks ls hl
  obtain ⟨hx, hb, hml, hown, hts⟩ := S
  have hl : lv_has ls 1 [(0, .int v)] := hl
  refine lv_iload_n hx hb dX7_isBatch_0 rfl (lv_at hl 0 rfl) ?_
  refine lv_iconst (v := 0) hx hb dX7_isBatch_1 (by decide) ?_
  refine lv_iconst (v := 3) hx hb dX7_isBatch_2 (by decide) ?_
  refine g_callS (As := [.int v, .int 0, .int 3]) (rest := []) ⟨hx, hb, hml, hown, hts⟩ (m_in l v 0 3) (va_cwS 3 hts gX7_isBatch_X7_in rfl rfl rfl (by decide +kernel) ⟨by decide, by decide⟩) rfl rfl hl.1 (Nat.le_of_ble_eq_true rfl) dX7_isBatch_3 ⟨Nat.zero_le _, Nat.zero_le _⟩ ?_
  exact g_szret hx hb hr hlocks dX7_isBatch_6 (mIn_nar _ _ _) rfl

def mMost (kd : Nat) : Int32 :=
  if kd = 0 then 200
  else if kd = 1 then 200
  else if kd = 2 then 200
  else if kd = 3 then 9
  else if kd = 4 then 200
  else if kd = 5 then 200
  else if kd = 6 then 200
  else if kd = 7 then 9
  else if kd = 8 then 200
  else if kd = 9 then 200
  else if kd = 10 then 9
  else if kd = 11 then 9
  else if kd = 12 then 40
  else if kd = 13 then 60
  else if kd = 14 then 35
  else if kd = 15 then 99
  else if kd = 16 then 2
  else 3
set_option maxHeartbeats 4000000 in
set_option maxRecDepth 100000 in
theorem m_most (l : Launch) (kd : Nat) (hkd : kd < 18) : Met l yX7_most wsX7_most ({ frames := 0, cells := 0, slots := 0, locals := 0 }) (fun av _ => av = ([.int (nI kd)] : List Value).toArray) (QcRead (mMost kd)) 0 0 (fun _ => False) := by
  refine g_metS (cc := cX7_most) (maxL := 1) (ret := (some .int)) (by decide) rfl (Nat.le_of_ble_eq_true rfl) ?_
  intro p e s m below meth c S hr hlocks ls hl
  obtain ⟨hx, hb, hml, hown, hts⟩ := S
  have hl : lv_has ls 1 [(0, .int (nI kd))] := hl
  refine lv_iload_n hx hb dX7_most_0 rfl (lv_at hl 0 rfl) ?_
  rcases (show kd = 0 ∨ kd = 1 ∨ kd = 2 ∨ kd = 3 ∨ kd = 4 ∨ kd = 5 ∨ kd = 6 ∨ kd = 7 ∨ kd = 8 ∨ kd = 9 ∨ kd = 10 ∨ kd = 11 ∨ kd = 12 ∨ kd = 13 ∨ kd = 14 ∨ kd = 15 ∨ kd = 16 ∨ kd = 17 by omega) with rfl | rfl | rfl | rfl | rfl | rfl | rfl | rfl | rfl | rfl | rfl | rfl | rfl | rfl | rfl | rfl | rfl | rfl
  · skip
    refine lv_tableOut (tgt := 95) hx hb dX7_most_1 (by decide) (by decide) ?_
    refine lv_sipush (v := 200) hx hb dX7_most_95 (by decide) ?_
    exact g_sret hx hb hr hlocks dX7_most_98 (by unfold mMost; rw [if_pos (rfl : (0 : Nat) = 0)] <;> rfl)
  · skip
    refine lv_tableOut (tgt := 95) hx hb dX7_most_1 (by decide) (by decide) ?_
    refine lv_sipush (v := 200) hx hb dX7_most_95 (by decide) ?_
    exact g_sret hx hb hr hlocks dX7_most_98 (by unfold mMost; rw [if_neg (show ¬ (1 : Nat) = 0 by decide), if_pos (rfl : (1 : Nat) = 1)] <;> rfl)
  · skip
    refine lv_tableOut (tgt := 95) hx hb dX7_most_1 (by decide) (by decide) ?_
    refine lv_sipush (v := 200) hx hb dX7_most_95 (by decide) ?_
    exact g_sret hx hb hr hlocks dX7_most_98 (by unfold mMost; rw [if_neg (show ¬ (2 : Nat) = 0 by decide), if_neg (show ¬ (2 : Nat) = 1 by decide), if_pos (rfl : (2 : Nat) = 2)] <;> rfl)
  · skip
    refine lv_tableIn (off := 75) (tgt := 76) hx hb dX7_most_1 (by decide) (by decide) (by decide) (by decide) ?_
    refine lv_bipush (v := 9) hx hb dX7_most_76 (by decide) ?_
    exact g_sret hx hb hr hlocks dX7_most_78 (by unfold mMost; rw [if_neg (show ¬ (3 : Nat) = 0 by decide), if_neg (show ¬ (3 : Nat) = 1 by decide), if_neg (show ¬ (3 : Nat) = 2 by decide), if_pos (rfl : (3 : Nat) = 3)] <;> rfl)
  · skip
    refine lv_tableIn (off := 94) (tgt := 95) hx hb dX7_most_1 (by decide) (by decide) (by decide) (by decide) ?_
    refine lv_sipush (v := 200) hx hb dX7_most_95 (by decide) ?_
    exact g_sret hx hb hr hlocks dX7_most_98 (by unfold mMost; rw [if_neg (show ¬ (4 : Nat) = 0 by decide), if_neg (show ¬ (4 : Nat) = 1 by decide), if_neg (show ¬ (4 : Nat) = 2 by decide), if_neg (show ¬ (4 : Nat) = 3 by decide), if_pos (rfl : (4 : Nat) = 4)] <;> rfl)
  · skip
    refine lv_tableIn (off := 94) (tgt := 95) hx hb dX7_most_1 (by decide) (by decide) (by decide) (by decide) ?_
    refine lv_sipush (v := 200) hx hb dX7_most_95 (by decide) ?_
    exact g_sret hx hb hr hlocks dX7_most_98 (by unfold mMost; rw [if_neg (show ¬ (5 : Nat) = 0 by decide), if_neg (show ¬ (5 : Nat) = 1 by decide), if_neg (show ¬ (5 : Nat) = 2 by decide), if_neg (show ¬ (5 : Nat) = 3 by decide), if_neg (show ¬ (5 : Nat) = 4 by decide), if_pos (rfl : (5 : Nat) = 5)] <;> rfl)
  · skip
    refine lv_tableIn (off := 94) (tgt := 95) hx hb dX7_most_1 (by decide) (by decide) (by decide) (by decide) ?_
    refine lv_sipush (v := 200) hx hb dX7_most_95 (by decide) ?_
    exact g_sret hx hb hr hlocks dX7_most_98 (by unfold mMost; rw [if_neg (show ¬ (6 : Nat) = 0 by decide), if_neg (show ¬ (6 : Nat) = 1 by decide), if_neg (show ¬ (6 : Nat) = 2 by decide), if_neg (show ¬ (6 : Nat) = 3 by decide), if_neg (show ¬ (6 : Nat) = 4 by decide), if_neg (show ¬ (6 : Nat) = 5 by decide), if_pos (rfl : (6 : Nat) = 6)] <;> rfl)
  · skip
    refine lv_tableIn (off := 75) (tgt := 76) hx hb dX7_most_1 (by decide) (by decide) (by decide) (by decide) ?_
    refine lv_bipush (v := 9) hx hb dX7_most_76 (by decide) ?_
    exact g_sret hx hb hr hlocks dX7_most_78 (by unfold mMost; rw [if_neg (show ¬ (7 : Nat) = 0 by decide), if_neg (show ¬ (7 : Nat) = 1 by decide), if_neg (show ¬ (7 : Nat) = 2 by decide), if_neg (show ¬ (7 : Nat) = 3 by decide), if_neg (show ¬ (7 : Nat) = 4 by decide), if_neg (show ¬ (7 : Nat) = 5 by decide), if_neg (show ¬ (7 : Nat) = 6 by decide), if_pos (rfl : (7 : Nat) = 7)] <;> rfl)
  · skip
    refine lv_tableIn (off := 94) (tgt := 95) hx hb dX7_most_1 (by decide) (by decide) (by decide) (by decide) ?_
    refine lv_sipush (v := 200) hx hb dX7_most_95 (by decide) ?_
    exact g_sret hx hb hr hlocks dX7_most_98 (by unfold mMost; rw [if_neg (show ¬ (8 : Nat) = 0 by decide), if_neg (show ¬ (8 : Nat) = 1 by decide), if_neg (show ¬ (8 : Nat) = 2 by decide), if_neg (show ¬ (8 : Nat) = 3 by decide), if_neg (show ¬ (8 : Nat) = 4 by decide), if_neg (show ¬ (8 : Nat) = 5 by decide), if_neg (show ¬ (8 : Nat) = 6 by decide), if_neg (show ¬ (8 : Nat) = 7 by decide), if_pos (rfl : (8 : Nat) = 8)] <;> rfl)
  · skip
    refine lv_tableIn (off := 94) (tgt := 95) hx hb dX7_most_1 (by decide) (by decide) (by decide) (by decide) ?_
    refine lv_sipush (v := 200) hx hb dX7_most_95 (by decide) ?_
    exact g_sret hx hb hr hlocks dX7_most_98 (by unfold mMost; rw [if_neg (show ¬ (9 : Nat) = 0 by decide), if_neg (show ¬ (9 : Nat) = 1 by decide), if_neg (show ¬ (9 : Nat) = 2 by decide), if_neg (show ¬ (9 : Nat) = 3 by decide), if_neg (show ¬ (9 : Nat) = 4 by decide), if_neg (show ¬ (9 : Nat) = 5 by decide), if_neg (show ¬ (9 : Nat) = 6 by decide), if_neg (show ¬ (9 : Nat) = 7 by decide), if_neg (show ¬ (9 : Nat) = 8 by decide), if_pos (rfl : (9 : Nat) = 9)] <;> rfl)
  · skip
    refine lv_tableIn (off := 75) (tgt := 76) hx hb dX7_most_1 (by decide) (by decide) (by decide) (by decide) ?_
    refine lv_bipush (v := 9) hx hb dX7_most_76 (by decide) ?_
    exact g_sret hx hb hr hlocks dX7_most_78 (by unfold mMost; rw [if_neg (show ¬ (10 : Nat) = 0 by decide), if_neg (show ¬ (10 : Nat) = 1 by decide), if_neg (show ¬ (10 : Nat) = 2 by decide), if_neg (show ¬ (10 : Nat) = 3 by decide), if_neg (show ¬ (10 : Nat) = 4 by decide), if_neg (show ¬ (10 : Nat) = 5 by decide), if_neg (show ¬ (10 : Nat) = 6 by decide), if_neg (show ¬ (10 : Nat) = 7 by decide), if_neg (show ¬ (10 : Nat) = 8 by decide), if_neg (show ¬ (10 : Nat) = 9 by decide), if_pos (rfl : (10 : Nat) = 10)] <;> rfl)
  · skip
    refine lv_tableIn (off := 75) (tgt := 76) hx hb dX7_most_1 (by decide) (by decide) (by decide) (by decide) ?_
    refine lv_bipush (v := 9) hx hb dX7_most_76 (by decide) ?_
    exact g_sret hx hb hr hlocks dX7_most_78 (by unfold mMost; rw [if_neg (show ¬ (11 : Nat) = 0 by decide), if_neg (show ¬ (11 : Nat) = 1 by decide), if_neg (show ¬ (11 : Nat) = 2 by decide), if_neg (show ¬ (11 : Nat) = 3 by decide), if_neg (show ¬ (11 : Nat) = 4 by decide), if_neg (show ¬ (11 : Nat) = 5 by decide), if_neg (show ¬ (11 : Nat) = 6 by decide), if_neg (show ¬ (11 : Nat) = 7 by decide), if_neg (show ¬ (11 : Nat) = 8 by decide), if_neg (show ¬ (11 : Nat) = 9 by decide), if_neg (show ¬ (11 : Nat) = 10 by decide), if_pos (rfl : (11 : Nat) = 11)] <;> rfl)
  · skip
    refine lv_tableIn (off := 78) (tgt := 79) hx hb dX7_most_1 (by decide) (by decide) (by decide) (by decide) ?_
    refine lv_bipush (v := 40) hx hb dX7_most_79 (by decide) ?_
    exact g_sret hx hb hr hlocks dX7_most_81 (by unfold mMost; rw [if_neg (show ¬ (12 : Nat) = 0 by decide), if_neg (show ¬ (12 : Nat) = 1 by decide), if_neg (show ¬ (12 : Nat) = 2 by decide), if_neg (show ¬ (12 : Nat) = 3 by decide), if_neg (show ¬ (12 : Nat) = 4 by decide), if_neg (show ¬ (12 : Nat) = 5 by decide), if_neg (show ¬ (12 : Nat) = 6 by decide), if_neg (show ¬ (12 : Nat) = 7 by decide), if_neg (show ¬ (12 : Nat) = 8 by decide), if_neg (show ¬ (12 : Nat) = 9 by decide), if_neg (show ¬ (12 : Nat) = 10 by decide), if_neg (show ¬ (12 : Nat) = 11 by decide), if_pos (rfl : (12 : Nat) = 12)] <;> rfl)
  · skip
    refine lv_tableIn (off := 81) (tgt := 82) hx hb dX7_most_1 (by decide) (by decide) (by decide) (by decide) ?_
    refine lv_bipush (v := 60) hx hb dX7_most_82 (by decide) ?_
    exact g_sret hx hb hr hlocks dX7_most_84 (by unfold mMost; rw [if_neg (show ¬ (13 : Nat) = 0 by decide), if_neg (show ¬ (13 : Nat) = 1 by decide), if_neg (show ¬ (13 : Nat) = 2 by decide), if_neg (show ¬ (13 : Nat) = 3 by decide), if_neg (show ¬ (13 : Nat) = 4 by decide), if_neg (show ¬ (13 : Nat) = 5 by decide), if_neg (show ¬ (13 : Nat) = 6 by decide), if_neg (show ¬ (13 : Nat) = 7 by decide), if_neg (show ¬ (13 : Nat) = 8 by decide), if_neg (show ¬ (13 : Nat) = 9 by decide), if_neg (show ¬ (13 : Nat) = 10 by decide), if_neg (show ¬ (13 : Nat) = 11 by decide), if_neg (show ¬ (13 : Nat) = 12 by decide), if_pos (rfl : (13 : Nat) = 13)] <;> rfl)
  · skip
    refine lv_tableIn (off := 84) (tgt := 85) hx hb dX7_most_1 (by decide) (by decide) (by decide) (by decide) ?_
    refine lv_bipush (v := 35) hx hb dX7_most_85 (by decide) ?_
    exact g_sret hx hb hr hlocks dX7_most_87 (by unfold mMost; rw [if_neg (show ¬ (14 : Nat) = 0 by decide), if_neg (show ¬ (14 : Nat) = 1 by decide), if_neg (show ¬ (14 : Nat) = 2 by decide), if_neg (show ¬ (14 : Nat) = 3 by decide), if_neg (show ¬ (14 : Nat) = 4 by decide), if_neg (show ¬ (14 : Nat) = 5 by decide), if_neg (show ¬ (14 : Nat) = 6 by decide), if_neg (show ¬ (14 : Nat) = 7 by decide), if_neg (show ¬ (14 : Nat) = 8 by decide), if_neg (show ¬ (14 : Nat) = 9 by decide), if_neg (show ¬ (14 : Nat) = 10 by decide), if_neg (show ¬ (14 : Nat) = 11 by decide), if_neg (show ¬ (14 : Nat) = 12 by decide), if_neg (show ¬ (14 : Nat) = 13 by decide), if_pos (rfl : (14 : Nat) = 14)] <;> rfl)
  · skip
    refine lv_tableIn (off := 87) (tgt := 88) hx hb dX7_most_1 (by decide) (by decide) (by decide) (by decide) ?_
    refine lv_bipush (v := 99) hx hb dX7_most_88 (by decide) ?_
    exact g_sret hx hb hr hlocks dX7_most_90 (by unfold mMost; rw [if_neg (show ¬ (15 : Nat) = 0 by decide), if_neg (show ¬ (15 : Nat) = 1 by decide), if_neg (show ¬ (15 : Nat) = 2 by decide), if_neg (show ¬ (15 : Nat) = 3 by decide), if_neg (show ¬ (15 : Nat) = 4 by decide), if_neg (show ¬ (15 : Nat) = 5 by decide), if_neg (show ¬ (15 : Nat) = 6 by decide), if_neg (show ¬ (15 : Nat) = 7 by decide), if_neg (show ¬ (15 : Nat) = 8 by decide), if_neg (show ¬ (15 : Nat) = 9 by decide), if_neg (show ¬ (15 : Nat) = 10 by decide), if_neg (show ¬ (15 : Nat) = 11 by decide), if_neg (show ¬ (15 : Nat) = 12 by decide), if_neg (show ¬ (15 : Nat) = 13 by decide), if_neg (show ¬ (15 : Nat) = 14 by decide), if_pos (rfl : (15 : Nat) = 15)] <;> rfl)
  · skip
    refine lv_tableIn (off := 90) (tgt := 91) hx hb dX7_most_1 (by decide) (by decide) (by decide) (by decide) ?_
    refine lv_iconst (v := 2) hx hb dX7_most_91 (by decide) ?_
    exact g_sret hx hb hr hlocks dX7_most_92 (by unfold mMost; rw [if_neg (show ¬ (16 : Nat) = 0 by decide), if_neg (show ¬ (16 : Nat) = 1 by decide), if_neg (show ¬ (16 : Nat) = 2 by decide), if_neg (show ¬ (16 : Nat) = 3 by decide), if_neg (show ¬ (16 : Nat) = 4 by decide), if_neg (show ¬ (16 : Nat) = 5 by decide), if_neg (show ¬ (16 : Nat) = 6 by decide), if_neg (show ¬ (16 : Nat) = 7 by decide), if_neg (show ¬ (16 : Nat) = 8 by decide), if_neg (show ¬ (16 : Nat) = 9 by decide), if_neg (show ¬ (16 : Nat) = 10 by decide), if_neg (show ¬ (16 : Nat) = 11 by decide), if_neg (show ¬ (16 : Nat) = 12 by decide), if_neg (show ¬ (16 : Nat) = 13 by decide), if_neg (show ¬ (16 : Nat) = 14 by decide), if_neg (show ¬ (16 : Nat) = 15 by decide), if_pos (rfl : (16 : Nat) = 16)] <;> rfl)
  · skip
    refine lv_tableIn (off := 92) (tgt := 93) hx hb dX7_most_1 (by decide) (by decide) (by decide) (by decide) ?_
    refine lv_iconst (v := 3) hx hb dX7_most_93 (by decide) ?_
    exact g_sret hx hb hr hlocks dX7_most_94 (by unfold mMost; rw [if_neg (show ¬ (17 : Nat) = 0 by decide), if_neg (show ¬ (17 : Nat) = 1 by decide), if_neg (show ¬ (17 : Nat) = 2 by decide), if_neg (show ¬ (17 : Nat) = 3 by decide), if_neg (show ¬ (17 : Nat) = 4 by decide), if_neg (show ¬ (17 : Nat) = 5 by decide), if_neg (show ¬ (17 : Nat) = 6 by decide), if_neg (show ¬ (17 : Nat) = 7 by decide), if_neg (show ¬ (17 : Nat) = 8 by decide), if_neg (show ¬ (17 : Nat) = 9 by decide), if_neg (show ¬ (17 : Nat) = 10 by decide), if_neg (show ¬ (17 : Nat) = 11 by decide), if_neg (show ¬ (17 : Nat) = 12 by decide), if_neg (show ¬ (17 : Nat) = 13 by decide), if_neg (show ¬ (17 : Nat) = 14 by decide), if_neg (show ¬ (17 : Nat) = 15 by decide), if_neg (show ¬ (17 : Nat) = 16 by decide)] <;> rfl)

def mMark (σ : Mem) (ev : Nat) : Mem :=
  if 400 ≤ σ 14 7 then mset (mset σ 14 7 ((σ 14 7) + 1)) 14 ev (((mset σ 14 7 ((σ 14 7) + 1)) 14 ev) + 1)
  else mset (mset (mset σ 15 (ci (σ 14 7)) (nI (ev + 1))) 14 7 ((σ 14 7) + 1)) 14 ev (((mset (mset σ 15 (ci (σ 14 7)) (nI (ev + 1))) 14 7 ((σ 14 7) + 1)) 14 ev) + 1)
set_option maxHeartbeats 4000000 in
set_option maxRecDepth 100000 in
theorem m_mark (l : Launch) (D : va_G) (cy : Nat → ClassId) (ad wy : Nat → Nat) (mt : Nat) (hj : mJ 18 ad) (σ : Mem) (ev : Nat) (hev : ev < 6) (hec : ¬ (400 : Int32) ≤ σ 14 7 → vp_in (σ 14 7) 400) : Met l yX7_mark wsX7_mark ({ frames := 0, cells := 0, slots := 0, locals := 0 }) (va_Pc [.ref (ad 0), .int (nI (ev + 1))] (gPre 18 ad (mF ad cy) D cy wy mt σ)) (gQ 18 ad (mF ad cy) D none (mMark σ ev)) 0 0 (mA 18 ad) := by
  refine g_met (cc := cX7_mark) (maxL := 2) (ret := none) (by decide) rfl (Nat.le_of_ble_eq_true rfl) ?_
  intro p e s m below meth c S hr hlocks h0 ls hl
  obtain ⟨hx, hb, hml, hown, hts⟩ := S
  have hP := h0.1
  have hK := h0.2.1
  have hS : va_S (mA 18 ad) s.heap s.heap [] := va_S.rf
  have hl : lv_has ls 2 [(0, .ref (ad 0)), (1, .int (nI (ev + 1)))] := hl
  have kf60 : (Cond.fieldLink RX7 60 "BenchRunsModel" "told" "[I").before (#[.ref (ad 0), .int (nI (ev + 1))] : Array Value) s = true := hts _ (by decide +kernel)
  have hinX7 : ∀ w ∈ u_ws RX7 TX7 28, w ∈ wsX7_mark := by decide +kernel
  have kf63 : (Cond.fieldLink RX7 63 "BenchRunsModel" "trace" "[I").before (#[.ref (ad 0), .int (nI (ev + 1))] : Array Value) s = true := hts _ (by decide +kernel)
  refine lv_aload_n hx hb dX7_mark_0 rfl (lv_at hl 0 rfl) ?_
  refine mw_get (ci := 6) (C := RX7) (T := TX7) (N := 28) (v := .ref (ad 14)) hx hb hts hinX7 hown hK hP 0 (by decide) mF_0 rfl 19 (by decide) kf60 (fun _ h9 => h9) rfl dX7_mark_1 ?_
  refine lv_bipush (v := 7) hx hb dX7_mark_4 (by decide) ?_
  refine mw_ild hx hb hK hP 14 (by decide) 0 mF_14 rfl 7 (by decide) (by decide) rfl dX7_mark_6 ?_
  refine lv_sipush (v := 400) hx hb dX7_mark_7 (by decide) ?_
  refine lv_icmp_ge (tgt := 26) hx hb dX7_mark_10 (by decide) (fun c_1 => ?_) (fun c_1 => ?_)
  · skip
    refine lv_aload_n hx hb dX7_mark_26 rfl (lv_at hl 0 rfl) ?_
    refine mw_get (ci := 6) (C := RX7) (T := TX7) (N := 28) (v := .ref (ad 14)) hx hb hts hinX7 hown hK hP 0 (by decide) mF_0 rfl 19 (by decide) kf60 (fun _ h9 => h9) rfl dX7_mark_27 ?_
    refine lv_bipush (v := 7) hx hb dX7_mark_30 (by decide) ?_
    refine lv_dup2_11 hx hb dX7_mark_32 rfl rfl ?_
    refine mw_ild hx hb hK hP 14 (by decide) 0 mF_14 rfl 7 (by decide) (by decide) rfl dX7_mark_33 ?_
    refine lv_iconst (v := 1) hx hb dX7_mark_34 (by decide) ?_
    refine lv_iadd hx hb dX7_mark_35 ?_
    refine mw_ist hx hb hK hj hP hS 14 (by decide) 0 mF_14 rfl 7 (by decide) (by decide) rfl dX7_mark_36 (fun H locs hP hS => ?_)
    refine lv_aload_n hx hb dX7_mark_37 rfl (lv_at hl 0 rfl) ?_
    refine mw_get (ci := 6) (C := RX7) (T := TX7) (N := 28) (v := .ref (ad 14)) hx hb hts hinX7 hown hK hP 0 (by decide) mF_0 rfl 19 (by decide) kf60 (fun _ h9 => h9) rfl dX7_mark_38 ?_
    refine lv_iload_n hx hb dX7_mark_41 rfl (lv_at hl 1 rfl) ?_
    refine lv_iconst (v := 1) hx hb dX7_mark_42 (by decide) ?_
    refine lv_isub hx hb dX7_mark_43 ?_
    refine g_top (y := nI ev) (nI_pred ev) ?_
    refine lv_dup2_11 hx hb dX7_mark_44 rfl rfl ?_
    refine mw_ild hx hb hK hP 14 (by decide) 0 mF_14 rfl ev (by omega) (by decide) rfl dX7_mark_45 ?_
    refine lv_iconst (v := 1) hx hb dX7_mark_46 (by decide) ?_
    refine lv_iadd hx hb dX7_mark_47 ?_
    refine mw_ist hx hb hK hj hP hS 14 (by decide) 0 mF_14 rfl ev (by omega) (by decide) rfl dX7_mark_48 (fun H locs hP hS => ?_)
    exact g_vret hx hb hr hlocks hP hS dX7_mark_49 (by unfold mMark; rw [if_pos c_1] <;> rfl)
  · skip
    have ix : vp_in (σ 14 7) 400 := hec c_1
    refine lv_aload_n hx hb dX7_mark_13 rfl (lv_at hl 0 rfl) ?_
    refine mw_get (ci := 6) (C := RX7) (T := TX7) (N := 28) (v := .ref (ad 15)) hx hb hts hinX7 hown hK hP 0 (by decide) mF_0 rfl 20 (by decide) kf63 (fun _ h9 => h9) rfl dX7_mark_14 ?_
    refine lv_aload_n hx hb dX7_mark_17 rfl (lv_at hl 0 rfl) ?_
    refine mw_get (ci := 6) (C := RX7) (T := TX7) (N := 28) (v := .ref (ad 14)) hx hb hts hinX7 hown hK hP 0 (by decide) mF_0 rfl 19 (by decide) kf60 (fun _ h9 => h9) rfl dX7_mark_18 ?_
    refine lv_bipush (v := 7) hx hb dX7_mark_21 (by decide) ?_
    refine mw_ild hx hb hK hP 14 (by decide) 0 mF_14 rfl 7 (by decide) (by decide) rfl dX7_mark_23 ?_
    refine lv_iload_n hx hb dX7_mark_24 rfl (lv_at hl 1 rfl) ?_
    refine mw_ist hx hb hK hj hP hS 15 (by decide) 0 mF_15 rfl (ci (σ 14 7)) (ci_lt ix) (by decide) (ci_eq ix (by decide)) dX7_mark_25 (fun H locs hP hS => ?_)
    refine lv_aload_n hx hb dX7_mark_26 rfl (lv_at hl 0 rfl) ?_
    refine mw_get (ci := 6) (C := RX7) (T := TX7) (N := 28) (v := .ref (ad 14)) hx hb hts hinX7 hown hK hP 0 (by decide) mF_0 rfl 19 (by decide) kf60 (fun _ h9 => h9) rfl dX7_mark_27 ?_
    refine lv_bipush (v := 7) hx hb dX7_mark_30 (by decide) ?_
    refine lv_dup2_11 hx hb dX7_mark_32 rfl rfl ?_
    refine mw_ild hx hb hK hP 14 (by decide) 0 mF_14 rfl 7 (by decide) (by decide) rfl dX7_mark_33 ?_
    refine lv_iconst (v := 1) hx hb dX7_mark_34 (by decide) ?_
    refine lv_iadd hx hb dX7_mark_35 ?_
    refine mw_ist hx hb hK hj hP hS 14 (by decide) 0 mF_14 rfl 7 (by decide) (by decide) rfl dX7_mark_36 (fun H locs hP hS => ?_)
    refine lv_aload_n hx hb dX7_mark_37 rfl (lv_at hl 0 rfl) ?_
    refine mw_get (ci := 6) (C := RX7) (T := TX7) (N := 28) (v := .ref (ad 14)) hx hb hts hinX7 hown hK hP 0 (by decide) mF_0 rfl 19 (by decide) kf60 (fun _ h9 => h9) rfl dX7_mark_38 ?_
    refine lv_iload_n hx hb dX7_mark_41 rfl (lv_at hl 1 rfl) ?_
    refine lv_iconst (v := 1) hx hb dX7_mark_42 (by decide) ?_
    refine lv_isub hx hb dX7_mark_43 ?_
    refine g_top (y := nI ev) (nI_pred ev) ?_
    refine lv_dup2_11 hx hb dX7_mark_44 rfl rfl ?_
    refine mw_ild hx hb hK hP 14 (by decide) 0 mF_14 rfl ev (by omega) (by decide) rfl dX7_mark_45 ?_
    refine lv_iconst (v := 1) hx hb dX7_mark_46 (by decide) ?_
    refine lv_iadd hx hb dX7_mark_47 ?_
    refine mw_ist hx hb hK hj hP hS 14 (by decide) 0 mF_14 rfl ev (by omega) (by decide) rfl dX7_mark_48 (fun H locs hP hS => ?_)
    exact g_vret hx hb hr hlocks hP hS dX7_mark_49 (by unfold mMark; rw [if_neg c_1] <;> rfl)

def mFail (σ : Mem) (n : Int32) : Int32 × Mem :=
  (5, mset (mset σ 0 24 n) 0 25 (mIn n 3 8))
set_option maxHeartbeats 4000000 in
set_option maxRecDepth 100000 in
theorem m_fails (l : Launch) (D : va_G) (cy : Nat → ClassId) (ad wy : Nat → Nat) (mt : Nat) (hj : mJ 18 ad) (σ : Mem) (n : Int32)  : Met l yX7_fails wsX7_fails ({ frames := 1, cells := 0, slots := 0, locals := 22 }) (va_Pc [.ref (ad 0), .int n] (gPre 18 ad (mF ad cy) D cy wy mt σ)) (gQ 18 ad (mF ad cy) D (some (.int (mFail σ n).1)) (mFail σ n).2) 0 0 (mA 18 ad) := by
  refine g_met (cc := cX7_fails) (maxL := 2) (ret := (some .int)) (by decide) rfl (Nat.le_of_ble_eq_true rfl) ?_
  intro p e s m below meth c S hr hlocks h0 ls hl
  obtain ⟨hx, hb, hml, hown, hts⟩ := S
  have hP := h0.1
  have hK := h0.2.1
  have hS : va_S (mA 18 ad) s.heap s.heap [] := va_S.rf
  have hl : lv_has ls 2 [(0, .ref (ad 0)), (1, .int n)] := hl
  have kf90 : (Cond.fieldLink RX7 90 "BenchRunsModel" "failure" "I").before (#[.ref (ad 0), .int n] : Array Value) s = true := hts _ (by decide +kernel)
  have hinX7 : ∀ w ∈ u_ws RX7 TX7 28, w ∈ wsX7_fails := by decide +kernel
  have kf93 : (Cond.fieldLink RX7 93 "BenchRunsModel" "isMachines" "Z").before (#[.ref (ad 0), .int n] : Array Value) s = true := hts _ (by decide +kernel)
  refine lv_aload_n hx hb dX7_fails_0 rfl (lv_at hl 0 rfl) ?_
  refine lv_iload_n hx hb dX7_fails_1 rfl (lv_at hl 1 rfl) ?_
  refine mw_put (ci := 6) (C := RX7) (T := TX7) (N := 28) (v := n) (ty := .int) hx hb hts hinX7 tyX7 tyX7_ok nmX7 hown hK hj hP hS 0 (by decide) mF_0 rfl 24 (by decide) kf90 (fun _ h9 => h9) rfl (by decide +kernel) rfl rfl (Nat.le_of_ble_eq_true rfl) rfl dX7_fails_2 (fun H locs hP hS => ?_)
  refine lv_aload_n hx hb dX7_fails_5 rfl (lv_at hl 0 rfl) ?_
  refine lv_iload_n hx hb dX7_fails_6 rfl (lv_at hl 1 rfl) ?_
  refine lv_iconst (v := 3) hx hb dX7_fails_7 (by decide) ?_
  refine lv_bipush (v := 8) hx hb dX7_fails_8 (by decide) ?_
  refine g_callS (As := [.int n, .int 3, .int 8]) (rest := [.ref (ad 0)]) ⟨hx, hb, hml, hown, hts⟩ (m_in l n 3 8) (va_cwS 3 hts gX7_fails_X7_in rfl rfl rfl (by decide +kernel) ⟨by decide, by decide⟩) rfl rfl hl.1 (Nat.le_of_ble_eq_true rfl) dX7_fails_10 ⟨Nat.zero_le _, Nat.zero_le _⟩ ?_
  refine mw_put (ci := 6) (C := RX7) (T := TX7) (N := 28) (v := mIn n 3 8) (ty := .boolean) hx hb hts hinX7 tyX7 tyX7_ok nmX7 hown hK hj hP hS 0 (by decide) mF_0 rfl 25 (by decide) kf93 (fun _ h9 => h9) rfl (by decide +kernel) (mIn_nar _ _ _) (mIn_fit _ _ _) (Nat.le_of_ble_eq_true rfl) rfl dX7_fails_13 (fun H locs hP hS => ?_)
  refine lv_iconst (v := 5) hx hb dX7_fails_16 (by decide) ?_
  exact g_iret hx hb hr hlocks hP hS dX7_fails_17 (by unfold mFail; rfl)

def mMore (σ : Mem) (v : Nat) (n : Int32) : Int32 × Mem :=
  if (σ 2 v) + n ≤ 1000 then (0, mset σ 2 v ((σ 2 v) + n))
  else mFail σ 1
set_option maxHeartbeats 4000000 in
set_option maxRecDepth 100000 in
theorem m_more (l : Launch) (D : va_G) (cy : Nat → ClassId) (ad wy : Nat → Nat) (mt : Nat) (hj : mJ 18 ad) (σ : Mem) (v : Nat) (hv : v < 8) (n : Int32)  : Met l yX7_more wsX7_more ({ frames := 2, cells := 0, slots := 0, locals := 43 }) (va_Pc [.ref (ad 0), .int (nI v), .int n] (gPre 18 ad (mF ad cy) D cy wy mt σ)) (gQ 18 ad (mF ad cy) D (some (.int (mMore σ v n).1)) (mMore σ v n).2) 0 0 (mA 18 ad) := by
  refine g_met (cc := cX7_more) (maxL := 3) (ret := (some .int)) (by decide) rfl (Nat.le_of_ble_eq_true rfl) ?_
  intro p e s m below meth c S hr hlocks h0 ls hl
  obtain ⟨hx, hb, hml, hown, hts⟩ := S
  have hP := h0.1
  have hK := h0.2.1
  have hS : va_S (mA 18 ad) s.heap s.heap [] := va_S.rf
  have hl : lv_has ls 3 [(0, .ref (ad 0)), (1, .int (nI v)), (2, .int n)] := hl
  have kf13 : (Cond.fieldLink RX7 13 "BenchRunsModel" "drops" "[I").before (#[.ref (ad 0), .int (nI v), .int n] : Array Value) s = true := hts _ (by decide +kernel)
  have hinX7 : ∀ w ∈ u_ws RX7 TX7 28, w ∈ wsX7_more := by decide +kernel
  refine lv_aload_n hx hb dX7_more_0 rfl (lv_at hl 0 rfl) ?_
  refine mw_get (ci := 6) (C := RX7) (T := TX7) (N := 28) (v := .ref (ad 2)) hx hb hts hinX7 hown hK hP 0 (by decide) mF_0 rfl 2 (by decide) kf13 (fun _ h9 => h9) rfl dX7_more_1 ?_
  refine lv_iload_n hx hb dX7_more_4 rfl (lv_at hl 1 rfl) ?_
  refine mw_ild hx hb hK hP 2 (by decide) 0 mF_2 rfl v (by omega) (by decide) rfl dX7_more_5 ?_
  refine lv_iload_n hx hb dX7_more_6 rfl (lv_at hl 2 rfl) ?_
  refine lv_iadd hx hb dX7_more_7 ?_
  refine lv_sipush (v := 1000) hx hb dX7_more_8 (by decide) ?_
  refine lv_icmp_le (tgt := 20) hx hb dX7_more_11 (by decide) (fun c_1 => ?_) (fun c_1 => ?_)
  · skip
    refine lv_aload_n hx hb dX7_more_20 rfl (lv_at hl 0 rfl) ?_
    refine mw_get (ci := 6) (C := RX7) (T := TX7) (N := 28) (v := .ref (ad 2)) hx hb hts hinX7 hown hK hP 0 (by decide) mF_0 rfl 2 (by decide) kf13 (fun _ h9 => h9) rfl dX7_more_21 ?_
    refine lv_iload_n hx hb dX7_more_24 rfl (lv_at hl 1 rfl) ?_
    refine lv_dup2_11 hx hb dX7_more_25 rfl rfl ?_
    refine mw_ild hx hb hK hP 2 (by decide) 0 mF_2 rfl v (by omega) (by decide) rfl dX7_more_26 ?_
    refine lv_iload_n hx hb dX7_more_27 rfl (lv_at hl 2 rfl) ?_
    refine lv_iadd hx hb dX7_more_28 ?_
    refine mw_ist hx hb hK hj hP hS 2 (by decide) 0 mF_2 rfl v (by omega) (by decide) rfl dX7_more_29 (fun H locs hP hS => ?_)
    refine lv_iconst (v := 0) hx hb dX7_more_30 (by decide) ?_
    exact g_iret hx hb hr hlocks hP hS dX7_more_31 (by unfold mMore; rw [if_pos c_1] <;> rfl)
  · skip
    refine lv_aload_n hx hb dX7_more_14 rfl (lv_at hl 0 rfl) ?_
    refine lv_iconst (v := 1) hx hb dX7_more_15 (by decide) ?_
    refine g_callV (As := [.int 1]) (rest := []) (N := 28) (T := TX7) (ci := 6) ⟨hx, hb, hml, hown, hts⟩ 0 (m_fails l D cy ad wy mt hj σ 1 ) (cwV 1 hts gX7_more_X7_fails rfl rfl rfl (by decide +kernel) ⟨by decide, by decide⟩) h0 hP hS (by decide) mF_0 rfl rfl rfl hl.1 (Nat.le_of_ble_eq_true rfl) dX7_more_16 ⟨Nat.zero_le _, Nat.zero_le _⟩ (fun H locs hP hS => ?_)
    exact g_iret hx hb hr hlocks hP hS dX7_more_19 (by unfold mMore; rw [if_neg c_1] <;> rfl)

def mPour (σ : Mem) (v t : Nat) : Int32 × Mem :=
  if nI t ≤ 7 then (if σ 1 t = 0 then mFail σ 5
    else if nI t = nI v then (0, σ)
    else if (σ 2 t) + (σ 2 v) ≤ 1000 then (0, mset (mset σ 2 t ((σ 2 t) + (σ 2 v))) 2 v 0)
    else mFail σ 1)
  else mFail σ 4
set_option maxHeartbeats 4000000 in
set_option maxRecDepth 100000 in
theorem m_pours (l : Launch) (D : va_G) (cy : Nat → ClassId) (ad wy : Nat → Nat) (mt : Nat) (hj : mJ 18 ad) (σ : Mem) (v t : Nat) (hv : v < 8) (ht : t ≤ 200)  : Met l yX7_pours wsX7_pours ({ frames := 2, cells := 0, slots := 0, locals := 43 }) (va_Pc [.ref (ad 0), .int (nI v), .int (nI t)] (gPre 18 ad (mF ad cy) D cy wy mt σ)) (gQ 18 ad (mF ad cy) D (some (.int (mPour σ v t).1)) (mPour σ v t).2) 0 0 (mA 18 ad) := by
  refine g_met (cc := cX7_pours) (maxL := 3) (ret := (some .int)) (by decide) rfl (Nat.le_of_ble_eq_true rfl) ?_
  intro p e s m below meth c S hr hlocks h0 ls hl
  obtain ⟨hx, hb, hml, hown, hts⟩ := S
  have hP := h0.1
  have hK := h0.2.1
  have hS : va_S (mA 18 ad) s.heap s.heap [] := va_S.rf
  have hl : lv_has ls 3 [(0, .ref (ad 0)), (1, .int (nI v)), (2, .int (nI t))] := hl
  have kf7 : (Cond.fieldLink RX7 7 "BenchRunsModel" "isVial" "[Z").before (#[.ref (ad 0), .int (nI v), .int (nI t)] : Array Value) s = true := hts _ (by decide +kernel)
  have hinX7 : ∀ w ∈ u_ws RX7 TX7 28, w ∈ wsX7_pours := by decide +kernel
  have kf13 : (Cond.fieldLink RX7 13 "BenchRunsModel" "drops" "[I").before (#[.ref (ad 0), .int (nI v), .int (nI t)] : Array Value) s = true := hts _ (by decide +kernel)
  refine lv_iload_n hx hb dX7_pours_0 rfl (lv_at hl 2 rfl) ?_
  refine lv_bipush (v := 7) hx hb dX7_pours_1 (by decide) ?_
  refine lv_icmp_le (tgt := 12) hx hb dX7_pours_3 (by decide) (fun c_1 => ?_) (fun c_1 => ?_)
  · skip
    have ht8 : t ≤ 7 := (nI_leI (b := 7) (by omega) (by decide)).mp c_1
    refine lv_aload_n hx hb dX7_pours_12 rfl (lv_at hl 0 rfl) ?_
    refine mw_get (ci := 6) (C := RX7) (T := TX7) (N := 28) (v := .ref (ad 1)) hx hb hts hinX7 hown hK hP 0 (by decide) mF_0 rfl 1 (by decide) kf7 (fun _ h9 => h9) rfl dX7_pours_13 ?_
    refine lv_iload_n hx hb dX7_pours_16 rfl (lv_at hl 2 rfl) ?_
    refine mw_zld hx hb hK hP 1 (by decide) 1 mF_1 rfl t (by omega) (by decide) rfl dX7_pours_17 ?_
    refine lv_if_ne (tgt := 27) hx hb dX7_pours_18 (by decide) (fun c_2 => ?_) (fun c_2 => ?_)
    · skip
      refine lv_iload_n hx hb dX7_pours_27 rfl (lv_at hl 2 rfl) ?_
      refine lv_iload_n hx hb dX7_pours_28 rfl (lv_at hl 1 rfl) ?_
      refine lv_icmp_ne (tgt := 34) hx hb dX7_pours_29 (by decide) (fun c_3 => ?_) (fun c_3 => ?_)
      · skip
        refine lv_aload_n hx hb dX7_pours_34 rfl (lv_at hl 0 rfl) ?_
        refine mw_get (ci := 6) (C := RX7) (T := TX7) (N := 28) (v := .ref (ad 2)) hx hb hts hinX7 hown hK hP 0 (by decide) mF_0 rfl 2 (by decide) kf13 (fun _ h9 => h9) rfl dX7_pours_35 ?_
        refine lv_iload_n hx hb dX7_pours_38 rfl (lv_at hl 2 rfl) ?_
        refine mw_ild hx hb hK hP 2 (by decide) 0 mF_2 rfl t (by omega) (by decide) rfl dX7_pours_39 ?_
        refine lv_aload_n hx hb dX7_pours_40 rfl (lv_at hl 0 rfl) ?_
        refine mw_get (ci := 6) (C := RX7) (T := TX7) (N := 28) (v := .ref (ad 2)) hx hb hts hinX7 hown hK hP 0 (by decide) mF_0 rfl 2 (by decide) kf13 (fun _ h9 => h9) rfl dX7_pours_41 ?_
        refine lv_iload_n hx hb dX7_pours_44 rfl (lv_at hl 1 rfl) ?_
        refine mw_ild hx hb hK hP 2 (by decide) 0 mF_2 rfl v (by omega) (by decide) rfl dX7_pours_45 ?_
        refine lv_iadd hx hb dX7_pours_46 ?_
        refine lv_sipush (v := 1000) hx hb dX7_pours_47 (by decide) ?_
        refine lv_icmp_le (tgt := 59) hx hb dX7_pours_50 (by decide) (fun c_4 => ?_) (fun c_4 => ?_)
        · skip
          refine lv_aload_n hx hb dX7_pours_59 rfl (lv_at hl 0 rfl) ?_
          refine mw_get (ci := 6) (C := RX7) (T := TX7) (N := 28) (v := .ref (ad 2)) hx hb hts hinX7 hown hK hP 0 (by decide) mF_0 rfl 2 (by decide) kf13 (fun _ h9 => h9) rfl dX7_pours_60 ?_
          refine lv_iload_n hx hb dX7_pours_63 rfl (lv_at hl 2 rfl) ?_
          refine lv_dup2_11 hx hb dX7_pours_64 rfl rfl ?_
          refine mw_ild hx hb hK hP 2 (by decide) 0 mF_2 rfl t (by omega) (by decide) rfl dX7_pours_65 ?_
          refine lv_aload_n hx hb dX7_pours_66 rfl (lv_at hl 0 rfl) ?_
          refine mw_get (ci := 6) (C := RX7) (T := TX7) (N := 28) (v := .ref (ad 2)) hx hb hts hinX7 hown hK hP 0 (by decide) mF_0 rfl 2 (by decide) kf13 (fun _ h9 => h9) rfl dX7_pours_67 ?_
          refine lv_iload_n hx hb dX7_pours_70 rfl (lv_at hl 1 rfl) ?_
          refine mw_ild hx hb hK hP 2 (by decide) 0 mF_2 rfl v (by omega) (by decide) rfl dX7_pours_71 ?_
          refine lv_iadd hx hb dX7_pours_72 ?_
          refine mw_ist hx hb hK hj hP hS 2 (by decide) 0 mF_2 rfl t (by omega) (by decide) rfl dX7_pours_73 (fun H locs hP hS => ?_)
          refine lv_aload_n hx hb dX7_pours_74 rfl (lv_at hl 0 rfl) ?_
          refine mw_get (ci := 6) (C := RX7) (T := TX7) (N := 28) (v := .ref (ad 2)) hx hb hts hinX7 hown hK hP 0 (by decide) mF_0 rfl 2 (by decide) kf13 (fun _ h9 => h9) rfl dX7_pours_75 ?_
          refine lv_iload_n hx hb dX7_pours_78 rfl (lv_at hl 1 rfl) ?_
          refine lv_iconst (v := 0) hx hb dX7_pours_79 (by decide) ?_
          refine mw_ist hx hb hK hj hP hS 2 (by decide) 0 mF_2 rfl v (by omega) (by decide) rfl dX7_pours_80 (fun H locs hP hS => ?_)
          refine lv_iconst (v := 0) hx hb dX7_pours_81 (by decide) ?_
          exact g_iret hx hb hr hlocks hP hS dX7_pours_82 (by unfold mPour; rw [if_pos c_1, if_neg c_2, if_neg c_3, if_pos c_4] <;> rfl)
        · skip
          refine lv_aload_n hx hb dX7_pours_53 rfl (lv_at hl 0 rfl) ?_
          refine lv_iconst (v := 1) hx hb dX7_pours_54 (by decide) ?_
          refine g_callV (As := [.int 1]) (rest := []) (N := 28) (T := TX7) (ci := 6) ⟨hx, hb, hml, hown, hts⟩ 0 (m_fails l D cy ad wy mt hj σ 1 ) (cwV 1 hts gX7_pours_X7_fails rfl rfl rfl (by decide +kernel) ⟨by decide, by decide⟩) h0 hP hS (by decide) mF_0 rfl rfl rfl hl.1 (Nat.le_of_ble_eq_true rfl) dX7_pours_55 ⟨Nat.zero_le _, Nat.zero_le _⟩ (fun H locs hP hS => ?_)
          exact g_iret hx hb hr hlocks hP hS dX7_pours_58 (by unfold mPour; rw [if_pos c_1, if_neg c_2, if_neg c_3, if_neg c_4] <;> rfl)
      · skip
        refine lv_iconst (v := 0) hx hb dX7_pours_32 (by decide) ?_
        exact g_iret hx hb hr hlocks hP hS dX7_pours_33 (by unfold mPour; rw [if_pos c_1, if_neg c_2, if_pos c_3] <;> rfl)
    · skip
      refine lv_aload_n hx hb dX7_pours_21 rfl (lv_at hl 0 rfl) ?_
      refine lv_iconst (v := 5) hx hb dX7_pours_22 (by decide) ?_
      refine g_callV (As := [.int 5]) (rest := []) (N := 28) (T := TX7) (ci := 6) ⟨hx, hb, hml, hown, hts⟩ 0 (m_fails l D cy ad wy mt hj σ 5 ) (cwV 1 hts gX7_pours_X7_fails rfl rfl rfl (by decide +kernel) ⟨by decide, by decide⟩) h0 hP hS (by decide) mF_0 rfl rfl rfl hl.1 (Nat.le_of_ble_eq_true rfl) dX7_pours_23 ⟨Nat.zero_le _, Nat.zero_le _⟩ (fun H locs hP hS => ?_)
      exact g_iret hx hb hr hlocks hP hS dX7_pours_26 (by unfold mPour; rw [if_pos c_1, if_pos c_2] <;> rfl)
  · skip
    refine lv_aload_n hx hb dX7_pours_6 rfl (lv_at hl 0 rfl) ?_
    refine lv_iconst (v := 4) hx hb dX7_pours_7 (by decide) ?_
    refine g_callV (As := [.int 4]) (rest := []) (N := 28) (T := TX7) (ci := 6) ⟨hx, hb, hml, hown, hts⟩ 0 (m_fails l D cy ad wy mt hj σ 4 ) (cwV 1 hts gX7_pours_X7_fails rfl rfl rfl (by decide +kernel) ⟨by decide, by decide⟩) h0 hP hS (by decide) mF_0 rfl rfl rfl hl.1 (Nat.le_of_ble_eq_true rfl) dX7_pours_8 ⟨Nat.zero_le _, Nat.zero_le _⟩ (fun H locs hP hS => ?_)
    exact g_iret hx hb hr hlocks hP hS dX7_pours_11 (by unfold mPour; rw [if_neg c_1] <;> rfl)

def mGrip (σ : Mem) (t v : Nat) : Int32 × Mem :=
  if nI t ≤ 5 then (if σ 9 t = 0 then (0, mset σ 11 t ((σ 11 t) + (σ 2 v)))
    else if σ 9 t = 1 then mFail σ 7
    else mFail σ 5)
  else mFail σ 4
set_option maxHeartbeats 4000000 in
set_option maxRecDepth 100000 in
theorem m_grips (l : Launch) (D : va_G) (cy : Nat → ClassId) (ad wy : Nat → Nat) (mt : Nat) (hj : mJ 18 ad) (σ : Mem) (t v : Nat) (ht : t ≤ 200) (hv : v < 8)  : Met l yX7_grips wsX7_grips ({ frames := 2, cells := 0, slots := 0, locals := 43 }) (va_Pc [.ref (ad 0), .int (nI t), .int (nI v)] (gPre 18 ad (mF ad cy) D cy wy mt σ)) (gQ 18 ad (mF ad cy) D (some (.int (mGrip σ t v).1)) (mGrip σ t v).2) 0 0 (mA 18 ad) := by
  refine g_met (cc := cX7_grips) (maxL := 3) (ret := (some .int)) (by decide) rfl (Nat.le_of_ble_eq_true rfl) ?_
  intro p e s m below meth c S hr hlocks h0 ls hl
  obtain ⟨hx, hb, hml, hown, hts⟩ := S
  have hP := h0.1
  have hK := h0.2.1
  have hS : va_S (mA 18 ad) s.heap s.heap [] := va_S.rf
  have hl : lv_has ls 3 [(0, .ref (ad 0)), (1, .int (nI t)), (2, .int (nI v))] := hl
  have kf35 : (Cond.fieldLink RX7 35 "BenchRunsModel" "sort" "[I").before (#[.ref (ad 0), .int (nI t), .int (nI v)] : Array Value) s = true := hts _ (by decide +kernel)
  have hinX7 : ∀ w ∈ u_ws RX7 TX7 28, w ∈ wsX7_grips := by decide +kernel
  have kf41 : (Cond.fieldLink RX7 41 "BenchRunsModel" "grips" "[I").before (#[.ref (ad 0), .int (nI t), .int (nI v)] : Array Value) s = true := hts _ (by decide +kernel)
  have kf13 : (Cond.fieldLink RX7 13 "BenchRunsModel" "drops" "[I").before (#[.ref (ad 0), .int (nI t), .int (nI v)] : Array Value) s = true := hts _ (by decide +kernel)
  refine lv_iload_n hx hb dX7_grips_0 rfl (lv_at hl 1 rfl) ?_
  refine lv_iconst (v := 5) hx hb dX7_grips_1 (by decide) ?_
  refine lv_icmp_le (tgt := 11) hx hb dX7_grips_2 (by decide) (fun c_1 => ?_) (fun c_1 => ?_)
  · skip
    have ht6 : t ≤ 5 := (nI_leI (b := 5) (by omega) (by decide)).mp c_1
    refine lv_aload_n hx hb dX7_grips_11 rfl (lv_at hl 0 rfl) ?_
    refine mw_get (ci := 6) (C := RX7) (T := TX7) (N := 28) (v := .ref (ad 9)) hx hb hts hinX7 hown hK hP 0 (by decide) mF_0 rfl 9 (by decide) kf35 (fun _ h9 => h9) rfl dX7_grips_12 ?_
    refine lv_iload_n hx hb dX7_grips_15 rfl (lv_at hl 1 rfl) ?_
    refine mw_ild hx hb hK hP 9 (by decide) 0 mF_9 rfl t (by omega) (by decide) rfl dX7_grips_16 ?_
    refine lv_if_eq (tgt := 41) hx hb dX7_grips_17 (by decide) (fun c_2 => ?_) (fun c_2 => ?_)
    · skip
      refine lv_aload_n hx hb dX7_grips_41 rfl (lv_at hl 0 rfl) ?_
      refine mw_get (ci := 6) (C := RX7) (T := TX7) (N := 28) (v := .ref (ad 11)) hx hb hts hinX7 hown hK hP 0 (by decide) mF_0 rfl 11 (by decide) kf41 (fun _ h9 => h9) rfl dX7_grips_42 ?_
      refine lv_iload_n hx hb dX7_grips_45 rfl (lv_at hl 1 rfl) ?_
      refine lv_dup2_11 hx hb dX7_grips_46 rfl rfl ?_
      refine mw_ild hx hb hK hP 11 (by decide) 0 mF_11 rfl t (by omega) (by decide) rfl dX7_grips_47 ?_
      refine lv_aload_n hx hb dX7_grips_48 rfl (lv_at hl 0 rfl) ?_
      refine mw_get (ci := 6) (C := RX7) (T := TX7) (N := 28) (v := .ref (ad 2)) hx hb hts hinX7 hown hK hP 0 (by decide) mF_0 rfl 2 (by decide) kf13 (fun _ h9 => h9) rfl dX7_grips_49 ?_
      refine lv_iload_n hx hb dX7_grips_52 rfl (lv_at hl 2 rfl) ?_
      refine mw_ild hx hb hK hP 2 (by decide) 0 mF_2 rfl v (by omega) (by decide) rfl dX7_grips_53 ?_
      refine lv_iadd hx hb dX7_grips_54 ?_
      refine mw_ist hx hb hK hj hP hS 11 (by decide) 0 mF_11 rfl t (by omega) (by decide) rfl dX7_grips_55 (fun H locs hP hS => ?_)
      refine lv_iconst (v := 0) hx hb dX7_grips_56 (by decide) ?_
      exact g_iret hx hb hr hlocks hP hS dX7_grips_57 (by unfold mGrip; rw [if_pos c_1, if_pos c_2] <;> rfl)
    · skip
      refine lv_aload_n hx hb dX7_grips_20 rfl (lv_at hl 0 rfl) ?_
      refine lv_aload_n hx hb dX7_grips_21 rfl (lv_at hl 0 rfl) ?_
      refine mw_get (ci := 6) (C := RX7) (T := TX7) (N := 28) (v := .ref (ad 9)) hx hb hts hinX7 hown hK hP 0 (by decide) mF_0 rfl 9 (by decide) kf35 (fun _ h9 => h9) rfl dX7_grips_22 ?_
      refine lv_iload_n hx hb dX7_grips_25 rfl (lv_at hl 1 rfl) ?_
      refine mw_ild hx hb hK hP 9 (by decide) 0 mF_9 rfl t (by omega) (by decide) rfl dX7_grips_26 ?_
      refine lv_iconst (v := 1) hx hb dX7_grips_27 (by decide) ?_
      refine lv_icmp_ne (tgt := 36) hx hb dX7_grips_28 (by decide) (fun c_3 => ?_) (fun c_3 => ?_)
      · skip
        refine lv_iconst (v := 5) hx hb dX7_grips_36 (by decide) ?_
        refine g_callV (As := [.int 5]) (rest := []) (N := 28) (T := TX7) (ci := 6) ⟨hx, hb, hml, hown, hts⟩ 0 (m_fails l D cy ad wy mt hj σ 5 ) (cwV 1 hts gX7_grips_X7_fails rfl rfl rfl (by decide +kernel) ⟨by decide, by decide⟩) h0 hP hS (by decide) mF_0 rfl rfl rfl hl.1 (Nat.le_of_ble_eq_true rfl) dX7_grips_37 ⟨Nat.zero_le _, Nat.zero_le _⟩ (fun H locs hP hS => ?_)
        exact g_iret hx hb hr hlocks hP hS dX7_grips_40 (by unfold mGrip; rw [if_pos c_1, if_neg c_2, if_neg c_3] <;> rfl)
      · skip
        refine lv_bipush (v := 7) hx hb dX7_grips_31 (by decide) ?_
        refine lv_goto (tgt := 37) hx hb dX7_grips_33 (by decide) ?_
        refine g_callV (As := [.int 7]) (rest := []) (N := 28) (T := TX7) (ci := 6) ⟨hx, hb, hml, hown, hts⟩ 0 (m_fails l D cy ad wy mt hj σ 7 ) (cwV 1 hts gX7_grips_X7_fails rfl rfl rfl (by decide +kernel) ⟨by decide, by decide⟩) h0 hP hS (by decide) mF_0 rfl rfl rfl hl.1 (Nat.le_of_ble_eq_true rfl) dX7_grips_37 ⟨Nat.zero_le _, Nat.zero_le _⟩ (fun H locs hP hS => ?_)
        exact g_iret hx hb hr hlocks hP hS dX7_grips_40 (by unfold mGrip; rw [if_pos c_1, if_neg c_2, if_pos c_3] <;> rfl)
  · skip
    refine lv_aload_n hx hb dX7_grips_5 rfl (lv_at hl 0 rfl) ?_
    refine lv_iconst (v := 4) hx hb dX7_grips_6 (by decide) ?_
    refine g_callV (As := [.int 4]) (rest := []) (N := 28) (T := TX7) (ci := 6) ⟨hx, hb, hml, hown, hts⟩ 0 (m_fails l D cy ad wy mt hj σ 4 ) (cwV 1 hts gX7_grips_X7_fails rfl rfl rfl (by decide +kernel) ⟨by decide, by decide⟩) h0 hP hS (by decide) mF_0 rfl rfl rfl hl.1 (Nat.le_of_ble_eq_true rfl) dX7_grips_7 ⟨Nat.zero_le _, Nat.zero_le _⟩ (fun H locs hP hS => ?_)
    exact g_iret hx hb hr hlocks hP hS dX7_grips_10 (by unfold mGrip; rw [if_neg c_1] <;> rfl)

def mUse (σ : Mem) (t : Nat) : Int32 × Mem :=
  if 5 < nI t then mFail σ 4
  else if 0 ≤ σ 9 t then (0, mset σ 10 t ((σ 10 t) + 1))
  else mFail σ 5
set_option maxHeartbeats 4000000 in
set_option maxRecDepth 100000 in
theorem m_uses (l : Launch) (D : va_G) (cy : Nat → ClassId) (ad wy : Nat → Nat) (mt : Nat) (hj : mJ 18 ad) (σ : Mem) (t : Nat) (ht : t ≤ 200)  : Met l yX7_uses wsX7_uses ({ frames := 2, cells := 0, slots := 0, locals := 43 }) (va_Pc [.ref (ad 0), .int (nI t)] (gPre 18 ad (mF ad cy) D cy wy mt σ)) (gQ 18 ad (mF ad cy) D (some (.int (mUse σ t).1)) (mUse σ t).2) 0 0 (mA 18 ad) := by
  refine g_met (cc := cX7_uses) (maxL := 2) (ret := (some .int)) (by decide) rfl (Nat.le_of_ble_eq_true rfl) ?_
  intro p e s m below meth c S hr hlocks h0 ls hl
  obtain ⟨hx, hb, hml, hown, hts⟩ := S
  have hP := h0.1
  have hK := h0.2.1
  have hS : va_S (mA 18 ad) s.heap s.heap [] := va_S.rf
  have hl : lv_has ls 2 [(0, .ref (ad 0)), (1, .int (nI t))] := hl
  have kf35 : (Cond.fieldLink RX7 35 "BenchRunsModel" "sort" "[I").before (#[.ref (ad 0), .int (nI t)] : Array Value) s = true := hts _ (by decide +kernel)
  have hinX7 : ∀ w ∈ u_ws RX7 TX7 28, w ∈ wsX7_uses := by decide +kernel
  have kf38 : (Cond.fieldLink RX7 38 "BenchRunsModel" "uses" "[I").before (#[.ref (ad 0), .int (nI t)] : Array Value) s = true := hts _ (by decide +kernel)
  refine lv_iload_n hx hb dX7_uses_0 rfl (lv_at hl 1 rfl) ?_
  refine lv_iconst (v := 5) hx hb dX7_uses_1 (by decide) ?_
  refine lv_icmp_gt (tgt := 14) hx hb dX7_uses_2 (by decide) (fun c_1 => ?_) (fun c_1 => ?_)
  · skip
    refine lv_aload_n hx hb dX7_uses_14 rfl (lv_at hl 0 rfl) ?_
    refine lv_iload_n hx hb dX7_uses_15 rfl (lv_at hl 1 rfl) ?_
    refine lv_iconst (v := 5) hx hb dX7_uses_16 (by decide) ?_
    refine lv_icmp_le (tgt := 24) hx hb dX7_uses_17 (by decide) (fun c9 => absurd c9 (fun h9 => absurd ((nI_ltI (a := 5) (by decide) (by omega)).mp c_1) (Nat.not_lt.mpr ((nI_leI (b := 5) (by omega) (by decide)).mp h9)))) (fun _ => ?_)
    refine lv_iconst (v := 4) hx hb dX7_uses_20 (by decide) ?_
    refine lv_goto (tgt := 25) hx hb dX7_uses_21 (by decide) ?_
    refine g_callV (As := [.int 4]) (rest := []) (N := 28) (T := TX7) (ci := 6) ⟨hx, hb, hml, hown, hts⟩ 0 (m_fails l D cy ad wy mt hj σ 4 ) (cwV 1 hts gX7_uses_X7_fails rfl rfl rfl (by decide +kernel) ⟨by decide, by decide⟩) h0 hP hS (by decide) mF_0 rfl rfl rfl hl.1 (Nat.le_of_ble_eq_true rfl) dX7_uses_25 ⟨Nat.zero_le _, Nat.zero_le _⟩ (fun H locs hP hS => ?_)
    exact g_iret hx hb hr hlocks hP hS dX7_uses_28 (by unfold mUse; rw [if_pos c_1] <;> rfl)
  · skip
    have ht6 : t ≤ 5 := Nat.not_lt.mp fun h9 => c_1 ((nI_ltI (a := 5) (by decide) (by omega)).mpr h9)
    refine lv_aload_n hx hb dX7_uses_5 rfl (lv_at hl 0 rfl) ?_
    refine mw_get (ci := 6) (C := RX7) (T := TX7) (N := 28) (v := .ref (ad 9)) hx hb hts hinX7 hown hK hP 0 (by decide) mF_0 rfl 9 (by decide) kf35 (fun _ h9 => h9) rfl dX7_uses_6 ?_
    refine lv_iload_n hx hb dX7_uses_9 rfl (lv_at hl 1 rfl) ?_
    refine mw_ild hx hb hK hP 9 (by decide) 0 mF_9 rfl t (by omega) (by decide) rfl dX7_uses_10 ?_
    refine lv_if_ge (tgt := 29) hx hb dX7_uses_11 (by decide) (fun c_2 => ?_) (fun c_2 => ?_)
    · skip
      refine lv_aload_n hx hb dX7_uses_29 rfl (lv_at hl 0 rfl) ?_
      refine mw_get (ci := 6) (C := RX7) (T := TX7) (N := 28) (v := .ref (ad 10)) hx hb hts hinX7 hown hK hP 0 (by decide) mF_0 rfl 10 (by decide) kf38 (fun _ h9 => h9) rfl dX7_uses_30 ?_
      refine lv_iload_n hx hb dX7_uses_33 rfl (lv_at hl 1 rfl) ?_
      refine lv_dup2_11 hx hb dX7_uses_34 rfl rfl ?_
      refine mw_ild hx hb hK hP 10 (by decide) 0 mF_10 rfl t (by omega) (by decide) rfl dX7_uses_35 ?_
      refine lv_iconst (v := 1) hx hb dX7_uses_36 (by decide) ?_
      refine lv_iadd hx hb dX7_uses_37 ?_
      refine mw_ist hx hb hK hj hP hS 10 (by decide) 0 mF_10 rfl t (by omega) (by decide) rfl dX7_uses_38 (fun H locs hP hS => ?_)
      refine lv_iconst (v := 0) hx hb dX7_uses_39 (by decide) ?_
      exact g_iret hx hb hr hlocks hP hS dX7_uses_40 (by unfold mUse; rw [if_neg c_1, if_pos c_2] <;> rfl)
    · skip
      refine lv_aload_n hx hb dX7_uses_14 rfl (lv_at hl 0 rfl) ?_
      refine lv_iload_n hx hb dX7_uses_15 rfl (lv_at hl 1 rfl) ?_
      refine lv_iconst (v := 5) hx hb dX7_uses_16 (by decide) ?_
      refine lv_icmp_le (tgt := 24) hx hb dX7_uses_17 (by decide) (fun _ => ?_) (fun c9 => absurd (nI_le (b := 5) ht6 (by decide)) c9)
      refine lv_iconst (v := 5) hx hb dX7_uses_24 (by decide) ?_
      refine g_callV (As := [.int 5]) (rest := []) (N := 28) (T := TX7) (ci := 6) ⟨hx, hb, hml, hown, hts⟩ 0 (m_fails l D cy ad wy mt hj σ 5 ) (cwV 1 hts gX7_uses_X7_fails rfl rfl rfl (by decide +kernel) ⟨by decide, by decide⟩) h0 hP hS (by decide) mF_0 rfl rfl rfl hl.1 (Nat.le_of_ble_eq_true rfl) dX7_uses_25 ⟨Nat.zero_le _, Nat.zero_le _⟩ (fun H locs hP hS => ?_)
      exact g_iret hx hb hr hlocks hP hS dX7_uses_28 (by unfold mUse; rw [if_neg c_1, if_neg c_2] <;> rfl)

def mBoxes (σ : Mem) (z w : Int32) : Int32 × Mem :=
  if 0 ≤ z then (0, mset (mset (mset (mset (mset (mset (mset (mset (mset (mset (mset (mset (mset (mset (mset (mset (mset (mset (mset (mset (mset (mset σ 0 13 z) 0 14 w) 12 0 (-1)) 12 1 (-1)) 12 2 (-1)) 12 3 (-1)) 12 4 (-1)) 12 5 (-1)) 12 6 (-1)) 12 7 (-1)) 12 8 (-1)) 12 9 (-1)) 12 10 (-1)) 12 11 (-1)) 12 12 (-1)) 12 13 (-1)) 12 14 (-1)) 12 15 (-1)) 12 16 (-1)) 12 17 (-1)) 12 18 (-1)) 12 19 (-1))
  else mFail σ 6
set_option maxHeartbeats 4000000 in
set_option maxRecDepth 100000 in
theorem m_boxes (l : Launch) (D : va_G) (cy : Nat → ClassId) (ad wy : Nat → Nat) (mt : Nat) (hj : mJ 18 ad) (σ : Mem) (z w : Int32)  : Met l yX7_boxes wsX7_boxes ({ frames := 2, cells := 0, slots := 0, locals := 43 }) (va_Pc [.ref (ad 0), .int z, .int w] (gPre 18 ad (mF ad cy) D cy wy mt σ)) (gQ 18 ad (mF ad cy) D (some (.int (mBoxes σ z w).1)) (mBoxes σ z w).2) 0 0 (mA 18 ad) := by
  refine g_met (cc := cX7_boxes) (maxL := 4) (ret := (some .int)) (by decide) rfl (Nat.le_of_ble_eq_true rfl) ?_
  intro p e s m below meth c S hr hlocks h0 ls hl
  obtain ⟨hx, hb, hml, hown, hts⟩ := S
  have hP := h0.1
  have hK := h0.2.1
  have hS : va_S (mA 18 ad) s.heap s.heap [] := va_S.rf
  have hl : lv_has ls 4 [(0, .ref (ad 0)), (1, .int z), (2, .int w)] := hl
  have kf48 : (Cond.fieldLink RX7 48 "BenchRunsModel" "boxSize" "I").before (#[.ref (ad 0), .int z, .int w] : Array Value) s = true := hts _ (by decide +kernel)
  have hinX7 : ∀ w ∈ u_ws RX7 TX7 28, w ∈ wsX7_boxes := by decide +kernel
  have kf100 : (Cond.fieldLink RX7 100 "BenchRunsModel" "boxSort" "I").before (#[.ref (ad 0), .int z, .int w] : Array Value) s = true := hts _ (by decide +kernel)
  have kf51 : (Cond.fieldLink RX7 51 "BenchRunsModel" "box" "[I").before (#[.ref (ad 0), .int z, .int w] : Array Value) s = true := hts _ (by decide +kernel)
  refine lv_iload_n hx hb dX7_boxes_0 rfl (lv_at hl 1 rfl) ?_
  refine lv_if_ge (tgt := 11) hx hb dX7_boxes_1 (by decide) (fun c_1 => ?_) (fun c_1 => ?_)
  · skip
    refine lv_aload_n hx hb dX7_boxes_11 rfl (lv_at hl 0 rfl) ?_
    refine lv_iload_n hx hb dX7_boxes_12 rfl (lv_at hl 1 rfl) ?_
    refine mw_put (ci := 6) (C := RX7) (T := TX7) (N := 28) (v := z) (ty := .int) hx hb hts hinX7 tyX7 tyX7_ok nmX7 hown hK hj hP hS 0 (by decide) mF_0 rfl 13 (by decide) kf48 (fun _ h9 => h9) rfl (by decide +kernel) rfl rfl (Nat.le_of_ble_eq_true rfl) rfl dX7_boxes_13 (fun H locs hP hS => ?_)
    refine lv_aload_n hx hb dX7_boxes_16 rfl (lv_at hl 0 rfl) ?_
    refine lv_iload_n hx hb dX7_boxes_17 rfl (lv_at hl 2 rfl) ?_
    refine mw_put (ci := 6) (C := RX7) (T := TX7) (N := 28) (v := w) (ty := .int) hx hb hts hinX7 tyX7 tyX7_ok nmX7 hown hK hj hP hS 0 (by decide) mF_0 rfl 14 (by decide) kf100 (fun _ h9 => h9) rfl (by decide +kernel) rfl rfl (Nat.le_of_ble_eq_true rfl) rfl dX7_boxes_18 (fun H locs hP hS => ?_)
    refine lv_iconst (v := 0) hx hb dX7_boxes_21 (by decide) ?_
    refine lv_istore_n (lv' := [(3, .int 0), (0, .ref (ad 0)), (1, .int z), (2, .int w)]) hx hb dX7_boxes_22 rfl hl (by decide) rfl (fun ls hl => ?_)
    refine lv_iload_n hx hb dX7_boxes_23 rfl (lv_at hl 0 rfl) ?_
    refine lv_bipush (v := 20) hx hb dX7_boxes_24 (by decide) ?_
    refine lv_icmp_ge (tgt := 42) hx hb dX7_boxes_26 (by decide) (fun c9 => absurd c9 (by decide)) (fun _ => ?_)
    refine lv_aload_n hx hb dX7_boxes_29 rfl (lv_at hl 1 rfl) ?_
    refine mw_get (ci := 6) (C := RX7) (T := TX7) (N := 28) (v := .ref (ad 12)) hx hb hts hinX7 hown hK hP 0 (by decide) mF_0 rfl 15 (by decide) kf51 (fun _ h9 => h9) rfl dX7_boxes_30 ?_
    refine lv_iload_n hx hb dX7_boxes_33 rfl (lv_at hl 0 rfl) ?_
    refine lv_iconst (v := (-1)) hx hb dX7_boxes_34 (by decide) ?_
    refine mw_ist hx hb hK hj hP hS 12 (by decide) 0 mF_12 rfl 0 (by decide) (by decide) rfl dX7_boxes_35 (fun H locs hP hS => ?_)
    refine lv_iinc (v := 1) (lv' := [(3, .int 1), (0, .ref (ad 0)), (1, .int z), (2, .int w)]) hx hb dX7_boxes_36 hl (k := 0) rfl (by decide) (by decide) rfl (fun ls hl => ?_)
    refine lv_goto (tgt := 23) hx hb dX7_boxes_39 (by decide) ?_
    refine lv_iload_n hx hb dX7_boxes_23 rfl (lv_at hl 0 rfl) ?_
    refine lv_bipush (v := 20) hx hb dX7_boxes_24 (by decide) ?_
    refine lv_icmp_ge (tgt := 42) hx hb dX7_boxes_26 (by decide) (fun c9 => absurd c9 (by decide)) (fun _ => ?_)
    refine lv_aload_n hx hb dX7_boxes_29 rfl (lv_at hl 1 rfl) ?_
    refine mw_get (ci := 6) (C := RX7) (T := TX7) (N := 28) (v := .ref (ad 12)) hx hb hts hinX7 hown hK hP 0 (by decide) mF_0 rfl 15 (by decide) kf51 (fun _ h9 => h9) rfl dX7_boxes_30 ?_
    refine lv_iload_n hx hb dX7_boxes_33 rfl (lv_at hl 0 rfl) ?_
    refine lv_iconst (v := (-1)) hx hb dX7_boxes_34 (by decide) ?_
    refine mw_ist hx hb hK hj hP hS 12 (by decide) 0 mF_12 rfl 1 (by decide) (by decide) rfl dX7_boxes_35 (fun H locs hP hS => ?_)
    refine lv_iinc (v := 2) (lv' := [(3, .int 2), (0, .ref (ad 0)), (1, .int z), (2, .int w)]) hx hb dX7_boxes_36 hl (k := 0) rfl (by decide) (by decide) rfl (fun ls hl => ?_)
    refine lv_goto (tgt := 23) hx hb dX7_boxes_39 (by decide) ?_
    refine lv_iload_n hx hb dX7_boxes_23 rfl (lv_at hl 0 rfl) ?_
    refine lv_bipush (v := 20) hx hb dX7_boxes_24 (by decide) ?_
    refine lv_icmp_ge (tgt := 42) hx hb dX7_boxes_26 (by decide) (fun c9 => absurd c9 (by decide)) (fun _ => ?_)
    refine lv_aload_n hx hb dX7_boxes_29 rfl (lv_at hl 1 rfl) ?_
    refine mw_get (ci := 6) (C := RX7) (T := TX7) (N := 28) (v := .ref (ad 12)) hx hb hts hinX7 hown hK hP 0 (by decide) mF_0 rfl 15 (by decide) kf51 (fun _ h9 => h9) rfl dX7_boxes_30 ?_
    refine lv_iload_n hx hb dX7_boxes_33 rfl (lv_at hl 0 rfl) ?_
    refine lv_iconst (v := (-1)) hx hb dX7_boxes_34 (by decide) ?_
    refine mw_ist hx hb hK hj hP hS 12 (by decide) 0 mF_12 rfl 2 (by decide) (by decide) rfl dX7_boxes_35 (fun H locs hP hS => ?_)
    refine lv_iinc (v := 3) (lv' := [(3, .int 3), (0, .ref (ad 0)), (1, .int z), (2, .int w)]) hx hb dX7_boxes_36 hl (k := 0) rfl (by decide) (by decide) rfl (fun ls hl => ?_)
    refine lv_goto (tgt := 23) hx hb dX7_boxes_39 (by decide) ?_
    refine lv_iload_n hx hb dX7_boxes_23 rfl (lv_at hl 0 rfl) ?_
    refine lv_bipush (v := 20) hx hb dX7_boxes_24 (by decide) ?_
    refine lv_icmp_ge (tgt := 42) hx hb dX7_boxes_26 (by decide) (fun c9 => absurd c9 (by decide)) (fun _ => ?_)
    refine lv_aload_n hx hb dX7_boxes_29 rfl (lv_at hl 1 rfl) ?_
    refine mw_get (ci := 6) (C := RX7) (T := TX7) (N := 28) (v := .ref (ad 12)) hx hb hts hinX7 hown hK hP 0 (by decide) mF_0 rfl 15 (by decide) kf51 (fun _ h9 => h9) rfl dX7_boxes_30 ?_
    refine lv_iload_n hx hb dX7_boxes_33 rfl (lv_at hl 0 rfl) ?_
    refine lv_iconst (v := (-1)) hx hb dX7_boxes_34 (by decide) ?_
    refine mw_ist hx hb hK hj hP hS 12 (by decide) 0 mF_12 rfl 3 (by decide) (by decide) rfl dX7_boxes_35 (fun H locs hP hS => ?_)
    refine lv_iinc (v := 4) (lv' := [(3, .int 4), (0, .ref (ad 0)), (1, .int z), (2, .int w)]) hx hb dX7_boxes_36 hl (k := 0) rfl (by decide) (by decide) rfl (fun ls hl => ?_)
    refine lv_goto (tgt := 23) hx hb dX7_boxes_39 (by decide) ?_
    refine lv_iload_n hx hb dX7_boxes_23 rfl (lv_at hl 0 rfl) ?_
    refine lv_bipush (v := 20) hx hb dX7_boxes_24 (by decide) ?_
    refine lv_icmp_ge (tgt := 42) hx hb dX7_boxes_26 (by decide) (fun c9 => absurd c9 (by decide)) (fun _ => ?_)
    refine lv_aload_n hx hb dX7_boxes_29 rfl (lv_at hl 1 rfl) ?_
    refine mw_get (ci := 6) (C := RX7) (T := TX7) (N := 28) (v := .ref (ad 12)) hx hb hts hinX7 hown hK hP 0 (by decide) mF_0 rfl 15 (by decide) kf51 (fun _ h9 => h9) rfl dX7_boxes_30 ?_
    refine lv_iload_n hx hb dX7_boxes_33 rfl (lv_at hl 0 rfl) ?_
    refine lv_iconst (v := (-1)) hx hb dX7_boxes_34 (by decide) ?_
    refine mw_ist hx hb hK hj hP hS 12 (by decide) 0 mF_12 rfl 4 (by decide) (by decide) rfl dX7_boxes_35 (fun H locs hP hS => ?_)
    refine lv_iinc (v := 5) (lv' := [(3, .int 5), (0, .ref (ad 0)), (1, .int z), (2, .int w)]) hx hb dX7_boxes_36 hl (k := 0) rfl (by decide) (by decide) rfl (fun ls hl => ?_)
    refine lv_goto (tgt := 23) hx hb dX7_boxes_39 (by decide) ?_
    refine lv_iload_n hx hb dX7_boxes_23 rfl (lv_at hl 0 rfl) ?_
    refine lv_bipush (v := 20) hx hb dX7_boxes_24 (by decide) ?_
    refine lv_icmp_ge (tgt := 42) hx hb dX7_boxes_26 (by decide) (fun c9 => absurd c9 (by decide)) (fun _ => ?_)
    refine lv_aload_n hx hb dX7_boxes_29 rfl (lv_at hl 1 rfl) ?_
    refine mw_get (ci := 6) (C := RX7) (T := TX7) (N := 28) (v := .ref (ad 12)) hx hb hts hinX7 hown hK hP 0 (by decide) mF_0 rfl 15 (by decide) kf51 (fun _ h9 => h9) rfl dX7_boxes_30 ?_
    refine lv_iload_n hx hb dX7_boxes_33 rfl (lv_at hl 0 rfl) ?_
    refine lv_iconst (v := (-1)) hx hb dX7_boxes_34 (by decide) ?_
    refine mw_ist hx hb hK hj hP hS 12 (by decide) 0 mF_12 rfl 5 (by decide) (by decide) rfl dX7_boxes_35 (fun H locs hP hS => ?_)
    refine lv_iinc (v := 6) (lv' := [(3, .int 6), (0, .ref (ad 0)), (1, .int z), (2, .int w)]) hx hb dX7_boxes_36 hl (k := 0) rfl (by decide) (by decide) rfl (fun ls hl => ?_)
    refine lv_goto (tgt := 23) hx hb dX7_boxes_39 (by decide) ?_
    refine lv_iload_n hx hb dX7_boxes_23 rfl (lv_at hl 0 rfl) ?_
    refine lv_bipush (v := 20) hx hb dX7_boxes_24 (by decide) ?_
    refine lv_icmp_ge (tgt := 42) hx hb dX7_boxes_26 (by decide) (fun c9 => absurd c9 (by decide)) (fun _ => ?_)
    refine lv_aload_n hx hb dX7_boxes_29 rfl (lv_at hl 1 rfl) ?_
    refine mw_get (ci := 6) (C := RX7) (T := TX7) (N := 28) (v := .ref (ad 12)) hx hb hts hinX7 hown hK hP 0 (by decide) mF_0 rfl 15 (by decide) kf51 (fun _ h9 => h9) rfl dX7_boxes_30 ?_
    refine lv_iload_n hx hb dX7_boxes_33 rfl (lv_at hl 0 rfl) ?_
    refine lv_iconst (v := (-1)) hx hb dX7_boxes_34 (by decide) ?_
    refine mw_ist hx hb hK hj hP hS 12 (by decide) 0 mF_12 rfl 6 (by decide) (by decide) rfl dX7_boxes_35 (fun H locs hP hS => ?_)
    refine lv_iinc (v := 7) (lv' := [(3, .int 7), (0, .ref (ad 0)), (1, .int z), (2, .int w)]) hx hb dX7_boxes_36 hl (k := 0) rfl (by decide) (by decide) rfl (fun ls hl => ?_)
    refine lv_goto (tgt := 23) hx hb dX7_boxes_39 (by decide) ?_
    refine lv_iload_n hx hb dX7_boxes_23 rfl (lv_at hl 0 rfl) ?_
    refine lv_bipush (v := 20) hx hb dX7_boxes_24 (by decide) ?_
    refine lv_icmp_ge (tgt := 42) hx hb dX7_boxes_26 (by decide) (fun c9 => absurd c9 (by decide)) (fun _ => ?_)
    refine lv_aload_n hx hb dX7_boxes_29 rfl (lv_at hl 1 rfl) ?_
    refine mw_get (ci := 6) (C := RX7) (T := TX7) (N := 28) (v := .ref (ad 12)) hx hb hts hinX7 hown hK hP 0 (by decide) mF_0 rfl 15 (by decide) kf51 (fun _ h9 => h9) rfl dX7_boxes_30 ?_
    refine lv_iload_n hx hb dX7_boxes_33 rfl (lv_at hl 0 rfl) ?_
    refine lv_iconst (v := (-1)) hx hb dX7_boxes_34 (by decide) ?_
    refine mw_ist hx hb hK hj hP hS 12 (by decide) 0 mF_12 rfl 7 (by decide) (by decide) rfl dX7_boxes_35 (fun H locs hP hS => ?_)
    refine lv_iinc (v := 8) (lv' := [(3, .int 8), (0, .ref (ad 0)), (1, .int z), (2, .int w)]) hx hb dX7_boxes_36 hl (k := 0) rfl (by decide) (by decide) rfl (fun ls hl => ?_)
    refine lv_goto (tgt := 23) hx hb dX7_boxes_39 (by decide) ?_
    refine lv_iload_n hx hb dX7_boxes_23 rfl (lv_at hl 0 rfl) ?_
    refine lv_bipush (v := 20) hx hb dX7_boxes_24 (by decide) ?_
    refine lv_icmp_ge (tgt := 42) hx hb dX7_boxes_26 (by decide) (fun c9 => absurd c9 (by decide)) (fun _ => ?_)
    refine lv_aload_n hx hb dX7_boxes_29 rfl (lv_at hl 1 rfl) ?_
    refine mw_get (ci := 6) (C := RX7) (T := TX7) (N := 28) (v := .ref (ad 12)) hx hb hts hinX7 hown hK hP 0 (by decide) mF_0 rfl 15 (by decide) kf51 (fun _ h9 => h9) rfl dX7_boxes_30 ?_
    refine lv_iload_n hx hb dX7_boxes_33 rfl (lv_at hl 0 rfl) ?_
    refine lv_iconst (v := (-1)) hx hb dX7_boxes_34 (by decide) ?_
    refine mw_ist hx hb hK hj hP hS 12 (by decide) 0 mF_12 rfl 8 (by decide) (by decide) rfl dX7_boxes_35 (fun H locs hP hS => ?_)
    refine lv_iinc (v := 9) (lv' := [(3, .int 9), (0, .ref (ad 0)), (1, .int z), (2, .int w)]) hx hb dX7_boxes_36 hl (k := 0) rfl (by decide) (by decide) rfl (fun ls hl => ?_)
    refine lv_goto (tgt := 23) hx hb dX7_boxes_39 (by decide) ?_
    refine lv_iload_n hx hb dX7_boxes_23 rfl (lv_at hl 0 rfl) ?_
    refine lv_bipush (v := 20) hx hb dX7_boxes_24 (by decide) ?_
    refine lv_icmp_ge (tgt := 42) hx hb dX7_boxes_26 (by decide) (fun c9 => absurd c9 (by decide)) (fun _ => ?_)
    refine lv_aload_n hx hb dX7_boxes_29 rfl (lv_at hl 1 rfl) ?_
    refine mw_get (ci := 6) (C := RX7) (T := TX7) (N := 28) (v := .ref (ad 12)) hx hb hts hinX7 hown hK hP 0 (by decide) mF_0 rfl 15 (by decide) kf51 (fun _ h9 => h9) rfl dX7_boxes_30 ?_
    refine lv_iload_n hx hb dX7_boxes_33 rfl (lv_at hl 0 rfl) ?_
    refine lv_iconst (v := (-1)) hx hb dX7_boxes_34 (by decide) ?_
    refine mw_ist hx hb hK hj hP hS 12 (by decide) 0 mF_12 rfl 9 (by decide) (by decide) rfl dX7_boxes_35 (fun H locs hP hS => ?_)
    refine lv_iinc (v := 10) (lv' := [(3, .int 10), (0, .ref (ad 0)), (1, .int z), (2, .int w)]) hx hb dX7_boxes_36 hl (k := 0) rfl (by decide) (by decide) rfl (fun ls hl => ?_)
    refine lv_goto (tgt := 23) hx hb dX7_boxes_39 (by decide) ?_
    refine lv_iload_n hx hb dX7_boxes_23 rfl (lv_at hl 0 rfl) ?_
    refine lv_bipush (v := 20) hx hb dX7_boxes_24 (by decide) ?_
    refine lv_icmp_ge (tgt := 42) hx hb dX7_boxes_26 (by decide) (fun c9 => absurd c9 (by decide)) (fun _ => ?_)
    refine lv_aload_n hx hb dX7_boxes_29 rfl (lv_at hl 1 rfl) ?_
    refine mw_get (ci := 6) (C := RX7) (T := TX7) (N := 28) (v := .ref (ad 12)) hx hb hts hinX7 hown hK hP 0 (by decide) mF_0 rfl 15 (by decide) kf51 (fun _ h9 => h9) rfl dX7_boxes_30 ?_
    refine lv_iload_n hx hb dX7_boxes_33 rfl (lv_at hl 0 rfl) ?_
    refine lv_iconst (v := (-1)) hx hb dX7_boxes_34 (by decide) ?_
    refine mw_ist hx hb hK hj hP hS 12 (by decide) 0 mF_12 rfl 10 (by decide) (by decide) rfl dX7_boxes_35 (fun H locs hP hS => ?_)
    refine lv_iinc (v := 11) (lv' := [(3, .int 11), (0, .ref (ad 0)), (1, .int z), (2, .int w)]) hx hb dX7_boxes_36 hl (k := 0) rfl (by decide) (by decide) rfl (fun ls hl => ?_)
    refine lv_goto (tgt := 23) hx hb dX7_boxes_39 (by decide) ?_
    refine lv_iload_n hx hb dX7_boxes_23 rfl (lv_at hl 0 rfl) ?_
    refine lv_bipush (v := 20) hx hb dX7_boxes_24 (by decide) ?_
    refine lv_icmp_ge (tgt := 42) hx hb dX7_boxes_26 (by decide) (fun c9 => absurd c9 (by decide)) (fun _ => ?_)
    refine lv_aload_n hx hb dX7_boxes_29 rfl (lv_at hl 1 rfl) ?_
    refine mw_get (ci := 6) (C := RX7) (T := TX7) (N := 28) (v := .ref (ad 12)) hx hb hts hinX7 hown hK hP 0 (by decide) mF_0 rfl 15 (by decide) kf51 (fun _ h9 => h9) rfl dX7_boxes_30 ?_
    refine lv_iload_n hx hb dX7_boxes_33 rfl (lv_at hl 0 rfl) ?_
    refine lv_iconst (v := (-1)) hx hb dX7_boxes_34 (by decide) ?_
    refine mw_ist hx hb hK hj hP hS 12 (by decide) 0 mF_12 rfl 11 (by decide) (by decide) rfl dX7_boxes_35 (fun H locs hP hS => ?_)
    refine lv_iinc (v := 12) (lv' := [(3, .int 12), (0, .ref (ad 0)), (1, .int z), (2, .int w)]) hx hb dX7_boxes_36 hl (k := 0) rfl (by decide) (by decide) rfl (fun ls hl => ?_)
    refine lv_goto (tgt := 23) hx hb dX7_boxes_39 (by decide) ?_
    refine lv_iload_n hx hb dX7_boxes_23 rfl (lv_at hl 0 rfl) ?_
    refine lv_bipush (v := 20) hx hb dX7_boxes_24 (by decide) ?_
    refine lv_icmp_ge (tgt := 42) hx hb dX7_boxes_26 (by decide) (fun c9 => absurd c9 (by decide)) (fun _ => ?_)
    refine lv_aload_n hx hb dX7_boxes_29 rfl (lv_at hl 1 rfl) ?_
    refine mw_get (ci := 6) (C := RX7) (T := TX7) (N := 28) (v := .ref (ad 12)) hx hb hts hinX7 hown hK hP 0 (by decide) mF_0 rfl 15 (by decide) kf51 (fun _ h9 => h9) rfl dX7_boxes_30 ?_
    refine lv_iload_n hx hb dX7_boxes_33 rfl (lv_at hl 0 rfl) ?_
    refine lv_iconst (v := (-1)) hx hb dX7_boxes_34 (by decide) ?_
    refine mw_ist hx hb hK hj hP hS 12 (by decide) 0 mF_12 rfl 12 (by decide) (by decide) rfl dX7_boxes_35 (fun H locs hP hS => ?_)
    refine lv_iinc (v := 13) (lv' := [(3, .int 13), (0, .ref (ad 0)), (1, .int z), (2, .int w)]) hx hb dX7_boxes_36 hl (k := 0) rfl (by decide) (by decide) rfl (fun ls hl => ?_)
    refine lv_goto (tgt := 23) hx hb dX7_boxes_39 (by decide) ?_
    refine lv_iload_n hx hb dX7_boxes_23 rfl (lv_at hl 0 rfl) ?_
    refine lv_bipush (v := 20) hx hb dX7_boxes_24 (by decide) ?_
    refine lv_icmp_ge (tgt := 42) hx hb dX7_boxes_26 (by decide) (fun c9 => absurd c9 (by decide)) (fun _ => ?_)
    refine lv_aload_n hx hb dX7_boxes_29 rfl (lv_at hl 1 rfl) ?_
    refine mw_get (ci := 6) (C := RX7) (T := TX7) (N := 28) (v := .ref (ad 12)) hx hb hts hinX7 hown hK hP 0 (by decide) mF_0 rfl 15 (by decide) kf51 (fun _ h9 => h9) rfl dX7_boxes_30 ?_
    refine lv_iload_n hx hb dX7_boxes_33 rfl (lv_at hl 0 rfl) ?_
    refine lv_iconst (v := (-1)) hx hb dX7_boxes_34 (by decide) ?_
    refine mw_ist hx hb hK hj hP hS 12 (by decide) 0 mF_12 rfl 13 (by decide) (by decide) rfl dX7_boxes_35 (fun H locs hP hS => ?_)
    refine lv_iinc (v := 14) (lv' := [(3, .int 14), (0, .ref (ad 0)), (1, .int z), (2, .int w)]) hx hb dX7_boxes_36 hl (k := 0) rfl (by decide) (by decide) rfl (fun ls hl => ?_)
    refine lv_goto (tgt := 23) hx hb dX7_boxes_39 (by decide) ?_
    refine lv_iload_n hx hb dX7_boxes_23 rfl (lv_at hl 0 rfl) ?_
    refine lv_bipush (v := 20) hx hb dX7_boxes_24 (by decide) ?_
    refine lv_icmp_ge (tgt := 42) hx hb dX7_boxes_26 (by decide) (fun c9 => absurd c9 (by decide)) (fun _ => ?_)
    refine lv_aload_n hx hb dX7_boxes_29 rfl (lv_at hl 1 rfl) ?_
    refine mw_get (ci := 6) (C := RX7) (T := TX7) (N := 28) (v := .ref (ad 12)) hx hb hts hinX7 hown hK hP 0 (by decide) mF_0 rfl 15 (by decide) kf51 (fun _ h9 => h9) rfl dX7_boxes_30 ?_
    refine lv_iload_n hx hb dX7_boxes_33 rfl (lv_at hl 0 rfl) ?_
    refine lv_iconst (v := (-1)) hx hb dX7_boxes_34 (by decide) ?_
    refine mw_ist hx hb hK hj hP hS 12 (by decide) 0 mF_12 rfl 14 (by decide) (by decide) rfl dX7_boxes_35 (fun H locs hP hS => ?_)
    refine lv_iinc (v := 15) (lv' := [(3, .int 15), (0, .ref (ad 0)), (1, .int z), (2, .int w)]) hx hb dX7_boxes_36 hl (k := 0) rfl (by decide) (by decide) rfl (fun ls hl => ?_)
    refine lv_goto (tgt := 23) hx hb dX7_boxes_39 (by decide) ?_
    refine lv_iload_n hx hb dX7_boxes_23 rfl (lv_at hl 0 rfl) ?_
    refine lv_bipush (v := 20) hx hb dX7_boxes_24 (by decide) ?_
    refine lv_icmp_ge (tgt := 42) hx hb dX7_boxes_26 (by decide) (fun c9 => absurd c9 (by decide)) (fun _ => ?_)
    refine lv_aload_n hx hb dX7_boxes_29 rfl (lv_at hl 1 rfl) ?_
    refine mw_get (ci := 6) (C := RX7) (T := TX7) (N := 28) (v := .ref (ad 12)) hx hb hts hinX7 hown hK hP 0 (by decide) mF_0 rfl 15 (by decide) kf51 (fun _ h9 => h9) rfl dX7_boxes_30 ?_
    refine lv_iload_n hx hb dX7_boxes_33 rfl (lv_at hl 0 rfl) ?_
    refine lv_iconst (v := (-1)) hx hb dX7_boxes_34 (by decide) ?_
    refine mw_ist hx hb hK hj hP hS 12 (by decide) 0 mF_12 rfl 15 (by decide) (by decide) rfl dX7_boxes_35 (fun H locs hP hS => ?_)
    refine lv_iinc (v := 16) (lv' := [(3, .int 16), (0, .ref (ad 0)), (1, .int z), (2, .int w)]) hx hb dX7_boxes_36 hl (k := 0) rfl (by decide) (by decide) rfl (fun ls hl => ?_)
    refine lv_goto (tgt := 23) hx hb dX7_boxes_39 (by decide) ?_
    refine lv_iload_n hx hb dX7_boxes_23 rfl (lv_at hl 0 rfl) ?_
    refine lv_bipush (v := 20) hx hb dX7_boxes_24 (by decide) ?_
    refine lv_icmp_ge (tgt := 42) hx hb dX7_boxes_26 (by decide) (fun c9 => absurd c9 (by decide)) (fun _ => ?_)
    refine lv_aload_n hx hb dX7_boxes_29 rfl (lv_at hl 1 rfl) ?_
    refine mw_get (ci := 6) (C := RX7) (T := TX7) (N := 28) (v := .ref (ad 12)) hx hb hts hinX7 hown hK hP 0 (by decide) mF_0 rfl 15 (by decide) kf51 (fun _ h9 => h9) rfl dX7_boxes_30 ?_
    refine lv_iload_n hx hb dX7_boxes_33 rfl (lv_at hl 0 rfl) ?_
    refine lv_iconst (v := (-1)) hx hb dX7_boxes_34 (by decide) ?_
    refine mw_ist hx hb hK hj hP hS 12 (by decide) 0 mF_12 rfl 16 (by decide) (by decide) rfl dX7_boxes_35 (fun H locs hP hS => ?_)
    refine lv_iinc (v := 17) (lv' := [(3, .int 17), (0, .ref (ad 0)), (1, .int z), (2, .int w)]) hx hb dX7_boxes_36 hl (k := 0) rfl (by decide) (by decide) rfl (fun ls hl => ?_)
    refine lv_goto (tgt := 23) hx hb dX7_boxes_39 (by decide) ?_
    refine lv_iload_n hx hb dX7_boxes_23 rfl (lv_at hl 0 rfl) ?_
    refine lv_bipush (v := 20) hx hb dX7_boxes_24 (by decide) ?_
    refine lv_icmp_ge (tgt := 42) hx hb dX7_boxes_26 (by decide) (fun c9 => absurd c9 (by decide)) (fun _ => ?_)
    refine lv_aload_n hx hb dX7_boxes_29 rfl (lv_at hl 1 rfl) ?_
    refine mw_get (ci := 6) (C := RX7) (T := TX7) (N := 28) (v := .ref (ad 12)) hx hb hts hinX7 hown hK hP 0 (by decide) mF_0 rfl 15 (by decide) kf51 (fun _ h9 => h9) rfl dX7_boxes_30 ?_
    refine lv_iload_n hx hb dX7_boxes_33 rfl (lv_at hl 0 rfl) ?_
    refine lv_iconst (v := (-1)) hx hb dX7_boxes_34 (by decide) ?_
    refine mw_ist hx hb hK hj hP hS 12 (by decide) 0 mF_12 rfl 17 (by decide) (by decide) rfl dX7_boxes_35 (fun H locs hP hS => ?_)
    refine lv_iinc (v := 18) (lv' := [(3, .int 18), (0, .ref (ad 0)), (1, .int z), (2, .int w)]) hx hb dX7_boxes_36 hl (k := 0) rfl (by decide) (by decide) rfl (fun ls hl => ?_)
    refine lv_goto (tgt := 23) hx hb dX7_boxes_39 (by decide) ?_
    refine lv_iload_n hx hb dX7_boxes_23 rfl (lv_at hl 0 rfl) ?_
    refine lv_bipush (v := 20) hx hb dX7_boxes_24 (by decide) ?_
    refine lv_icmp_ge (tgt := 42) hx hb dX7_boxes_26 (by decide) (fun c9 => absurd c9 (by decide)) (fun _ => ?_)
    refine lv_aload_n hx hb dX7_boxes_29 rfl (lv_at hl 1 rfl) ?_
    refine mw_get (ci := 6) (C := RX7) (T := TX7) (N := 28) (v := .ref (ad 12)) hx hb hts hinX7 hown hK hP 0 (by decide) mF_0 rfl 15 (by decide) kf51 (fun _ h9 => h9) rfl dX7_boxes_30 ?_
    refine lv_iload_n hx hb dX7_boxes_33 rfl (lv_at hl 0 rfl) ?_
    refine lv_iconst (v := (-1)) hx hb dX7_boxes_34 (by decide) ?_
    refine mw_ist hx hb hK hj hP hS 12 (by decide) 0 mF_12 rfl 18 (by decide) (by decide) rfl dX7_boxes_35 (fun H locs hP hS => ?_)
    refine lv_iinc (v := 19) (lv' := [(3, .int 19), (0, .ref (ad 0)), (1, .int z), (2, .int w)]) hx hb dX7_boxes_36 hl (k := 0) rfl (by decide) (by decide) rfl (fun ls hl => ?_)
    refine lv_goto (tgt := 23) hx hb dX7_boxes_39 (by decide) ?_
    refine lv_iload_n hx hb dX7_boxes_23 rfl (lv_at hl 0 rfl) ?_
    refine lv_bipush (v := 20) hx hb dX7_boxes_24 (by decide) ?_
    refine lv_icmp_ge (tgt := 42) hx hb dX7_boxes_26 (by decide) (fun c9 => absurd c9 (by decide)) (fun _ => ?_)
    refine lv_aload_n hx hb dX7_boxes_29 rfl (lv_at hl 1 rfl) ?_
    refine mw_get (ci := 6) (C := RX7) (T := TX7) (N := 28) (v := .ref (ad 12)) hx hb hts hinX7 hown hK hP 0 (by decide) mF_0 rfl 15 (by decide) kf51 (fun _ h9 => h9) rfl dX7_boxes_30 ?_
    refine lv_iload_n hx hb dX7_boxes_33 rfl (lv_at hl 0 rfl) ?_
    refine lv_iconst (v := (-1)) hx hb dX7_boxes_34 (by decide) ?_
    refine mw_ist hx hb hK hj hP hS 12 (by decide) 0 mF_12 rfl 19 (by decide) (by decide) rfl dX7_boxes_35 (fun H locs hP hS => ?_)
    refine lv_iinc (v := 20) (lv' := [(3, .int 20), (0, .ref (ad 0)), (1, .int z), (2, .int w)]) hx hb dX7_boxes_36 hl (k := 0) rfl (by decide) (by decide) rfl (fun ls hl => ?_)
    refine lv_goto (tgt := 23) hx hb dX7_boxes_39 (by decide) ?_
    refine lv_iload_n hx hb dX7_boxes_23 rfl (lv_at hl 0 rfl) ?_
    refine lv_bipush (v := 20) hx hb dX7_boxes_24 (by decide) ?_
    refine lv_icmp_ge (tgt := 42) hx hb dX7_boxes_26 (by decide) (fun _ => ?_) (fun c9 => absurd c9 (by decide))
    refine lv_iconst (v := 0) hx hb dX7_boxes_42 (by decide) ?_
    exact g_iret hx hb hr hlocks hP hS dX7_boxes_43 (by unfold mBoxes; rw [if_pos c_1] <;> rfl)
  · skip
    refine lv_aload_n hx hb dX7_boxes_4 rfl (lv_at hl 0 rfl) ?_
    refine lv_bipush (v := 6) hx hb dX7_boxes_5 (by decide) ?_
    refine g_callV (As := [.int 6]) (rest := []) (N := 28) (T := TX7) (ci := 6) ⟨hx, hb, hml, hown, hts⟩ 0 (m_fails l D cy ad wy mt hj σ 6 ) (cwV 1 hts gX7_boxes_X7_fails rfl rfl rfl (by decide +kernel) ⟨by decide, by decide⟩) h0 hP hS (by decide) mF_0 rfl rfl rfl hl.1 (Nat.le_of_ble_eq_true rfl) dX7_boxes_7 ⟨Nat.zero_le _, Nat.zero_le _⟩ (fun H locs hP hS => ?_)
    exact g_iret hx hb hr hlocks hP hS dX7_boxes_10 (by unfold mBoxes; rw [if_neg c_1] <;> rfl)

def mGrids (σ : Mem) (z w : Int32) : Int32 × Mem :=
  if z < 0 then mFail σ 6
  else if 0 ≤ w then (0, mset (mset σ 0 16 z) 0 17 w)
  else mFail σ 6
set_option maxHeartbeats 4000000 in
set_option maxRecDepth 100000 in
theorem m_grids (l : Launch) (D : va_G) (cy : Nat → ClassId) (ad wy : Nat → Nat) (mt : Nat) (hj : mJ 18 ad) (σ : Mem) (z w : Int32)  : Met l yX7_grids wsX7_grids ({ frames := 2, cells := 0, slots := 0, locals := 43 }) (va_Pc [.ref (ad 0), .int z, .int w] (gPre 18 ad (mF ad cy) D cy wy mt σ)) (gQ 18 ad (mF ad cy) D (some (.int (mGrids σ z w).1)) (mGrids σ z w).2) 0 0 (mA 18 ad) := by
  refine g_met (cc := cX7_grids) (maxL := 3) (ret := (some .int)) (by decide) rfl (Nat.le_of_ble_eq_true rfl) ?_
  intro p e s m below meth c S hr hlocks h0 ls hl
  obtain ⟨hx, hb, hml, hown, hts⟩ := S
  have hP := h0.1
  have hK := h0.2.1
  have hS : va_S (mA 18 ad) s.heap s.heap [] := va_S.rf
  have hl : lv_has ls 3 [(0, .ref (ad 0)), (1, .int z), (2, .int w)] := hl
  have kf54 : (Cond.fieldLink RX7 54 "BenchRunsModel" "gridRows" "I").before (#[.ref (ad 0), .int z, .int w] : Array Value) s = true := hts _ (by decide +kernel)
  have hinX7 : ∀ w ∈ u_ws RX7 TX7 28, w ∈ wsX7_grids := by decide +kernel
  have kf87 : (Cond.fieldLink RX7 87 "BenchRunsModel" "gridWide" "I").before (#[.ref (ad 0), .int z, .int w] : Array Value) s = true := hts _ (by decide +kernel)
  refine lv_iload_n hx hb dX7_grids_0 rfl (lv_at hl 1 rfl) ?_
  refine lv_if_lt (tgt := 8) hx hb dX7_grids_1 (by decide) (fun c_1 => ?_) (fun c_1 => ?_)
  · skip
    refine lv_aload_n hx hb dX7_grids_8 rfl (lv_at hl 0 rfl) ?_
    refine lv_bipush (v := 6) hx hb dX7_grids_9 (by decide) ?_
    refine g_callV (As := [.int 6]) (rest := []) (N := 28) (T := TX7) (ci := 6) ⟨hx, hb, hml, hown, hts⟩ 0 (m_fails l D cy ad wy mt hj σ 6 ) (cwV 1 hts gX7_grids_X7_fails rfl rfl rfl (by decide +kernel) ⟨by decide, by decide⟩) h0 hP hS (by decide) mF_0 rfl rfl rfl hl.1 (Nat.le_of_ble_eq_true rfl) dX7_grids_11 ⟨Nat.zero_le _, Nat.zero_le _⟩ (fun H locs hP hS => ?_)
    exact g_iret hx hb hr hlocks hP hS dX7_grids_14 (by unfold mGrids; rw [if_pos c_1] <;> rfl)
  · skip
    refine lv_iload_n hx hb dX7_grids_4 rfl (lv_at hl 2 rfl) ?_
    refine lv_if_ge (tgt := 15) hx hb dX7_grids_5 (by decide) (fun c_2 => ?_) (fun c_2 => ?_)
    · skip
      refine lv_aload_n hx hb dX7_grids_15 rfl (lv_at hl 0 rfl) ?_
      refine lv_iload_n hx hb dX7_grids_16 rfl (lv_at hl 1 rfl) ?_
      refine mw_put (ci := 6) (C := RX7) (T := TX7) (N := 28) (v := z) (ty := .int) hx hb hts hinX7 tyX7 tyX7_ok nmX7 hown hK hj hP hS 0 (by decide) mF_0 rfl 16 (by decide) kf54 (fun _ h9 => h9) rfl (by decide +kernel) rfl rfl (Nat.le_of_ble_eq_true rfl) rfl dX7_grids_17 (fun H locs hP hS => ?_)
      refine lv_aload_n hx hb dX7_grids_20 rfl (lv_at hl 0 rfl) ?_
      refine lv_iload_n hx hb dX7_grids_21 rfl (lv_at hl 2 rfl) ?_
      refine mw_put (ci := 6) (C := RX7) (T := TX7) (N := 28) (v := w) (ty := .int) hx hb hts hinX7 tyX7 tyX7_ok nmX7 hown hK hj hP hS 0 (by decide) mF_0 rfl 17 (by decide) kf87 (fun _ h9 => h9) rfl (by decide +kernel) rfl rfl (Nat.le_of_ble_eq_true rfl) rfl dX7_grids_22 (fun H locs hP hS => ?_)
      refine lv_iconst (v := 0) hx hb dX7_grids_25 (by decide) ?_
      exact g_iret hx hb hr hlocks hP hS dX7_grids_26 (by unfold mGrids; rw [if_neg c_1, if_pos c_2] <;> rfl)
    · skip
      refine lv_aload_n hx hb dX7_grids_8 rfl (lv_at hl 0 rfl) ?_
      refine lv_bipush (v := 6) hx hb dX7_grids_9 (by decide) ?_
      refine g_callV (As := [.int 6]) (rest := []) (N := 28) (T := TX7) (ci := 6) ⟨hx, hb, hml, hown, hts⟩ 0 (m_fails l D cy ad wy mt hj σ 6 ) (cwV 1 hts gX7_grids_X7_fails rfl rfl rfl (by decide +kernel) ⟨by decide, by decide⟩) h0 hP hS (by decide) mF_0 rfl rfl rfl hl.1 (Nat.le_of_ble_eq_true rfl) dX7_grids_11 ⟨Nat.zero_le _, Nat.zero_le _⟩ (fun H locs hP hS => ?_)
      exact g_iret hx hb hr hlocks hP hS dX7_grids_14 (by unfold mGrids; rw [if_neg c_1, if_neg c_2] <;> rfl)

def mPut (σ : Mem) (t pl : Nat) : Int32 × Mem :=
  if nI t ≤ 5 then (if 0 ≤ σ 0 13 then (if nI pl < σ 0 13 then (if σ 9 t < 0 then (if 0 ≤ σ 9 t then (0, mset σ 12 pl (nI t))
          else (0, mset σ 12 pl (-1)))
        else if 2 ≤ σ 0 14 then (if 0 ≤ σ 9 t then (0, mset σ 12 pl (nI t))
          else (0, mset σ 12 pl (-1)))
        else if σ 9 t = σ 0 14 then (if 0 ≤ σ 9 t then (0, mset σ 12 pl (nI t))
          else (0, mset σ 12 pl (-1)))
        else mFail σ 8)
      else mFail σ 4)
    else mFail σ 5)
  else mFail σ 4
set_option maxHeartbeats 4000000 in
set_option maxRecDepth 100000 in
theorem m_puts (l : Launch) (D : va_G) (cy : Nat → ClassId) (ad wy : Nat → Nat) (mt : Nat) (hj : mJ 18 ad) (σ : Mem) (t pl : Nat) (ht : t ≤ 200) (hpl : pl ≤ 200) (hbx : nI pl < σ 0 13 → pl < 18) : Met l yX7_puts wsX7_puts ({ frames := 2, cells := 0, slots := 0, locals := 43 }) (va_Pc [.ref (ad 0), .int (nI t), .int (nI pl)] (gPre 18 ad (mF ad cy) D cy wy mt σ)) (gQ 18 ad (mF ad cy) D (some (.int (mPut σ t pl).1)) (mPut σ t pl).2) 0 0 (mA 18 ad) := by
  refine g_met (cc := cX7_puts) (maxL := 3) (ret := (some .int)) (by decide) rfl (Nat.le_of_ble_eq_true rfl) ?_
  intro p e s m below meth c S hr hlocks h0 ls hl
  obtain ⟨hx, hb, hml, hown, hts⟩ := S
  have hP := h0.1
  have hK := h0.2.1
  have hS : va_S (mA 18 ad) s.heap s.heap [] := va_S.rf
  have hl : lv_has ls 3 [(0, .ref (ad 0)), (1, .int (nI t)), (2, .int (nI pl))] := hl
  have kf48 : (Cond.fieldLink RX7 48 "BenchRunsModel" "boxSize" "I").before (#[.ref (ad 0), .int (nI t), .int (nI pl)] : Array Value) s = true := hts _ (by decide +kernel)
  have hinX7 : ∀ w ∈ u_ws RX7 TX7 28, w ∈ wsX7_puts := by decide +kernel
  have kf35 : (Cond.fieldLink RX7 35 "BenchRunsModel" "sort" "[I").before (#[.ref (ad 0), .int (nI t), .int (nI pl)] : Array Value) s = true := hts _ (by decide +kernel)
  have kf51 : (Cond.fieldLink RX7 51 "BenchRunsModel" "box" "[I").before (#[.ref (ad 0), .int (nI t), .int (nI pl)] : Array Value) s = true := hts _ (by decide +kernel)
  have kf100 : (Cond.fieldLink RX7 100 "BenchRunsModel" "boxSort" "I").before (#[.ref (ad 0), .int (nI t), .int (nI pl)] : Array Value) s = true := hts _ (by decide +kernel)
  refine lv_iload_n hx hb dX7_puts_0 rfl (lv_at hl 1 rfl) ?_
  refine lv_iconst (v := 5) hx hb dX7_puts_1 (by decide) ?_
  refine lv_icmp_le (tgt := 11) hx hb dX7_puts_2 (by decide) (fun c_1 => ?_) (fun c_1 => ?_)
  · skip
    have ht6 : t ≤ 5 := (nI_leI (b := 5) (by omega) (by decide)).mp c_1
    refine lv_aload_n hx hb dX7_puts_11 rfl (lv_at hl 0 rfl) ?_
    refine mw_get (ci := 6) (C := RX7) (T := TX7) (N := 28) (v := .int (σ 0 13)) hx hb hts hinX7 hown hK hP 0 (by decide) mF_0 rfl 13 (by decide) kf48 (fun _ h9 => h9) rfl dX7_puts_12 ?_
    refine lv_if_ge (tgt := 24) hx hb dX7_puts_15 (by decide) (fun c_2 => ?_) (fun c_2 => ?_)
    · skip
      refine lv_iload_n hx hb dX7_puts_24 rfl (lv_at hl 2 rfl) ?_
      refine lv_aload_n hx hb dX7_puts_25 rfl (lv_at hl 0 rfl) ?_
      refine mw_get (ci := 6) (C := RX7) (T := TX7) (N := 28) (v := .int (σ 0 13)) hx hb hts hinX7 hown hK hP 0 (by decide) mF_0 rfl 13 (by decide) kf48 (fun _ h9 => h9) rfl dX7_puts_26 ?_
      refine lv_icmp_lt (tgt := 38) hx hb dX7_puts_29 (by decide) (fun c_3 => ?_) (fun c_3 => ?_)
      · skip
        have hp18 : pl < 18 := hbx c_3
        refine lv_aload_n hx hb dX7_puts_38 rfl (lv_at hl 0 rfl) ?_
        refine mw_get (ci := 6) (C := RX7) (T := TX7) (N := 28) (v := .ref (ad 9)) hx hb hts hinX7 hown hK hP 0 (by decide) mF_0 rfl 9 (by decide) kf35 (fun _ h9 => h9) rfl dX7_puts_39 ?_
        refine lv_iload_n hx hb dX7_puts_42 rfl (lv_at hl 1 rfl) ?_
        refine mw_ild hx hb hK hP 9 (by decide) 0 mF_9 rfl t (by omega) (by decide) rfl dX7_puts_43 ?_
        refine lv_if_lt (tgt := 75) hx hb dX7_puts_44 (by decide) (fun c_4 => ?_) (fun c_4 => ?_)
        · skip
          refine lv_aload_n hx hb dX7_puts_75 rfl (lv_at hl 0 rfl) ?_
          refine mw_get (ci := 6) (C := RX7) (T := TX7) (N := 28) (v := .ref (ad 12)) hx hb hts hinX7 hown hK hP 0 (by decide) mF_0 rfl 15 (by decide) kf51 (fun _ h9 => h9) rfl dX7_puts_76 ?_
          refine lv_iload_n hx hb dX7_puts_79 rfl (lv_at hl 2 rfl) ?_
          refine lv_aload_n hx hb dX7_puts_80 rfl (lv_at hl 0 rfl) ?_
          refine mw_get (ci := 6) (C := RX7) (T := TX7) (N := 28) (v := .ref (ad 9)) hx hb hts hinX7 hown hK hP 0 (by decide) mF_0 rfl 9 (by decide) kf35 (fun _ h9 => h9) rfl dX7_puts_81 ?_
          refine lv_iload_n hx hb dX7_puts_84 rfl (lv_at hl 1 rfl) ?_
          refine mw_ild hx hb hK hP 9 (by decide) 0 mF_9 rfl t (by omega) (by decide) rfl dX7_puts_85 ?_
          refine lv_if_ge (tgt := 93) hx hb dX7_puts_86 (by decide) (fun c_5 => ?_) (fun c_5 => ?_)
          · skip
            refine lv_iload_n hx hb dX7_puts_93 rfl (lv_at hl 1 rfl) ?_
            refine mw_ist hx hb hK hj hP hS 12 (by decide) 0 mF_12 rfl pl (by omega) (by decide) rfl dX7_puts_94 (fun H locs hP hS => ?_)
            refine lv_iconst (v := 0) hx hb dX7_puts_95 (by decide) ?_
            exact g_iret hx hb hr hlocks hP hS dX7_puts_96 (by unfold mPut; rw [if_pos c_1, if_pos c_2, if_pos c_3, if_pos c_4, if_pos c_5] <;> rfl)
          · skip
            refine lv_iconst (v := (-1)) hx hb dX7_puts_89 (by decide) ?_
            refine lv_goto (tgt := 94) hx hb dX7_puts_90 (by decide) ?_
            refine mw_ist hx hb hK hj hP hS 12 (by decide) 0 mF_12 rfl pl (by omega) (by decide) rfl dX7_puts_94 (fun H locs hP hS => ?_)
            refine lv_iconst (v := 0) hx hb dX7_puts_95 (by decide) ?_
            exact g_iret hx hb hr hlocks hP hS dX7_puts_96 (by unfold mPut; rw [if_pos c_1, if_pos c_2, if_pos c_3, if_pos c_4, if_neg c_5] <;> rfl)
        · skip
          refine lv_aload_n hx hb dX7_puts_47 rfl (lv_at hl 0 rfl) ?_
          refine mw_get (ci := 6) (C := RX7) (T := TX7) (N := 28) (v := .int (σ 0 14)) hx hb hts hinX7 hown hK hP 0 (by decide) mF_0 rfl 14 (by decide) kf100 (fun _ h9 => h9) rfl dX7_puts_48 ?_
          refine lv_iconst (v := 2) hx hb dX7_puts_51 (by decide) ?_
          refine lv_icmp_ge (tgt := 75) hx hb dX7_puts_52 (by decide) (fun c_6 => ?_) (fun c_6 => ?_)
          · skip
            refine lv_aload_n hx hb dX7_puts_75 rfl (lv_at hl 0 rfl) ?_
            refine mw_get (ci := 6) (C := RX7) (T := TX7) (N := 28) (v := .ref (ad 12)) hx hb hts hinX7 hown hK hP 0 (by decide) mF_0 rfl 15 (by decide) kf51 (fun _ h9 => h9) rfl dX7_puts_76 ?_
            refine lv_iload_n hx hb dX7_puts_79 rfl (lv_at hl 2 rfl) ?_
            refine lv_aload_n hx hb dX7_puts_80 rfl (lv_at hl 0 rfl) ?_
            refine mw_get (ci := 6) (C := RX7) (T := TX7) (N := 28) (v := .ref (ad 9)) hx hb hts hinX7 hown hK hP 0 (by decide) mF_0 rfl 9 (by decide) kf35 (fun _ h9 => h9) rfl dX7_puts_81 ?_
            refine lv_iload_n hx hb dX7_puts_84 rfl (lv_at hl 1 rfl) ?_
            refine mw_ild hx hb hK hP 9 (by decide) 0 mF_9 rfl t (by omega) (by decide) rfl dX7_puts_85 ?_
            refine lv_if_ge (tgt := 93) hx hb dX7_puts_86 (by decide) (fun c_7 => ?_) (fun c_7 => ?_)
            · skip
              refine lv_iload_n hx hb dX7_puts_93 rfl (lv_at hl 1 rfl) ?_
              refine mw_ist hx hb hK hj hP hS 12 (by decide) 0 mF_12 rfl pl (by omega) (by decide) rfl dX7_puts_94 (fun H locs hP hS => ?_)
              refine lv_iconst (v := 0) hx hb dX7_puts_95 (by decide) ?_
              exact g_iret hx hb hr hlocks hP hS dX7_puts_96 (by unfold mPut; rw [if_pos c_1, if_pos c_2, if_pos c_3, if_neg c_4, if_pos c_6, if_pos c_7] <;> rfl)
            · skip
              refine lv_iconst (v := (-1)) hx hb dX7_puts_89 (by decide) ?_
              refine lv_goto (tgt := 94) hx hb dX7_puts_90 (by decide) ?_
              refine mw_ist hx hb hK hj hP hS 12 (by decide) 0 mF_12 rfl pl (by omega) (by decide) rfl dX7_puts_94 (fun H locs hP hS => ?_)
              refine lv_iconst (v := 0) hx hb dX7_puts_95 (by decide) ?_
              exact g_iret hx hb hr hlocks hP hS dX7_puts_96 (by unfold mPut; rw [if_pos c_1, if_pos c_2, if_pos c_3, if_neg c_4, if_pos c_6, if_neg c_7] <;> rfl)
          · skip
            refine lv_aload_n hx hb dX7_puts_55 rfl (lv_at hl 0 rfl) ?_
            refine mw_get (ci := 6) (C := RX7) (T := TX7) (N := 28) (v := .ref (ad 9)) hx hb hts hinX7 hown hK hP 0 (by decide) mF_0 rfl 9 (by decide) kf35 (fun _ h9 => h9) rfl dX7_puts_56 ?_
            refine lv_iload_n hx hb dX7_puts_59 rfl (lv_at hl 1 rfl) ?_
            refine mw_ild hx hb hK hP 9 (by decide) 0 mF_9 rfl t (by omega) (by decide) rfl dX7_puts_60 ?_
            refine lv_aload_n hx hb dX7_puts_61 rfl (lv_at hl 0 rfl) ?_
            refine mw_get (ci := 6) (C := RX7) (T := TX7) (N := 28) (v := .int (σ 0 14)) hx hb hts hinX7 hown hK hP 0 (by decide) mF_0 rfl 14 (by decide) kf100 (fun _ h9 => h9) rfl dX7_puts_62 ?_
            refine lv_icmp_eq (tgt := 75) hx hb dX7_puts_65 (by decide) (fun c_8 => ?_) (fun c_8 => ?_)
            · skip
              refine lv_aload_n hx hb dX7_puts_75 rfl (lv_at hl 0 rfl) ?_
              refine mw_get (ci := 6) (C := RX7) (T := TX7) (N := 28) (v := .ref (ad 12)) hx hb hts hinX7 hown hK hP 0 (by decide) mF_0 rfl 15 (by decide) kf51 (fun _ h9 => h9) rfl dX7_puts_76 ?_
              refine lv_iload_n hx hb dX7_puts_79 rfl (lv_at hl 2 rfl) ?_
              refine lv_aload_n hx hb dX7_puts_80 rfl (lv_at hl 0 rfl) ?_
              refine mw_get (ci := 6) (C := RX7) (T := TX7) (N := 28) (v := .ref (ad 9)) hx hb hts hinX7 hown hK hP 0 (by decide) mF_0 rfl 9 (by decide) kf35 (fun _ h9 => h9) rfl dX7_puts_81 ?_
              refine lv_iload_n hx hb dX7_puts_84 rfl (lv_at hl 1 rfl) ?_
              refine mw_ild hx hb hK hP 9 (by decide) 0 mF_9 rfl t (by omega) (by decide) rfl dX7_puts_85 ?_
              refine lv_if_ge (tgt := 93) hx hb dX7_puts_86 (by decide) (fun c_9 => ?_) (fun c_9 => ?_)
              · skip
                refine lv_iload_n hx hb dX7_puts_93 rfl (lv_at hl 1 rfl) ?_
                refine mw_ist hx hb hK hj hP hS 12 (by decide) 0 mF_12 rfl pl (by omega) (by decide) rfl dX7_puts_94 (fun H locs hP hS => ?_)
                refine lv_iconst (v := 0) hx hb dX7_puts_95 (by decide) ?_
                exact g_iret hx hb hr hlocks hP hS dX7_puts_96 (by unfold mPut; rw [if_pos c_1, if_pos c_2, if_pos c_3, if_neg c_4, if_neg c_6, if_pos c_8, if_pos c_9] <;> rfl)
              · skip
                refine lv_iconst (v := (-1)) hx hb dX7_puts_89 (by decide) ?_
                refine lv_goto (tgt := 94) hx hb dX7_puts_90 (by decide) ?_
                refine mw_ist hx hb hK hj hP hS 12 (by decide) 0 mF_12 rfl pl (by omega) (by decide) rfl dX7_puts_94 (fun H locs hP hS => ?_)
                refine lv_iconst (v := 0) hx hb dX7_puts_95 (by decide) ?_
                exact g_iret hx hb hr hlocks hP hS dX7_puts_96 (by unfold mPut; rw [if_pos c_1, if_pos c_2, if_pos c_3, if_neg c_4, if_neg c_6, if_pos c_8, if_neg c_9] <;> rfl)
            · skip
              refine lv_aload_n hx hb dX7_puts_68 rfl (lv_at hl 0 rfl) ?_
              refine lv_bipush (v := 8) hx hb dX7_puts_69 (by decide) ?_
              refine g_callV (As := [.int 8]) (rest := []) (N := 28) (T := TX7) (ci := 6) ⟨hx, hb, hml, hown, hts⟩ 0 (m_fails l D cy ad wy mt hj σ 8 ) (cwV 1 hts gX7_puts_X7_fails rfl rfl rfl (by decide +kernel) ⟨by decide, by decide⟩) h0 hP hS (by decide) mF_0 rfl rfl rfl hl.1 (Nat.le_of_ble_eq_true rfl) dX7_puts_71 ⟨Nat.zero_le _, Nat.zero_le _⟩ (fun H locs hP hS => ?_)
              exact g_iret hx hb hr hlocks hP hS dX7_puts_74 (by unfold mPut; rw [if_pos c_1, if_pos c_2, if_pos c_3, if_neg c_4, if_neg c_6, if_neg c_8] <;> rfl)
      · skip
        refine lv_aload_n hx hb dX7_puts_32 rfl (lv_at hl 0 rfl) ?_
        refine lv_iconst (v := 4) hx hb dX7_puts_33 (by decide) ?_
        refine g_callV (As := [.int 4]) (rest := []) (N := 28) (T := TX7) (ci := 6) ⟨hx, hb, hml, hown, hts⟩ 0 (m_fails l D cy ad wy mt hj σ 4 ) (cwV 1 hts gX7_puts_X7_fails rfl rfl rfl (by decide +kernel) ⟨by decide, by decide⟩) h0 hP hS (by decide) mF_0 rfl rfl rfl hl.1 (Nat.le_of_ble_eq_true rfl) dX7_puts_34 ⟨Nat.zero_le _, Nat.zero_le _⟩ (fun H locs hP hS => ?_)
        exact g_iret hx hb hr hlocks hP hS dX7_puts_37 (by unfold mPut; rw [if_pos c_1, if_pos c_2, if_neg c_3] <;> rfl)
    · skip
      refine lv_aload_n hx hb dX7_puts_18 rfl (lv_at hl 0 rfl) ?_
      refine lv_iconst (v := 5) hx hb dX7_puts_19 (by decide) ?_
      refine g_callV (As := [.int 5]) (rest := []) (N := 28) (T := TX7) (ci := 6) ⟨hx, hb, hml, hown, hts⟩ 0 (m_fails l D cy ad wy mt hj σ 5 ) (cwV 1 hts gX7_puts_X7_fails rfl rfl rfl (by decide +kernel) ⟨by decide, by decide⟩) h0 hP hS (by decide) mF_0 rfl rfl rfl hl.1 (Nat.le_of_ble_eq_true rfl) dX7_puts_20 ⟨Nat.zero_le _, Nat.zero_le _⟩ (fun H locs hP hS => ?_)
      exact g_iret hx hb hr hlocks hP hS dX7_puts_23 (by unfold mPut; rw [if_pos c_1, if_neg c_2] <;> rfl)
  · skip
    refine lv_aload_n hx hb dX7_puts_5 rfl (lv_at hl 0 rfl) ?_
    refine lv_iconst (v := 4) hx hb dX7_puts_6 (by decide) ?_
    refine g_callV (As := [.int 4]) (rest := []) (N := 28) (T := TX7) (ci := 6) ⟨hx, hb, hml, hown, hts⟩ 0 (m_fails l D cy ad wy mt hj σ 4 ) (cwV 1 hts gX7_puts_X7_fails rfl rfl rfl (by decide +kernel) ⟨by decide, by decide⟩) h0 hP hS (by decide) mF_0 rfl rfl rfl hl.1 (Nat.le_of_ble_eq_true rfl) dX7_puts_7 ⟨Nat.zero_le _, Nat.zero_le _⟩ (fun H locs hP hS => ?_)
    exact g_iret hx hb hr hlocks hP hS dX7_puts_10 (by unfold mPut; rw [if_neg c_1] <;> rfl)

def mCount (σ : Mem) (v : Nat) (n : Int32) : Int32 × Mem :=
  if n = 0 then (if 0 ≤ σ 0 12 then mMore σ v (σ 0 12)
    else mFail σ 5)
  else if n = 1 then (if 0 ≤ σ 0 13 then mMore σ v (σ 0 13)
    else mFail σ 5)
  else if 0 ≤ σ 0 16 then mMore σ v (σ 0 16)
  else mFail σ 5
set_option maxHeartbeats 4000000 in
set_option maxRecDepth 100000 in
theorem m_counts (l : Launch) (D : va_G) (cy : Nat → ClassId) (ad wy : Nat → Nat) (mt : Nat) (hj : mJ 18 ad) (σ : Mem) (v : Nat) (hv : v < 8) (n : Int32)  : Met l yX7_counts wsX7_counts ({ frames := 3, cells := 0, slots := 0, locals := 65 }) (va_Pc [.ref (ad 0), .int (nI v), .int n] (gPre 18 ad (mF ad cy) D cy wy mt σ)) (gQ 18 ad (mF ad cy) D (some (.int (mCount σ v n).1)) (mCount σ v n).2) 0 0 (mA 18 ad) := by
  refine g_met (cc := cX7_counts) (maxL := 4) (ret := (some .int)) (by decide) rfl (Nat.le_of_ble_eq_true rfl) ?_
  intro p e s m below meth c S hr hlocks h0 ls hl
  obtain ⟨hx, hb, hml, hown, hts⟩ := S
  have hP := h0.1
  have hK := h0.2.1
  have hS : va_S (mA 18 ad) s.heap s.heap [] := va_S.rf
  have hl : lv_has ls 4 [(0, .ref (ad 0)), (1, .int (nI v)), (2, .int n)] := hl
  have kf54 : (Cond.fieldLink RX7 54 "BenchRunsModel" "gridRows" "I").before (#[.ref (ad 0), .int (nI v), .int n] : Array Value) s = true := hts _ (by decide +kernel)
  have hinX7 : ∀ w ∈ u_ws RX7 TX7 28, w ∈ wsX7_counts := by decide +kernel
  have kf48 : (Cond.fieldLink RX7 48 "BenchRunsModel" "boxSize" "I").before (#[.ref (ad 0), .int (nI v), .int n] : Array Value) s = true := hts _ (by decide +kernel)
  have kf44 : (Cond.fieldLink RX7 44 "BenchRunsModel" "rack" "I").before (#[.ref (ad 0), .int (nI v), .int n] : Array Value) s = true := hts _ (by decide +kernel)
  refine lv_iload_n hx hb dX7_counts_0 rfl (lv_at hl 2 rfl) ?_
  refine lv_if_ne (tgt := 11) hx hb dX7_counts_1 (by decide) (fun c_1 => ?_) (fun c_1 => ?_)
  · skip
    refine lv_iload_n hx hb dX7_counts_11 rfl (lv_at hl 2 rfl) ?_
    refine lv_iconst (v := 1) hx hb dX7_counts_12 (by decide) ?_
    refine lv_icmp_ne (tgt := 23) hx hb dX7_counts_13 (by decide) (fun c_2 => ?_) (fun c_2 => ?_)
    · skip
      refine lv_aload_n hx hb dX7_counts_23 rfl (lv_at hl 0 rfl) ?_
      refine mw_get (ci := 6) (C := RX7) (T := TX7) (N := 28) (v := .int (σ 0 16)) hx hb hts hinX7 hown hK hP 0 (by decide) mF_0 rfl 16 (by decide) kf54 (fun _ h9 => h9) rfl dX7_counts_24 ?_
      refine lv_istore_n (lv' := [(3, .int (σ 0 16)), (0, .ref (ad 0)), (1, .int (nI v)), (2, .int n)]) hx hb dX7_counts_27 rfl hl (by decide) rfl (fun ls hl => ?_)
      refine lv_iload_n hx hb dX7_counts_28 rfl (lv_at hl 0 rfl) ?_
      refine lv_if_ge (tgt := 40) hx hb dX7_counts_29 (by decide) (fun c_3 => ?_) (fun c_3 => ?_)
      · skip
        refine lv_aload_n hx hb dX7_counts_40 rfl (lv_at hl 1 rfl) ?_
        refine lv_iload_n hx hb dX7_counts_41 rfl (lv_at hl 2 rfl) ?_
        refine lv_iload_n hx hb dX7_counts_42 rfl (lv_at hl 0 rfl) ?_
        refine g_callV (As := [.int (nI v), .int (σ 0 16)]) (rest := []) (N := 28) (T := TX7) (ci := 6) ⟨hx, hb, hml, hown, hts⟩ 0 (m_more l D cy ad wy mt hj σ v (by omega) (σ 0 16)) (cwV 2 hts gX7_counts_X7_more rfl rfl rfl (by decide +kernel) ⟨by decide, by decide⟩) h0 hP hS (by decide) mF_0 rfl rfl rfl hl.1 (Nat.le_of_ble_eq_true rfl) dX7_counts_43 ⟨Nat.zero_le _, Nat.zero_le _⟩ (fun H locs hP hS => ?_)
        exact g_iret hx hb hr hlocks hP hS dX7_counts_46 (by unfold mCount; rw [if_neg c_1, if_neg c_2, if_pos c_3] <;> rfl)
      · skip
        refine lv_aload_n hx hb dX7_counts_32 rfl (lv_at hl 1 rfl) ?_
        refine lv_iconst (v := 5) hx hb dX7_counts_33 (by decide) ?_
        refine g_callV (As := [.int 5]) (rest := []) (N := 28) (T := TX7) (ci := 6) ⟨hx, hb, hml, hown, hts⟩ 0 (m_fails l D cy ad wy mt hj σ 5 ) (cwV 1 hts gX7_counts_X7_fails rfl rfl rfl (by decide +kernel) ⟨by decide, by decide⟩) h0 hP hS (by decide) mF_0 rfl rfl rfl hl.1 (Nat.le_of_ble_eq_true rfl) dX7_counts_34 ⟨Nat.zero_le _, Nat.zero_le _⟩ (fun H locs hP hS => ?_)
        refine lv_goto (tgt := 46) hx hb dX7_counts_37 (by decide) ?_
        exact g_iret hx hb hr hlocks hP hS dX7_counts_46 (by unfold mCount; rw [if_neg c_1, if_neg c_2, if_neg c_3] <;> rfl)
    · skip
      refine lv_aload_n hx hb dX7_counts_16 rfl (lv_at hl 0 rfl) ?_
      refine mw_get (ci := 6) (C := RX7) (T := TX7) (N := 28) (v := .int (σ 0 13)) hx hb hts hinX7 hown hK hP 0 (by decide) mF_0 rfl 13 (by decide) kf48 (fun _ h9 => h9) rfl dX7_counts_17 ?_
      refine lv_goto (tgt := 27) hx hb dX7_counts_20 (by decide) ?_
      refine lv_istore_n (lv' := [(3, .int (σ 0 13)), (0, .ref (ad 0)), (1, .int (nI v)), (2, .int n)]) hx hb dX7_counts_27 rfl hl (by decide) rfl (fun ls hl => ?_)
      refine lv_iload_n hx hb dX7_counts_28 rfl (lv_at hl 0 rfl) ?_
      refine lv_if_ge (tgt := 40) hx hb dX7_counts_29 (by decide) (fun c_4 => ?_) (fun c_4 => ?_)
      · skip
        refine lv_aload_n hx hb dX7_counts_40 rfl (lv_at hl 1 rfl) ?_
        refine lv_iload_n hx hb dX7_counts_41 rfl (lv_at hl 2 rfl) ?_
        refine lv_iload_n hx hb dX7_counts_42 rfl (lv_at hl 0 rfl) ?_
        refine g_callV (As := [.int (nI v), .int (σ 0 13)]) (rest := []) (N := 28) (T := TX7) (ci := 6) ⟨hx, hb, hml, hown, hts⟩ 0 (m_more l D cy ad wy mt hj σ v (by omega) (σ 0 13)) (cwV 2 hts gX7_counts_X7_more rfl rfl rfl (by decide +kernel) ⟨by decide, by decide⟩) h0 hP hS (by decide) mF_0 rfl rfl rfl hl.1 (Nat.le_of_ble_eq_true rfl) dX7_counts_43 ⟨Nat.zero_le _, Nat.zero_le _⟩ (fun H locs hP hS => ?_)
        exact g_iret hx hb hr hlocks hP hS dX7_counts_46 (by unfold mCount; rw [if_neg c_1, if_pos c_2, if_pos c_4] <;> rfl)
      · skip
        refine lv_aload_n hx hb dX7_counts_32 rfl (lv_at hl 1 rfl) ?_
        refine lv_iconst (v := 5) hx hb dX7_counts_33 (by decide) ?_
        refine g_callV (As := [.int 5]) (rest := []) (N := 28) (T := TX7) (ci := 6) ⟨hx, hb, hml, hown, hts⟩ 0 (m_fails l D cy ad wy mt hj σ 5 ) (cwV 1 hts gX7_counts_X7_fails rfl rfl rfl (by decide +kernel) ⟨by decide, by decide⟩) h0 hP hS (by decide) mF_0 rfl rfl rfl hl.1 (Nat.le_of_ble_eq_true rfl) dX7_counts_34 ⟨Nat.zero_le _, Nat.zero_le _⟩ (fun H locs hP hS => ?_)
        refine lv_goto (tgt := 46) hx hb dX7_counts_37 (by decide) ?_
        exact g_iret hx hb hr hlocks hP hS dX7_counts_46 (by unfold mCount; rw [if_neg c_1, if_pos c_2, if_neg c_4] <;> rfl)
  · skip
    refine lv_aload_n hx hb dX7_counts_4 rfl (lv_at hl 0 rfl) ?_
    refine mw_get (ci := 6) (C := RX7) (T := TX7) (N := 28) (v := .int (σ 0 12)) hx hb hts hinX7 hown hK hP 0 (by decide) mF_0 rfl 12 (by decide) kf44 (fun _ h9 => h9) rfl dX7_counts_5 ?_
    refine lv_goto (tgt := 27) hx hb dX7_counts_8 (by decide) ?_
    refine lv_istore_n (lv' := [(3, .int (σ 0 12)), (0, .ref (ad 0)), (1, .int (nI v)), (2, .int n)]) hx hb dX7_counts_27 rfl hl (by decide) rfl (fun ls hl => ?_)
    refine lv_iload_n hx hb dX7_counts_28 rfl (lv_at hl 0 rfl) ?_
    refine lv_if_ge (tgt := 40) hx hb dX7_counts_29 (by decide) (fun c_5 => ?_) (fun c_5 => ?_)
    · skip
      refine lv_aload_n hx hb dX7_counts_40 rfl (lv_at hl 1 rfl) ?_
      refine lv_iload_n hx hb dX7_counts_41 rfl (lv_at hl 2 rfl) ?_
      refine lv_iload_n hx hb dX7_counts_42 rfl (lv_at hl 0 rfl) ?_
      refine g_callV (As := [.int (nI v), .int (σ 0 12)]) (rest := []) (N := 28) (T := TX7) (ci := 6) ⟨hx, hb, hml, hown, hts⟩ 0 (m_more l D cy ad wy mt hj σ v (by omega) (σ 0 12)) (cwV 2 hts gX7_counts_X7_more rfl rfl rfl (by decide +kernel) ⟨by decide, by decide⟩) h0 hP hS (by decide) mF_0 rfl rfl rfl hl.1 (Nat.le_of_ble_eq_true rfl) dX7_counts_43 ⟨Nat.zero_le _, Nat.zero_le _⟩ (fun H locs hP hS => ?_)
      exact g_iret hx hb hr hlocks hP hS dX7_counts_46 (by unfold mCount; rw [if_pos c_1, if_pos c_5] <;> rfl)
    · skip
      refine lv_aload_n hx hb dX7_counts_32 rfl (lv_at hl 1 rfl) ?_
      refine lv_iconst (v := 5) hx hb dX7_counts_33 (by decide) ?_
      refine g_callV (As := [.int 5]) (rest := []) (N := 28) (T := TX7) (ci := 6) ⟨hx, hb, hml, hown, hts⟩ 0 (m_fails l D cy ad wy mt hj σ 5 ) (cwV 1 hts gX7_counts_X7_fails rfl rfl rfl (by decide +kernel) ⟨by decide, by decide⟩) h0 hP hS (by decide) mF_0 rfl rfl rfl hl.1 (Nat.le_of_ble_eq_true rfl) dX7_counts_34 ⟨Nat.zero_le _, Nat.zero_le _⟩ (fun H locs hP hS => ?_)
      refine lv_goto (tgt := 46) hx hb dX7_counts_37 (by decide) ?_
      exact g_iret hx hb hr hlocks hP hS dX7_counts_46 (by unfold mCount; rw [if_pos c_1, if_neg c_5] <;> rfl)

def mRaise (σ : Mem) (t : Nat) : Int32 × Mem :=
  if σ 13 t = 0 then mFail σ 5
  else (5, mset (mset σ 0 24 (σ 13 t)) 0 25 0)
set_option maxHeartbeats 4000000 in
set_option maxRecDepth 100000 in
theorem m_raises (l : Launch) (D : va_G) (cy : Nat → ClassId) (ad wy : Nat → Nat) (mt : Nat) (hj : mJ 18 ad) (σ : Mem) (t : Nat) (ht : t < 4)  : Met l yX7_raises wsX7_raises ({ frames := 2, cells := 0, slots := 0, locals := 43 }) (va_Pc [.ref (ad 0), .int (nI t)] (gPre 18 ad (mF ad cy) D cy wy mt σ)) (gQ 18 ad (mF ad cy) D (some (.int (mRaise σ t).1)) (mRaise σ t).2) 0 0 (mA 18 ad) := by
  refine g_met (cc := cX7_raises) (maxL := 2) (ret := (some .int)) (by decide) rfl (Nat.le_of_ble_eq_true rfl) ?_
  intro p e s m below meth c S hr hlocks h0 ls hl
  obtain ⟨hx, hb, hml, hown, hts⟩ := S
  have hP := h0.1
  have hK := h0.2.1
  have hS : va_S (mA 18 ad) s.heap s.heap [] := va_S.rf
  have hl : lv_has ls 2 [(0, .ref (ad 0)), (1, .int (nI t))] := hl
  have kf57 : (Cond.fieldLink RX7 57 "BenchRunsModel" "laid" "[I").before (#[.ref (ad 0), .int (nI t)] : Array Value) s = true := hts _ (by decide +kernel)
  have hinX7 : ∀ w ∈ u_ws RX7 TX7 28, w ∈ wsX7_raises := by decide +kernel
  have kf90 : (Cond.fieldLink RX7 90 "BenchRunsModel" "failure" "I").before (#[.ref (ad 0), .int (nI t)] : Array Value) s = true := hts _ (by decide +kernel)
  have kf93 : (Cond.fieldLink RX7 93 "BenchRunsModel" "isMachines" "Z").before (#[.ref (ad 0), .int (nI t)] : Array Value) s = true := hts _ (by decide +kernel)
  refine lv_aload_n hx hb dX7_raises_0 rfl (lv_at hl 0 rfl) ?_
  refine mw_get (ci := 6) (C := RX7) (T := TX7) (N := 28) (v := .ref (ad 13)) hx hb hts hinX7 hown hK hP 0 (by decide) mF_0 rfl 18 (by decide) kf57 (fun _ h9 => h9) rfl dX7_raises_1 ?_
  refine lv_iload_n hx hb dX7_raises_4 rfl (lv_at hl 1 rfl) ?_
  refine mw_ild hx hb hK hP 13 (by decide) 0 mF_13 rfl t (by omega) (by decide) rfl dX7_raises_5 ?_
  refine lv_if_ne (tgt := 15) hx hb dX7_raises_6 (by decide) (fun c_1 => ?_) (fun c_1 => ?_)
  · skip
    refine lv_aload_n hx hb dX7_raises_15 rfl (lv_at hl 0 rfl) ?_
    refine lv_aload_n hx hb dX7_raises_16 rfl (lv_at hl 0 rfl) ?_
    refine mw_get (ci := 6) (C := RX7) (T := TX7) (N := 28) (v := .ref (ad 13)) hx hb hts hinX7 hown hK hP 0 (by decide) mF_0 rfl 18 (by decide) kf57 (fun _ h9 => h9) rfl dX7_raises_17 ?_
    refine lv_iload_n hx hb dX7_raises_20 rfl (lv_at hl 1 rfl) ?_
    refine mw_ild hx hb hK hP 13 (by decide) 0 mF_13 rfl t (by omega) (by decide) rfl dX7_raises_21 ?_
    refine mw_put (ci := 6) (C := RX7) (T := TX7) (N := 28) (v := σ 13 t) (ty := .int) hx hb hts hinX7 tyX7 tyX7_ok nmX7 hown hK hj hP hS 0 (by decide) mF_0 rfl 24 (by decide) kf90 (fun _ h9 => h9) rfl (by decide +kernel) rfl rfl (Nat.le_of_ble_eq_true rfl) rfl dX7_raises_22 (fun H locs hP hS => ?_)
    refine lv_aload_n hx hb dX7_raises_25 rfl (lv_at hl 0 rfl) ?_
    refine lv_iconst (v := 0) hx hb dX7_raises_26 (by decide) ?_
    refine mw_put (ci := 6) (C := RX7) (T := TX7) (N := 28) (v := 0) (ty := .boolean) hx hb hts hinX7 tyX7 tyX7_ok nmX7 hown hK hj hP hS 0 (by decide) mF_0 rfl 25 (by decide) kf93 (fun _ h9 => h9) rfl (by decide +kernel) (by decide) (by decide) (Nat.le_of_ble_eq_true rfl) rfl dX7_raises_27 (fun H locs hP hS => ?_)
    refine lv_iconst (v := 5) hx hb dX7_raises_30 (by decide) ?_
    exact g_iret hx hb hr hlocks hP hS dX7_raises_31 (by unfold mRaise; rw [if_neg c_1] <;> rfl)
  · skip
    refine lv_aload_n hx hb dX7_raises_9 rfl (lv_at hl 0 rfl) ?_
    refine lv_iconst (v := 5) hx hb dX7_raises_10 (by decide) ?_
    refine g_callV (As := [.int 5]) (rest := []) (N := 28) (T := TX7) (ci := 6) ⟨hx, hb, hml, hown, hts⟩ 0 (m_fails l D cy ad wy mt hj σ 5 ) (cwV 1 hts gX7_raises_X7_fails rfl rfl rfl (by decide +kernel) ⟨by decide, by decide⟩) h0 hP hS (by decide) mF_0 rfl rfl rfl hl.1 (Nat.le_of_ble_eq_true rfl) dX7_raises_11 ⟨Nat.zero_le _, Nat.zero_le _⟩ (fun H locs hP hS => ?_)
    exact g_iret hx hb hr hlocks hP hS dX7_raises_14 (by unfold mRaise; rw [if_pos c_1] <;> rfl)
end
section
def mAct (σ : Mem) (kd j v : Nat) : Int32 × Mem :=
  if kd = 0 then mMore σ v (nI j)
  else if kd = 1 then (if nI j ≤ σ 2 v then (0, mset σ 2 v ((σ 2 v) - (nI j)))
    else mFail σ 2)
  else if kd = 2 then (if nI j = 0 then mFail σ 3
    else (0, mset σ 2 v ((σ 2 v) / (nI j))))
  else if kd = 3 then mPour σ v j
  else if kd = 4 then (1, σ)
  else if kd = 5 then (3, σ)
  else if kd = 6 then (4, mset σ 0 27 (nI j))
  else if kd = 7 then mFail σ (10 + (nI j))
  else if kd = 8 then (if nI j ≤ σ 2 v then (0, σ)
    else (1, σ))
  else if kd = 9 then (if nI j ≤ σ 0 26 then (0, σ)
    else (2, σ))
  else if kd = 10 then mUse σ j
  else if kd = 11 then mGrip σ j v
  else if kd = 12 then (if 10 ≤ nI j then (0, mset σ 0 12 ((nI j) - 10))
    else mFail σ 6)
  else if kd = 13 then mBoxes σ (((nI j) / 3) - 2) ((nI j) - (nI j) / 3 * 3)
  else if kd = 14 then mGrids σ (((nI j) / 6) - 1) (((nI j) - (nI j) / 6 * 6) - 1)
  else if kd = 15 then mPut σ (j % 10) (j / 10)
  else if kd = 16 then mCount σ v (nI j)
  else mRaise σ j
set_option maxHeartbeats 4000000 in
set_option maxRecDepth 100000 in
theorem m_act (l : Launch) (D : va_G) (cy : Nat → ClassId) (ad wy : Nat → Nat) (mt : Nat) (hj : mJ 18 ad) (σ : Mem) (kd j v : Nat) (hkd : kd < 18) (hj200 : j ≤ 200) (hv : v < 8) (hj4 : 16 ≤ kd → j < 4) (hbx : ∀ pl : Nat, pl ≤ 200 → nI pl < σ 0 13 → pl < 18) : Met l yX7_act wsX7_act ({ frames := 4, cells := 0, slots := 0, locals := 88 }) (va_Pc [.ref (ad 0), .int (nI kd), .int (nI j), .int (nI v)] (gPre 18 ad (mF ad cy) D cy wy mt σ)) (gQ 18 ad (mF ad cy) D (some (.int (mAct σ kd j v).1)) (mAct σ kd j v).2) 0 0 (mA 18 ad) := by
  refine g_met (cc := cX7_act) (maxL := 4) (ret := (some .int)) (by decide) rfl (Nat.le_of_ble_eq_true rfl) ?_
  intro p e s m below meth c S hr hlocks h0 ls hl
  obtain ⟨hx, hb, hml, hown, hts⟩ := S
  have hP := h0.1
  have hK := h0.2.1
  have hS : va_S (mA 18 ad) s.heap s.heap [] := va_S.rf
  have hl : lv_has ls 4 [(0, .ref (ad 0)), (1, .int (nI kd)), (2, .int (nI j)), (3, .int (nI v))] := hl
  have kf13 : (Cond.fieldLink RX7 13 "BenchRunsModel" "drops" "[I").before (#[.ref (ad 0), .int (nI kd), .int (nI j), .int (nI v)] : Array Value) s = true := hts _ (by decide +kernel)
  have hinX7 : ∀ w ∈ u_ws RX7 TX7 28, w ∈ wsX7_act := by decide +kernel
  have kf110 : (Cond.fieldLink RX7 110 "BenchRunsModel" "stopped" "I").before (#[.ref (ad 0), .int (nI kd), .int (nI j), .int (nI v)] : Array Value) s = true := hts _ (by decide +kernel)
  have kf113 : (Cond.fieldLink RX7 113 "BenchRunsModel" "again" "I").before (#[.ref (ad 0), .int (nI kd), .int (nI j), .int (nI v)] : Array Value) s = true := hts _ (by decide +kernel)
  have kf44 : (Cond.fieldLink RX7 44 "BenchRunsModel" "rack" "I").before (#[.ref (ad 0), .int (nI kd), .int (nI j), .int (nI v)] : Array Value) s = true := hts _ (by decide +kernel)
  refine lv_iload_n hx hb dX7_act_0 rfl (lv_at hl 1 rfl) ?_
  rcases (show kd = 0 ∨ kd = 1 ∨ kd = 2 ∨ kd = 3 ∨ kd = 4 ∨ kd = 5 ∨ kd = 6 ∨ kd = 7 ∨ kd = 8 ∨ kd = 9 ∨ kd = 10 ∨ kd = 11 ∨ kd = 12 ∨ kd = 13 ∨ kd = 14 ∨ kd = 15 ∨ kd = 16 ∨ kd = 17 by omega) with rfl | rfl | rfl | rfl | rfl | rfl | rfl | rfl | rfl | rfl | rfl | rfl | rfl | rfl | rfl | rfl | rfl | rfl
  · skip
    refine lv_tableIn (off := 83) (tgt := 84) hx hb dX7_act_1 (by decide) (by decide) (by decide) (by decide) ?_
    refine lv_aload_n hx hb dX7_act_84 rfl (lv_at hl 0 rfl) ?_
    refine lv_iload_n hx hb dX7_act_85 rfl (lv_at hl 3 rfl) ?_
    refine lv_iload_n hx hb dX7_act_86 rfl (lv_at hl 2 rfl) ?_
    refine g_callV (As := [.int (nI v), .int (nI j)]) (rest := []) (N := 28) (T := TX7) (ci := 6) ⟨hx, hb, hml, hown, hts⟩ 0 (m_more l D cy ad wy mt hj σ v (by omega) (nI j)) (cwV 2 hts gX7_act_X7_more rfl rfl rfl (by decide +kernel) ⟨by decide, by decide⟩) h0 hP hS (by decide) mF_0 rfl rfl rfl hl.1 (Nat.le_of_ble_eq_true rfl) dX7_act_87 ⟨Nat.zero_le _, Nat.zero_le _⟩ (fun H locs hP hS => ?_)
    exact g_iret hx hb hr hlocks hP hS dX7_act_90 (by unfold mAct; rw [if_pos (rfl : (0 : Nat) = 0)] <;> rfl)
  · skip
    refine lv_tableIn (off := 90) (tgt := 91) hx hb dX7_act_1 (by decide) (by decide) (by decide) (by decide) ?_
    refine lv_aload_n hx hb dX7_act_91 rfl (lv_at hl 0 rfl) ?_
    refine mw_get (ci := 6) (C := RX7) (T := TX7) (N := 28) (v := .ref (ad 2)) hx hb hts hinX7 hown hK hP 0 (by decide) mF_0 rfl 2 (by decide) kf13 (fun _ h9 => h9) rfl dX7_act_92 ?_
    refine lv_iload_n hx hb dX7_act_95 rfl (lv_at hl 3 rfl) ?_
    refine mw_ild hx hb hK hP 2 (by decide) 0 mF_2 rfl v (by omega) (by decide) rfl dX7_act_96 ?_
    refine lv_iload_n hx hb dX7_act_97 rfl (lv_at hl 2 rfl) ?_
    refine lv_icmp_ge (tgt := 107) hx hb dX7_act_98 (by decide) (fun c_1 => ?_) (fun c_1 => ?_)
    · skip
      refine lv_aload_n hx hb dX7_act_107 rfl (lv_at hl 0 rfl) ?_
      refine mw_get (ci := 6) (C := RX7) (T := TX7) (N := 28) (v := .ref (ad 2)) hx hb hts hinX7 hown hK hP 0 (by decide) mF_0 rfl 2 (by decide) kf13 (fun _ h9 => h9) rfl dX7_act_108 ?_
      refine lv_iload_n hx hb dX7_act_111 rfl (lv_at hl 3 rfl) ?_
      refine lv_dup2_11 hx hb dX7_act_112 rfl rfl ?_
      refine mw_ild hx hb hK hP 2 (by decide) 0 mF_2 rfl v (by omega) (by decide) rfl dX7_act_113 ?_
      refine lv_iload_n hx hb dX7_act_114 rfl (lv_at hl 2 rfl) ?_
      refine lv_isub hx hb dX7_act_115 ?_
      refine mw_ist hx hb hK hj hP hS 2 (by decide) 0 mF_2 rfl v (by omega) (by decide) rfl dX7_act_116 (fun H locs hP hS => ?_)
      refine lv_iconst (v := 0) hx hb dX7_act_117 (by decide) ?_
      exact g_iret hx hb hr hlocks hP hS dX7_act_118 (by unfold mAct; rw [if_neg (show ¬ (1 : Nat) = 0 by decide), if_pos (rfl : (1 : Nat) = 1), if_pos c_1] <;> rfl)
    · skip
      refine lv_aload_n hx hb dX7_act_101 rfl (lv_at hl 0 rfl) ?_
      refine lv_iconst (v := 2) hx hb dX7_act_102 (by decide) ?_
      refine g_callV (As := [.int 2]) (rest := []) (N := 28) (T := TX7) (ci := 6) ⟨hx, hb, hml, hown, hts⟩ 0 (m_fails l D cy ad wy mt hj σ 2 ) (cwV 1 hts gX7_act_X7_fails rfl rfl rfl (by decide +kernel) ⟨by decide, by decide⟩) h0 hP hS (by decide) mF_0 rfl rfl rfl hl.1 (Nat.le_of_ble_eq_true rfl) dX7_act_103 ⟨Nat.zero_le _, Nat.zero_le _⟩ (fun H locs hP hS => ?_)
      exact g_iret hx hb hr hlocks hP hS dX7_act_106 (by unfold mAct; rw [if_neg (show ¬ (1 : Nat) = 0 by decide), if_pos (rfl : (1 : Nat) = 1), if_neg c_1] <;> rfl)
  · skip
    refine lv_tableIn (off := 118) (tgt := 119) hx hb dX7_act_1 (by decide) (by decide) (by decide) (by decide) ?_
    refine lv_iload_n hx hb dX7_act_119 rfl (lv_at hl 2 rfl) ?_
    refine lv_if_ne (tgt := 129) hx hb dX7_act_120 (by decide) (fun c_2 => ?_) (fun c_2 => ?_)
    · skip
      refine lv_aload_n hx hb dX7_act_129 rfl (lv_at hl 0 rfl) ?_
      refine mw_get (ci := 6) (C := RX7) (T := TX7) (N := 28) (v := .ref (ad 2)) hx hb hts hinX7 hown hK hP 0 (by decide) mF_0 rfl 2 (by decide) kf13 (fun _ h9 => h9) rfl dX7_act_130 ?_
      refine lv_iload_n hx hb dX7_act_133 rfl (lv_at hl 3 rfl) ?_
      refine lv_aload_n hx hb dX7_act_134 rfl (lv_at hl 0 rfl) ?_
      refine mw_get (ci := 6) (C := RX7) (T := TX7) (N := 28) (v := .ref (ad 2)) hx hb hts hinX7 hown hK hP 0 (by decide) mF_0 rfl 2 (by decide) kf13 (fun _ h9 => h9) rfl dX7_act_135 ?_
      refine lv_iload_n hx hb dX7_act_138 rfl (lv_at hl 3 rfl) ?_
      refine mw_ild hx hb hK hP 2 (by decide) 0 mF_2 rfl v (by omega) (by decide) rfl dX7_act_139 ?_
      refine lv_iload_n hx hb dX7_act_140 rfl (lv_at hl 2 rfl) ?_
      refine lv_idiv hx hb dX7_act_141 c_2 ?_
      refine mw_ist hx hb hK hj hP hS 2 (by decide) 0 mF_2 rfl v (by omega) (by decide) rfl dX7_act_142 (fun H locs hP hS => ?_)
      refine lv_iconst (v := 0) hx hb dX7_act_143 (by decide) ?_
      exact g_iret hx hb hr hlocks hP hS dX7_act_144 (by unfold mAct; rw [if_neg (show ¬ (2 : Nat) = 0 by decide), if_neg (show ¬ (2 : Nat) = 1 by decide), if_pos (rfl : (2 : Nat) = 2), if_neg c_2] <;> rfl)
    · skip
      refine lv_aload_n hx hb dX7_act_123 rfl (lv_at hl 0 rfl) ?_
      refine lv_iconst (v := 3) hx hb dX7_act_124 (by decide) ?_
      refine g_callV (As := [.int 3]) (rest := []) (N := 28) (T := TX7) (ci := 6) ⟨hx, hb, hml, hown, hts⟩ 0 (m_fails l D cy ad wy mt hj σ 3 ) (cwV 1 hts gX7_act_X7_fails rfl rfl rfl (by decide +kernel) ⟨by decide, by decide⟩) h0 hP hS (by decide) mF_0 rfl rfl rfl hl.1 (Nat.le_of_ble_eq_true rfl) dX7_act_125 ⟨Nat.zero_le _, Nat.zero_le _⟩ (fun H locs hP hS => ?_)
      exact g_iret hx hb hr hlocks hP hS dX7_act_128 (by unfold mAct; rw [if_neg (show ¬ (2 : Nat) = 0 by decide), if_neg (show ¬ (2 : Nat) = 1 by decide), if_pos (rfl : (2 : Nat) = 2), if_pos c_2] <;> rfl)
  · skip
    refine lv_tableIn (off := 144) (tgt := 145) hx hb dX7_act_1 (by decide) (by decide) (by decide) (by decide) ?_
    refine lv_aload_n hx hb dX7_act_145 rfl (lv_at hl 0 rfl) ?_
    refine lv_iload_n hx hb dX7_act_146 rfl (lv_at hl 3 rfl) ?_
    refine lv_iload_n hx hb dX7_act_147 rfl (lv_at hl 2 rfl) ?_
    refine g_callV (As := [.int (nI v), .int (nI j)]) (rest := []) (N := 28) (T := TX7) (ci := 6) ⟨hx, hb, hml, hown, hts⟩ 0 (m_pours l D cy ad wy mt hj σ v j (by omega) (by omega)) (cwV 2 hts gX7_act_X7_pours rfl rfl rfl (by decide +kernel) ⟨by decide, by decide⟩) h0 hP hS (by decide) mF_0 rfl rfl rfl hl.1 (Nat.le_of_ble_eq_true rfl) dX7_act_148 ⟨Nat.zero_le _, Nat.zero_le _⟩ (fun H locs hP hS => ?_)
    exact g_iret hx hb hr hlocks hP hS dX7_act_151 (by unfold mAct; rw [if_neg (show ¬ (3 : Nat) = 0 by decide), if_neg (show ¬ (3 : Nat) = 1 by decide), if_neg (show ¬ (3 : Nat) = 2 by decide), if_pos (rfl : (3 : Nat) = 3)] <;> rfl)
  · skip
    refine lv_tableIn (off := 151) (tgt := 152) hx hb dX7_act_1 (by decide) (by decide) (by decide) (by decide) ?_
    refine lv_iconst (v := 1) hx hb dX7_act_152 (by decide) ?_
    exact g_iret hx hb hr hlocks hP hS dX7_act_153 (by unfold mAct; rw [if_neg (show ¬ (4 : Nat) = 0 by decide), if_neg (show ¬ (4 : Nat) = 1 by decide), if_neg (show ¬ (4 : Nat) = 2 by decide), if_neg (show ¬ (4 : Nat) = 3 by decide), if_pos (rfl : (4 : Nat) = 4)] <;> rfl)
  · skip
    refine lv_tableIn (off := 153) (tgt := 154) hx hb dX7_act_1 (by decide) (by decide) (by decide) (by decide) ?_
    refine lv_iconst (v := 3) hx hb dX7_act_154 (by decide) ?_
    exact g_iret hx hb hr hlocks hP hS dX7_act_155 (by unfold mAct; rw [if_neg (show ¬ (5 : Nat) = 0 by decide), if_neg (show ¬ (5 : Nat) = 1 by decide), if_neg (show ¬ (5 : Nat) = 2 by decide), if_neg (show ¬ (5 : Nat) = 3 by decide), if_neg (show ¬ (5 : Nat) = 4 by decide), if_pos (rfl : (5 : Nat) = 5)] <;> rfl)
  · skip
    refine lv_tableIn (off := 155) (tgt := 156) hx hb dX7_act_1 (by decide) (by decide) (by decide) (by decide) ?_
    refine lv_aload_n hx hb dX7_act_156 rfl (lv_at hl 0 rfl) ?_
    refine lv_iload_n hx hb dX7_act_157 rfl (lv_at hl 2 rfl) ?_
    refine mw_put (ci := 6) (C := RX7) (T := TX7) (N := 28) (v := nI j) (ty := .int) hx hb hts hinX7 tyX7 tyX7_ok nmX7 hown hK hj hP hS 0 (by decide) mF_0 rfl 27 (by decide) kf110 (fun _ h9 => h9) rfl (by decide +kernel) rfl rfl (Nat.le_of_ble_eq_true rfl) rfl dX7_act_158 (fun H locs hP hS => ?_)
    refine lv_iconst (v := 4) hx hb dX7_act_161 (by decide) ?_
    exact g_iret hx hb hr hlocks hP hS dX7_act_162 (by unfold mAct; rw [if_neg (show ¬ (6 : Nat) = 0 by decide), if_neg (show ¬ (6 : Nat) = 1 by decide), if_neg (show ¬ (6 : Nat) = 2 by decide), if_neg (show ¬ (6 : Nat) = 3 by decide), if_neg (show ¬ (6 : Nat) = 4 by decide), if_neg (show ¬ (6 : Nat) = 5 by decide), if_pos (rfl : (6 : Nat) = 6)] <;> rfl)
  · skip
    refine lv_tableIn (off := 162) (tgt := 163) hx hb dX7_act_1 (by decide) (by decide) (by decide) (by decide) ?_
    refine lv_aload_n hx hb dX7_act_163 rfl (lv_at hl 0 rfl) ?_
    refine lv_bipush (v := 10) hx hb dX7_act_164 (by decide) ?_
    refine lv_iload_n hx hb dX7_act_166 rfl (lv_at hl 2 rfl) ?_
    refine lv_iadd hx hb dX7_act_167 ?_
    refine g_callV (As := [.int (10 + (nI j))]) (rest := []) (N := 28) (T := TX7) (ci := 6) ⟨hx, hb, hml, hown, hts⟩ 0 (m_fails l D cy ad wy mt hj σ (10 + (nI j)) ) (cwV 1 hts gX7_act_X7_fails rfl rfl rfl (by decide +kernel) ⟨by decide, by decide⟩) h0 hP hS (by decide) mF_0 rfl rfl rfl hl.1 (Nat.le_of_ble_eq_true rfl) dX7_act_168 ⟨Nat.zero_le _, Nat.zero_le _⟩ (fun H locs hP hS => ?_)
    exact g_iret hx hb hr hlocks hP hS dX7_act_171 (by unfold mAct; rw [if_neg (show ¬ (7 : Nat) = 0 by decide), if_neg (show ¬ (7 : Nat) = 1 by decide), if_neg (show ¬ (7 : Nat) = 2 by decide), if_neg (show ¬ (7 : Nat) = 3 by decide), if_neg (show ¬ (7 : Nat) = 4 by decide), if_neg (show ¬ (7 : Nat) = 5 by decide), if_neg (show ¬ (7 : Nat) = 6 by decide), if_pos (rfl : (7 : Nat) = 7)] <;> rfl)
  · skip
    refine lv_tableIn (off := 171) (tgt := 172) hx hb dX7_act_1 (by decide) (by decide) (by decide) (by decide) ?_
    refine lv_aload_n hx hb dX7_act_172 rfl (lv_at hl 0 rfl) ?_
    refine mw_get (ci := 6) (C := RX7) (T := TX7) (N := 28) (v := .ref (ad 2)) hx hb hts hinX7 hown hK hP 0 (by decide) mF_0 rfl 2 (by decide) kf13 (fun _ h9 => h9) rfl dX7_act_173 ?_
    refine lv_iload_n hx hb dX7_act_176 rfl (lv_at hl 3 rfl) ?_
    refine mw_ild hx hb hK hP 2 (by decide) 0 mF_2 rfl v (by omega) (by decide) rfl dX7_act_177 ?_
    refine lv_iload_n hx hb dX7_act_178 rfl (lv_at hl 2 rfl) ?_
    refine lv_icmp_ge (tgt := 186) hx hb dX7_act_179 (by decide) (fun c_3 => ?_) (fun c_3 => ?_)
    · skip
      refine lv_iconst (v := 0) hx hb dX7_act_186 (by decide) ?_
      exact g_iret hx hb hr hlocks hP hS dX7_act_187 (by unfold mAct; rw [if_neg (show ¬ (8 : Nat) = 0 by decide), if_neg (show ¬ (8 : Nat) = 1 by decide), if_neg (show ¬ (8 : Nat) = 2 by decide), if_neg (show ¬ (8 : Nat) = 3 by decide), if_neg (show ¬ (8 : Nat) = 4 by decide), if_neg (show ¬ (8 : Nat) = 5 by decide), if_neg (show ¬ (8 : Nat) = 6 by decide), if_neg (show ¬ (8 : Nat) = 7 by decide), if_pos (rfl : (8 : Nat) = 8), if_pos c_3] <;> rfl)
    · skip
      refine lv_iconst (v := 1) hx hb dX7_act_182 (by decide) ?_
      refine lv_goto (tgt := 187) hx hb dX7_act_183 (by decide) ?_
      exact g_iret hx hb hr hlocks hP hS dX7_act_187 (by unfold mAct; rw [if_neg (show ¬ (8 : Nat) = 0 by decide), if_neg (show ¬ (8 : Nat) = 1 by decide), if_neg (show ¬ (8 : Nat) = 2 by decide), if_neg (show ¬ (8 : Nat) = 3 by decide), if_neg (show ¬ (8 : Nat) = 4 by decide), if_neg (show ¬ (8 : Nat) = 5 by decide), if_neg (show ¬ (8 : Nat) = 6 by decide), if_neg (show ¬ (8 : Nat) = 7 by decide), if_pos (rfl : (8 : Nat) = 8), if_neg c_3] <;> rfl)
  · skip
    refine lv_tableIn (off := 187) (tgt := 188) hx hb dX7_act_1 (by decide) (by decide) (by decide) (by decide) ?_
    refine lv_aload_n hx hb dX7_act_188 rfl (lv_at hl 0 rfl) ?_
    refine mw_get (ci := 6) (C := RX7) (T := TX7) (N := 28) (v := .int (σ 0 26)) hx hb hts hinX7 hown hK hP 0 (by decide) mF_0 rfl 26 (by decide) kf113 (fun _ h9 => h9) rfl dX7_act_189 ?_
    refine lv_iload_n hx hb dX7_act_192 rfl (lv_at hl 2 rfl) ?_
    refine lv_icmp_ge (tgt := 200) hx hb dX7_act_193 (by decide) (fun c_4 => ?_) (fun c_4 => ?_)
    · skip
      refine lv_iconst (v := 0) hx hb dX7_act_200 (by decide) ?_
      exact g_iret hx hb hr hlocks hP hS dX7_act_201 (by unfold mAct; rw [if_neg (show ¬ (9 : Nat) = 0 by decide), if_neg (show ¬ (9 : Nat) = 1 by decide), if_neg (show ¬ (9 : Nat) = 2 by decide), if_neg (show ¬ (9 : Nat) = 3 by decide), if_neg (show ¬ (9 : Nat) = 4 by decide), if_neg (show ¬ (9 : Nat) = 5 by decide), if_neg (show ¬ (9 : Nat) = 6 by decide), if_neg (show ¬ (9 : Nat) = 7 by decide), if_neg (show ¬ (9 : Nat) = 8 by decide), if_pos (rfl : (9 : Nat) = 9), if_pos c_4] <;> rfl)
    · skip
      refine lv_iconst (v := 2) hx hb dX7_act_196 (by decide) ?_
      refine lv_goto (tgt := 201) hx hb dX7_act_197 (by decide) ?_
      exact g_iret hx hb hr hlocks hP hS dX7_act_201 (by unfold mAct; rw [if_neg (show ¬ (9 : Nat) = 0 by decide), if_neg (show ¬ (9 : Nat) = 1 by decide), if_neg (show ¬ (9 : Nat) = 2 by decide), if_neg (show ¬ (9 : Nat) = 3 by decide), if_neg (show ¬ (9 : Nat) = 4 by decide), if_neg (show ¬ (9 : Nat) = 5 by decide), if_neg (show ¬ (9 : Nat) = 6 by decide), if_neg (show ¬ (9 : Nat) = 7 by decide), if_neg (show ¬ (9 : Nat) = 8 by decide), if_pos (rfl : (9 : Nat) = 9), if_neg c_4] <;> rfl)
  · skip
    refine lv_tableIn (off := 201) (tgt := 202) hx hb dX7_act_1 (by decide) (by decide) (by decide) (by decide) ?_
    refine lv_aload_n hx hb dX7_act_202 rfl (lv_at hl 0 rfl) ?_
    refine lv_iload_n hx hb dX7_act_203 rfl (lv_at hl 2 rfl) ?_
    refine g_callV (As := [.int (nI j)]) (rest := []) (N := 28) (T := TX7) (ci := 6) ⟨hx, hb, hml, hown, hts⟩ 0 (m_uses l D cy ad wy mt hj σ j (by omega)) (cwV 1 hts gX7_act_X7_uses rfl rfl rfl (by decide +kernel) ⟨by decide, by decide⟩) h0 hP hS (by decide) mF_0 rfl rfl rfl hl.1 (Nat.le_of_ble_eq_true rfl) dX7_act_204 ⟨Nat.zero_le _, Nat.zero_le _⟩ (fun H locs hP hS => ?_)
    exact g_iret hx hb hr hlocks hP hS dX7_act_207 (by unfold mAct; rw [if_neg (show ¬ (10 : Nat) = 0 by decide), if_neg (show ¬ (10 : Nat) = 1 by decide), if_neg (show ¬ (10 : Nat) = 2 by decide), if_neg (show ¬ (10 : Nat) = 3 by decide), if_neg (show ¬ (10 : Nat) = 4 by decide), if_neg (show ¬ (10 : Nat) = 5 by decide), if_neg (show ¬ (10 : Nat) = 6 by decide), if_neg (show ¬ (10 : Nat) = 7 by decide), if_neg (show ¬ (10 : Nat) = 8 by decide), if_neg (show ¬ (10 : Nat) = 9 by decide), if_pos (rfl : (10 : Nat) = 10)] <;> rfl)
  · skip
    refine lv_tableIn (off := 207) (tgt := 208) hx hb dX7_act_1 (by decide) (by decide) (by decide) (by decide) ?_
    refine lv_aload_n hx hb dX7_act_208 rfl (lv_at hl 0 rfl) ?_
    refine lv_iload_n hx hb dX7_act_209 rfl (lv_at hl 2 rfl) ?_
    refine lv_iload_n hx hb dX7_act_210 rfl (lv_at hl 3 rfl) ?_
    refine g_callV (As := [.int (nI j), .int (nI v)]) (rest := []) (N := 28) (T := TX7) (ci := 6) ⟨hx, hb, hml, hown, hts⟩ 0 (m_grips l D cy ad wy mt hj σ j v (by omega) (by omega)) (cwV 2 hts gX7_act_X7_grips rfl rfl rfl (by decide +kernel) ⟨by decide, by decide⟩) h0 hP hS (by decide) mF_0 rfl rfl rfl hl.1 (Nat.le_of_ble_eq_true rfl) dX7_act_211 ⟨Nat.zero_le _, Nat.zero_le _⟩ (fun H locs hP hS => ?_)
    exact g_iret hx hb hr hlocks hP hS dX7_act_214 (by unfold mAct; rw [if_neg (show ¬ (11 : Nat) = 0 by decide), if_neg (show ¬ (11 : Nat) = 1 by decide), if_neg (show ¬ (11 : Nat) = 2 by decide), if_neg (show ¬ (11 : Nat) = 3 by decide), if_neg (show ¬ (11 : Nat) = 4 by decide), if_neg (show ¬ (11 : Nat) = 5 by decide), if_neg (show ¬ (11 : Nat) = 6 by decide), if_neg (show ¬ (11 : Nat) = 7 by decide), if_neg (show ¬ (11 : Nat) = 8 by decide), if_neg (show ¬ (11 : Nat) = 9 by decide), if_neg (show ¬ (11 : Nat) = 10 by decide), if_pos (rfl : (11 : Nat) = 11)] <;> rfl)
  · skip
    refine lv_tableIn (off := 214) (tgt := 215) hx hb dX7_act_1 (by decide) (by decide) (by decide) (by decide) ?_
    refine lv_iload_n hx hb dX7_act_215 rfl (lv_at hl 2 rfl) ?_
    refine lv_bipush (v := 10) hx hb dX7_act_216 (by decide) ?_
    refine lv_icmp_ge (tgt := 228) hx hb dX7_act_218 (by decide) (fun c_5 => ?_) (fun c_5 => ?_)
    · skip
      refine lv_aload_n hx hb dX7_act_228 rfl (lv_at hl 0 rfl) ?_
      refine lv_iload_n hx hb dX7_act_229 rfl (lv_at hl 2 rfl) ?_
      refine lv_bipush (v := 10) hx hb dX7_act_230 (by decide) ?_
      refine lv_isub hx hb dX7_act_232 ?_
      refine mw_put (ci := 6) (C := RX7) (T := TX7) (N := 28) (v := (nI j) - 10) (ty := .int) hx hb hts hinX7 tyX7 tyX7_ok nmX7 hown hK hj hP hS 0 (by decide) mF_0 rfl 12 (by decide) kf44 (fun _ h9 => h9) rfl (by decide +kernel) rfl rfl (Nat.le_of_ble_eq_true rfl) rfl dX7_act_233 (fun H locs hP hS => ?_)
      refine lv_iconst (v := 0) hx hb dX7_act_236 (by decide) ?_
      exact g_iret hx hb hr hlocks hP hS dX7_act_237 (by unfold mAct; rw [if_neg (show ¬ (12 : Nat) = 0 by decide), if_neg (show ¬ (12 : Nat) = 1 by decide), if_neg (show ¬ (12 : Nat) = 2 by decide), if_neg (show ¬ (12 : Nat) = 3 by decide), if_neg (show ¬ (12 : Nat) = 4 by decide), if_neg (show ¬ (12 : Nat) = 5 by decide), if_neg (show ¬ (12 : Nat) = 6 by decide), if_neg (show ¬ (12 : Nat) = 7 by decide), if_neg (show ¬ (12 : Nat) = 8 by decide), if_neg (show ¬ (12 : Nat) = 9 by decide), if_neg (show ¬ (12 : Nat) = 10 by decide), if_neg (show ¬ (12 : Nat) = 11 by decide), if_pos (rfl : (12 : Nat) = 12), if_pos c_5] <;> rfl)
    · skip
      refine lv_aload_n hx hb dX7_act_221 rfl (lv_at hl 0 rfl) ?_
      refine lv_bipush (v := 6) hx hb dX7_act_222 (by decide) ?_
      refine g_callV (As := [.int 6]) (rest := []) (N := 28) (T := TX7) (ci := 6) ⟨hx, hb, hml, hown, hts⟩ 0 (m_fails l D cy ad wy mt hj σ 6 ) (cwV 1 hts gX7_act_X7_fails rfl rfl rfl (by decide +kernel) ⟨by decide, by decide⟩) h0 hP hS (by decide) mF_0 rfl rfl rfl hl.1 (Nat.le_of_ble_eq_true rfl) dX7_act_224 ⟨Nat.zero_le _, Nat.zero_le _⟩ (fun H locs hP hS => ?_)
      exact g_iret hx hb hr hlocks hP hS dX7_act_227 (by unfold mAct; rw [if_neg (show ¬ (12 : Nat) = 0 by decide), if_neg (show ¬ (12 : Nat) = 1 by decide), if_neg (show ¬ (12 : Nat) = 2 by decide), if_neg (show ¬ (12 : Nat) = 3 by decide), if_neg (show ¬ (12 : Nat) = 4 by decide), if_neg (show ¬ (12 : Nat) = 5 by decide), if_neg (show ¬ (12 : Nat) = 6 by decide), if_neg (show ¬ (12 : Nat) = 7 by decide), if_neg (show ¬ (12 : Nat) = 8 by decide), if_neg (show ¬ (12 : Nat) = 9 by decide), if_neg (show ¬ (12 : Nat) = 10 by decide), if_neg (show ¬ (12 : Nat) = 11 by decide), if_pos (rfl : (12 : Nat) = 12), if_neg c_5] <;> rfl)
  · skip
    refine lv_tableIn (off := 237) (tgt := 238) hx hb dX7_act_1 (by decide) (by decide) (by decide) (by decide) ?_
    refine lv_aload_n hx hb dX7_act_238 rfl (lv_at hl 0 rfl) ?_
    refine lv_iload_n hx hb dX7_act_239 rfl (lv_at hl 2 rfl) ?_
    refine lv_iconst (v := 3) hx hb dX7_act_240 (by decide) ?_
    refine lv_idiv hx hb dX7_act_241 (by decide) ?_
    refine lv_iconst (v := 2) hx hb dX7_act_242 (by decide) ?_
    refine lv_isub hx hb dX7_act_243 ?_
    refine lv_iload_n hx hb dX7_act_244 rfl (lv_at hl 2 rfl) ?_
    refine lv_iconst (v := 3) hx hb dX7_act_245 (by decide) ?_
    refine lv_irem hx hb dX7_act_246 (by decide) ?_
    refine g_callV (As := [.int (((nI j) / 3) - 2), .int ((nI j) - (nI j) / 3 * 3)]) (rest := []) (N := 28) (T := TX7) (ci := 6) ⟨hx, hb, hml, hown, hts⟩ 0 (m_boxes l D cy ad wy mt hj σ (((nI j) / 3) - 2) ((nI j) - (nI j) / 3 * 3) ) (cwV 2 hts gX7_act_X7_boxes rfl rfl rfl (by decide +kernel) ⟨by decide, by decide⟩) h0 hP hS (by decide) mF_0 rfl rfl rfl hl.1 (Nat.le_of_ble_eq_true rfl) dX7_act_247 ⟨Nat.zero_le _, Nat.zero_le _⟩ (fun H locs hP hS => ?_)
    exact g_iret hx hb hr hlocks hP hS dX7_act_250 (by unfold mAct; rw [if_neg (show ¬ (13 : Nat) = 0 by decide), if_neg (show ¬ (13 : Nat) = 1 by decide), if_neg (show ¬ (13 : Nat) = 2 by decide), if_neg (show ¬ (13 : Nat) = 3 by decide), if_neg (show ¬ (13 : Nat) = 4 by decide), if_neg (show ¬ (13 : Nat) = 5 by decide), if_neg (show ¬ (13 : Nat) = 6 by decide), if_neg (show ¬ (13 : Nat) = 7 by decide), if_neg (show ¬ (13 : Nat) = 8 by decide), if_neg (show ¬ (13 : Nat) = 9 by decide), if_neg (show ¬ (13 : Nat) = 10 by decide), if_neg (show ¬ (13 : Nat) = 11 by decide), if_neg (show ¬ (13 : Nat) = 12 by decide), if_pos (rfl : (13 : Nat) = 13)] <;> rfl)
  · skip
    refine lv_tableIn (off := 250) (tgt := 251) hx hb dX7_act_1 (by decide) (by decide) (by decide) (by decide) ?_
    refine lv_aload_n hx hb dX7_act_251 rfl (lv_at hl 0 rfl) ?_
    refine lv_iload_n hx hb dX7_act_252 rfl (lv_at hl 2 rfl) ?_
    refine lv_bipush (v := 6) hx hb dX7_act_253 (by decide) ?_
    refine lv_idiv hx hb dX7_act_255 (by decide) ?_
    refine lv_iconst (v := 1) hx hb dX7_act_256 (by decide) ?_
    refine lv_isub hx hb dX7_act_257 ?_
    refine lv_iload_n hx hb dX7_act_258 rfl (lv_at hl 2 rfl) ?_
    refine lv_bipush (v := 6) hx hb dX7_act_259 (by decide) ?_
    refine lv_irem hx hb dX7_act_261 (by decide) ?_
    refine lv_iconst (v := 1) hx hb dX7_act_262 (by decide) ?_
    refine lv_isub hx hb dX7_act_263 ?_
    refine g_callV (As := [.int (((nI j) / 6) - 1), .int (((nI j) - (nI j) / 6 * 6) - 1)]) (rest := []) (N := 28) (T := TX7) (ci := 6) ⟨hx, hb, hml, hown, hts⟩ 0 (m_grids l D cy ad wy mt hj σ (((nI j) / 6) - 1) (((nI j) - (nI j) / 6 * 6) - 1) ) (cwV 2 hts gX7_act_X7_grids rfl rfl rfl (by decide +kernel) ⟨by decide, by decide⟩) h0 hP hS (by decide) mF_0 rfl rfl rfl hl.1 (Nat.le_of_ble_eq_true rfl) dX7_act_264 ⟨Nat.zero_le _, Nat.zero_le _⟩ (fun H locs hP hS => ?_)
    exact g_iret hx hb hr hlocks hP hS dX7_act_267 (by unfold mAct; rw [if_neg (show ¬ (14 : Nat) = 0 by decide), if_neg (show ¬ (14 : Nat) = 1 by decide), if_neg (show ¬ (14 : Nat) = 2 by decide), if_neg (show ¬ (14 : Nat) = 3 by decide), if_neg (show ¬ (14 : Nat) = 4 by decide), if_neg (show ¬ (14 : Nat) = 5 by decide), if_neg (show ¬ (14 : Nat) = 6 by decide), if_neg (show ¬ (14 : Nat) = 7 by decide), if_neg (show ¬ (14 : Nat) = 8 by decide), if_neg (show ¬ (14 : Nat) = 9 by decide), if_neg (show ¬ (14 : Nat) = 10 by decide), if_neg (show ¬ (14 : Nat) = 11 by decide), if_neg (show ¬ (14 : Nat) = 12 by decide), if_neg (show ¬ (14 : Nat) = 13 by decide), if_pos (rfl : (14 : Nat) = 14)] <;> rfl)
  · skip
    refine lv_tableIn (off := 267) (tgt := 268) hx hb dX7_act_1 (by decide) (by decide) (by decide) (by decide) ?_
    refine lv_aload_n hx hb dX7_act_268 rfl (lv_at hl 0 rfl) ?_
    refine lv_iload_n hx hb dX7_act_269 rfl (lv_at hl 2 rfl) ?_
    refine lv_bipush (v := 10) hx hb dX7_act_270 (by decide) ?_
    refine lv_irem hx hb dX7_act_272 (by decide) ?_
    refine g_top (y := nI (j % 10)) (pk_rem (d := 10) (by omega) (by decide) (by decide)) ?_
    refine lv_iload_n hx hb dX7_act_273 rfl (lv_at hl 2 rfl) ?_
    refine lv_bipush (v := 10) hx hb dX7_act_274 (by decide) ?_
    refine lv_idiv hx hb dX7_act_276 (by decide) ?_
    have hbx := hbx (j / 10) (by omega)
    refine g_top (y := nI (j / 10)) (pk_div (d := 10) (by omega) (by decide) (by decide)) ?_
    refine g_callV (As := [.int (nI (j % 10)), .int (nI (j / 10))]) (rest := []) (N := 28) (T := TX7) (ci := 6) ⟨hx, hb, hml, hown, hts⟩ 0 (m_puts l D cy ad wy mt hj σ (j % 10) (j / 10) (by omega) (by omega) hbx) (cwV 2 hts gX7_act_X7_puts rfl rfl rfl (by decide +kernel) ⟨by decide, by decide⟩) h0 hP hS (by decide) mF_0 rfl rfl rfl hl.1 (Nat.le_of_ble_eq_true rfl) dX7_act_277 ⟨Nat.zero_le _, Nat.zero_le _⟩ (fun H locs hP hS => ?_)
    exact g_iret hx hb hr hlocks hP hS dX7_act_280 (by unfold mAct; rw [if_neg (show ¬ (15 : Nat) = 0 by decide), if_neg (show ¬ (15 : Nat) = 1 by decide), if_neg (show ¬ (15 : Nat) = 2 by decide), if_neg (show ¬ (15 : Nat) = 3 by decide), if_neg (show ¬ (15 : Nat) = 4 by decide), if_neg (show ¬ (15 : Nat) = 5 by decide), if_neg (show ¬ (15 : Nat) = 6 by decide), if_neg (show ¬ (15 : Nat) = 7 by decide), if_neg (show ¬ (15 : Nat) = 8 by decide), if_neg (show ¬ (15 : Nat) = 9 by decide), if_neg (show ¬ (15 : Nat) = 10 by decide), if_neg (show ¬ (15 : Nat) = 11 by decide), if_neg (show ¬ (15 : Nat) = 12 by decide), if_neg (show ¬ (15 : Nat) = 13 by decide), if_neg (show ¬ (15 : Nat) = 14 by decide), if_pos (rfl : (15 : Nat) = 15)] <;> rfl)
  · skip
    refine lv_tableIn (off := 280) (tgt := 281) hx hb dX7_act_1 (by decide) (by decide) (by decide) (by decide) ?_
    refine lv_aload_n hx hb dX7_act_281 rfl (lv_at hl 0 rfl) ?_
    refine lv_iload_n hx hb dX7_act_282 rfl (lv_at hl 3 rfl) ?_
    refine lv_iload_n hx hb dX7_act_283 rfl (lv_at hl 2 rfl) ?_
    refine g_callV (As := [.int (nI v), .int (nI j)]) (rest := []) (N := 28) (T := TX7) (ci := 6) ⟨hx, hb, hml, hown, hts⟩ 0 (m_counts l D cy ad wy mt hj σ v (by omega) (nI j)) (cwV 2 hts gX7_act_X7_counts rfl rfl rfl (by decide +kernel) ⟨by decide, by decide⟩) h0 hP hS (by decide) mF_0 rfl rfl rfl hl.1 (Nat.le_of_ble_eq_true rfl) dX7_act_284 ⟨Nat.zero_le _, Nat.zero_le _⟩ (fun H locs hP hS => ?_)
    exact g_iret hx hb hr hlocks hP hS dX7_act_287 (by unfold mAct; rw [if_neg (show ¬ (16 : Nat) = 0 by decide), if_neg (show ¬ (16 : Nat) = 1 by decide), if_neg (show ¬ (16 : Nat) = 2 by decide), if_neg (show ¬ (16 : Nat) = 3 by decide), if_neg (show ¬ (16 : Nat) = 4 by decide), if_neg (show ¬ (16 : Nat) = 5 by decide), if_neg (show ¬ (16 : Nat) = 6 by decide), if_neg (show ¬ (16 : Nat) = 7 by decide), if_neg (show ¬ (16 : Nat) = 8 by decide), if_neg (show ¬ (16 : Nat) = 9 by decide), if_neg (show ¬ (16 : Nat) = 10 by decide), if_neg (show ¬ (16 : Nat) = 11 by decide), if_neg (show ¬ (16 : Nat) = 12 by decide), if_neg (show ¬ (16 : Nat) = 13 by decide), if_neg (show ¬ (16 : Nat) = 14 by decide), if_neg (show ¬ (16 : Nat) = 15 by decide), if_pos (rfl : (16 : Nat) = 16)] <;> rfl)
  · skip
    refine lv_tableOut (tgt := 288) hx hb dX7_act_1 (by decide) (by decide) ?_
    have hj4 := hj4 (by decide)
    refine lv_aload_n hx hb dX7_act_288 rfl (lv_at hl 0 rfl) ?_
    refine lv_iload_n hx hb dX7_act_289 rfl (lv_at hl 2 rfl) ?_
    refine g_callV (As := [.int (nI j)]) (rest := []) (N := 28) (T := TX7) (ci := 6) ⟨hx, hb, hml, hown, hts⟩ 0 (m_raises l D cy ad wy mt hj σ j (by omega)) (cwV 1 hts gX7_act_X7_raises rfl rfl rfl (by decide +kernel) ⟨by decide, by decide⟩) h0 hP hS (by decide) mF_0 rfl rfl rfl hl.1 (Nat.le_of_ble_eq_true rfl) dX7_act_290 ⟨Nat.zero_le _, Nat.zero_le _⟩ (fun H locs hP hS => ?_)
    exact g_iret hx hb hr hlocks hP hS dX7_act_293 (by unfold mAct; rw [if_neg (show ¬ (17 : Nat) = 0 by decide), if_neg (show ¬ (17 : Nat) = 1 by decide), if_neg (show ¬ (17 : Nat) = 2 by decide), if_neg (show ¬ (17 : Nat) = 3 by decide), if_neg (show ¬ (17 : Nat) = 4 by decide), if_neg (show ¬ (17 : Nat) = 5 by decide), if_neg (show ¬ (17 : Nat) = 6 by decide), if_neg (show ¬ (17 : Nat) = 7 by decide), if_neg (show ¬ (17 : Nat) = 8 by decide), if_neg (show ¬ (17 : Nat) = 9 by decide), if_neg (show ¬ (17 : Nat) = 10 by decide), if_neg (show ¬ (17 : Nat) = 11 by decide), if_neg (show ¬ (17 : Nat) = 12 by decide), if_neg (show ¬ (17 : Nat) = 13 by decide), if_neg (show ¬ (17 : Nat) = 14 by decide), if_neg (show ¬ (17 : Nat) = 15 by decide), if_neg (show ¬ (17 : Nat) = 16 by decide)] <;> rfl)
end
